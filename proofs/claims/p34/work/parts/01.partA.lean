-- ===== PART A: goes FIRST, ahead of the names: the tables' words, and 'selects' of the private methods out of them =====
/-- a private method of a class that the tables say can be made, by its rows of tables_1 -/
def lw_okq (q : MethodName × Nat) : Prop := (q.1.cls ≠ "java/lang/invoke/MethodHandle" ∧ q.1.cls ≠ "java/lang/invoke/VarHandle") ∧ Cond.instantiable q.1.cls q.2 ∈ tables_1 ∧ Cond.privateMethod q.1 ∈ tables_1 ∧ Cond.instanceMethod q.1 ∈ tables_1
theorem lw_p0 : lw_okq (⟨"MajorityIndex", "laidTree", "()LMajorityIndex$Tree;"⟩, 9) := ⟨⟨by decide +kernel, by decide +kernel⟩, List.mem_append_left _ (List.mem_of_getElem? (i := 14) rfl), List.mem_append_left _ (List.mem_of_getElem? (i := 197) rfl), List.mem_append_left _ (List.mem_of_getElem? (i := 198) rfl)⟩
theorem lw_p1 : lw_okq (⟨"MajorityIndex$Tree", "layBelow", "(I)V"⟩, 11) := ⟨⟨by decide +kernel, by decide +kernel⟩, List.mem_append_left _ (List.mem_of_getElem? (i := 41) rfl), List.mem_append_left _ (List.mem_of_getElem? (i := 205) rfl), List.mem_append_left _ (List.mem_of_getElem? (i := 206) rfl)⟩
theorem lw_p2 : lw_okq (⟨"MajorityIndex$Tree", "rightBelow", "(I)I"⟩, 11) := ⟨⟨by decide +kernel, by decide +kernel⟩, List.mem_append_left _ (List.mem_of_getElem? (i := 41) rfl), List.mem_append_left _ (List.mem_of_getElem? (i := 209) rfl), List.mem_append_left _ (List.mem_of_getElem? (i := 210) rfl)⟩
theorem lw_p3 : lw_okq (⟨"MajorityIndex$Tree", "putTogether", "(I)V"⟩, 11) := ⟨⟨by decide +kernel, by decide +kernel⟩, List.mem_append_left _ (List.mem_of_getElem? (i := 41) rfl), List.mem_append_left _ (List.mem_of_getElem? (i := 217) rfl), List.mem_append_left _ (List.mem_of_getElem? (i := 218) rfl)⟩
theorem lw_p4 : lw_okq (⟨"MajorityIndex$Tree", "joinNode", "(LMajorityIndex$Votes;I)V"⟩, 11) := ⟨⟨by decide +kernel, by decide +kernel⟩, List.mem_append_left _ (List.mem_of_getElem? (i := 41) rfl), List.mem_append_left _ (List.mem_of_getElem? (i := 229) rfl), List.mem_append_left _ (List.mem_of_getElem? (i := 230) rfl)⟩
theorem lw_p5 : lw_okq (⟨"MajorityIndex$Votes", "isAhead", "(II)Z"⟩, 5) := ⟨⟨by decide +kernel, by decide +kernel⟩, List.mem_append_left _ (List.mem_of_getElem? (i := 47) rfl), List.mem_append_right _ (List.mem_append_left _ (List.mem_of_getElem? (i := 1) rfl)), List.mem_append_right _ (List.mem_append_left _ (List.mem_of_getElem? (i := 2) rfl))⟩
theorem lw_p6 : lw_okq (⟨"MajorityIndex$Votes", "exchange", "(II)V"⟩, 5) := ⟨⟨by decide +kernel, by decide +kernel⟩, List.mem_append_left _ (List.mem_of_getElem? (i := 47) rfl), List.mem_append_right _ (List.mem_append_left _ (List.mem_of_getElem? (i := 5) rfl)), List.mem_append_right _ (List.mem_append_left _ (List.mem_of_getElem? (i := 6) rfl))⟩
theorem lw_p7 : lw_okq (⟨"MajorityIndex$Tree", "isJoined", "(I)Z"⟩, 11) := ⟨⟨by decide +kernel, by decide +kernel⟩, List.mem_append_left _ (List.mem_of_getElem? (i := 41) rfl), List.mem_append_right _ (List.mem_append_left _ (List.mem_of_getElem? (i := 9) rfl)), List.mem_append_right _ (List.mem_append_left _ (List.mem_of_getElem? (i := 10) rfl))⟩
theorem lw_p8 : lw_okq (⟨"MajorityIndex$Tree", "keepJoined", "(I)V"⟩, 11) := ⟨⟨by decide +kernel, by decide +kernel⟩, List.mem_append_left _ (List.mem_of_getElem? (i := 41) rfl), List.mem_append_right _ (List.mem_append_left _ (List.mem_of_getElem? (i := 13) rfl)), List.mem_append_right _ (List.mem_append_left _ (List.mem_of_getElem? (i := 14) rfl))⟩
theorem lw_p9 : lw_okq (⟨"MajorityIndex", "overwrite", "(LMajorityIndex$Tree;III)I"⟩, 9) := ⟨⟨by decide +kernel, by decide +kernel⟩, List.mem_append_left _ (List.mem_of_getElem? (i := 14) rfl), List.mem_append_right _ (List.mem_append_left _ (List.mem_of_getElem? (i := 20) rfl)), List.mem_append_right _ (List.mem_append_left _ (List.mem_of_getElem? (i := 21) rfl))⟩
theorem lw_p10 : lw_okq (⟨"MajorityIndex", "isEnough", "(II)Z"⟩, 9) := ⟨⟨by decide +kernel, by decide +kernel⟩, List.mem_append_left _ (List.mem_of_getElem? (i := 14) rfl), List.mem_append_right _ (List.mem_append_left _ (List.mem_of_getElem? (i := 180) rfl)), List.mem_append_right _ (List.mem_append_left _ (List.mem_of_getElem? (i := 181) rfl))⟩
theorem lw_p11 : lw_okq (⟨"MajorityIndex", "gatherHeavy", "(LMajorityIndex$Tree;IIII)V"⟩, 9) := ⟨⟨by decide +kernel, by decide +kernel⟩, List.mem_append_left _ (List.mem_of_getElem? (i := 14) rfl), List.mem_append_right _ (List.mem_append_left _ (List.mem_of_getElem? (i := 184) rfl)), List.mem_append_right _ (List.mem_append_left _ (List.mem_of_getElem? (i := 185) rfl))⟩
theorem lw_p12 : lw_okq (⟨"MajorityIndex", "heavyValues", "(IIII)I"⟩, 9) := ⟨⟨by decide +kernel, by decide +kernel⟩, List.mem_append_left _ (List.mem_of_getElem? (i := 14) rfl), List.mem_append_right _ (List.mem_append_left _ (List.mem_of_getElem? (i := 203) rfl)), List.mem_append_right _ (List.mem_append_left _ (List.mem_of_getElem? (i := 204) rfl))⟩
theorem lw_p13 : lw_okq (⟨"MajorityIndex", "heavyVotesBy", "(LMajorityIndex$Tree;IIIII)I"⟩, 9) := ⟨⟨by decide +kernel, by decide +kernel⟩, List.mem_append_left _ (List.mem_of_getElem? (i := 14) rfl), List.mem_append_right _ (List.mem_append_left _ (List.mem_of_getElem? (i := 208) rfl)), List.mem_append_right _ (List.mem_append_left _ (List.mem_of_getElem? (i := 209) rfl))⟩
theorem lw_p14 : lw_okq (⟨"MajorityIndex", "refusalOfBoth", "(IIIIII)I"⟩, 9) := ⟨⟨by decide +kernel, by decide +kernel⟩, List.mem_append_left _ (List.mem_of_getElem? (i := 14) rfl), List.mem_append_right _ (List.mem_append_left _ (List.mem_of_getElem? (i := 230) rfl)), List.mem_append_right _ (List.mem_append_left _ (List.mem_of_getElem? (i := 231) rfl))⟩
theorem lw_p15 : lw_okq (⟨"MajorityIndex", "gatherHeavyOfBoth", "(LMajorityIndex$Tree;IIIIII)V"⟩, 9) := ⟨⟨by decide +kernel, by decide +kernel⟩, List.mem_append_left _ (List.mem_of_getElem? (i := 14) rfl), List.mem_append_right _ (List.mem_append_left _ (List.mem_of_getElem? (i := 234) rfl)), List.mem_append_right _ (List.mem_append_left _ (List.mem_of_getElem? (i := 235) rfl))⟩
def lw_privs_1 : List (MethodName × Nat) := [(⟨"MajorityIndex", "laidTree", "()LMajorityIndex$Tree;"⟩, 9), (⟨"MajorityIndex$Tree", "layBelow", "(I)V"⟩, 11), (⟨"MajorityIndex$Tree", "rightBelow", "(I)I"⟩, 11), (⟨"MajorityIndex$Tree", "putTogether", "(I)V"⟩, 11), (⟨"MajorityIndex$Tree", "joinNode", "(LMajorityIndex$Votes;I)V"⟩, 11), (⟨"MajorityIndex$Votes", "isAhead", "(II)Z"⟩, 5), (⟨"MajorityIndex$Votes", "exchange", "(II)V"⟩, 5), (⟨"MajorityIndex$Tree", "isJoined", "(I)Z"⟩, 11), (⟨"MajorityIndex$Tree", "keepJoined", "(I)V"⟩, 11), (⟨"MajorityIndex", "overwrite", "(LMajorityIndex$Tree;III)I"⟩, 9), (⟨"MajorityIndex", "isEnough", "(II)Z"⟩, 9), (⟨"MajorityIndex", "gatherHeavy", "(LMajorityIndex$Tree;IIII)V"⟩, 9), (⟨"MajorityIndex", "heavyValues", "(IIII)I"⟩, 9), (⟨"MajorityIndex", "heavyVotesBy", "(LMajorityIndex$Tree;IIIII)I"⟩, 9), (⟨"MajorityIndex", "refusalOfBoth", "(IIIIII)I"⟩, 9), (⟨"MajorityIndex", "gatherHeavyOfBoth", "(LMajorityIndex$Tree;IIIIII)V"⟩, 9)]
theorem lw_r1 : ∀ q ∈ lw_privs_1, lw_okq q := List.forall_mem_cons.mpr ⟨lw_p0, List.forall_mem_cons.mpr ⟨lw_p1, List.forall_mem_cons.mpr ⟨lw_p2, List.forall_mem_cons.mpr ⟨lw_p3, List.forall_mem_cons.mpr ⟨lw_p4, List.forall_mem_cons.mpr ⟨lw_p5, List.forall_mem_cons.mpr ⟨lw_p6, List.forall_mem_cons.mpr ⟨lw_p7, List.forall_mem_cons.mpr ⟨lw_p8, List.forall_mem_cons.mpr ⟨lw_p9, List.forall_mem_cons.mpr ⟨lw_p10, List.forall_mem_cons.mpr ⟨lw_p11, List.forall_mem_cons.mpr ⟨lw_p12, List.forall_mem_cons.mpr ⟨lw_p13, List.forall_mem_cons.mpr ⟨lw_p14, List.forall_mem_cons.mpr ⟨lw_p15, fun _ h => absurd h List.not_mem_nil⟩⟩⟩⟩⟩⟩⟩⟩⟩⟩⟩⟩⟩⟩⟩⟩
theorem lw_p16 : lw_okq (⟨"MajorityIndex", "farthestHeavy", "(IIII)I"⟩, 9) := ⟨⟨by decide +kernel, by decide +kernel⟩, List.mem_append_left _ (List.mem_of_getElem? (i := 14) rfl), List.mem_append_right _ (List.mem_append_right _ (List.mem_append_left _ (List.mem_of_getElem? (i := 12) rfl))), List.mem_append_right _ (List.mem_append_right _ (List.mem_append_left _ (List.mem_of_getElem? (i := 13) rfl)))⟩
theorem lw_p17 : lw_okq (⟨"MajorityIndex", "slideWindow", "(III)I"⟩, 9) := ⟨⟨by decide +kernel, by decide +kernel⟩, List.mem_append_left _ (List.mem_of_getElem? (i := 14) rfl), List.mem_append_right _ (List.mem_append_right _ (List.mem_append_left _ (List.mem_of_getElem? (i := 52) rfl))), List.mem_append_right _ (List.mem_append_right _ (List.mem_append_left _ (List.mem_of_getElem? (i := 53) rfl)))⟩
theorem lw_p18 : lw_okq (⟨"MajorityIndex", "creditHeavy", "(III)Z"⟩, 9) := ⟨⟨by decide +kernel, by decide +kernel⟩, List.mem_append_left _ (List.mem_of_getElem? (i := 14) rfl), List.mem_append_right _ (List.mem_append_right _ (List.mem_append_left _ (List.mem_of_getElem? (i := 60) rfl))), List.mem_append_right _ (List.mem_append_right _ (List.mem_append_left _ (List.mem_of_getElem? (i := 61) rfl)))⟩
theorem lw_p19 : lw_okq (⟨"MajorityIndex", "kindOfMostWins", "()I"⟩, 9) := ⟨⟨by decide +kernel, by decide +kernel⟩, List.mem_append_left _ (List.mem_of_getElem? (i := 14) rfl), List.mem_append_right _ (List.mem_append_right _ (List.mem_append_left _ (List.mem_of_getElem? (i := 64) rfl))), List.mem_append_right _ (List.mem_append_right _ (List.mem_append_left _ (List.mem_of_getElem? (i := 65) rfl)))⟩
theorem lw_p20 : lw_okq (⟨"MajorityIndex", "rootTotalWith", "(LMajorityIndex$Tree;II)I"⟩, 9) := ⟨⟨by decide +kernel, by decide +kernel⟩, List.mem_append_left _ (List.mem_of_getElem? (i := 14) rfl), List.mem_append_right _ (List.mem_append_right _ (List.mem_append_left _ (List.mem_of_getElem? (i := 87) rfl))), List.mem_append_right _ (List.mem_append_right _ (List.mem_append_left _ (List.mem_of_getElem? (i := 88) rfl)))⟩
theorem lw_p21 : lw_okq (⟨"java/lang/Throwable", "fillInStackTrace", "(I)Ljava/lang/Throwable;"⟩, 6) := ⟨⟨by decide +kernel, by decide +kernel⟩, List.mem_append_right _ (List.mem_append_right _ (List.mem_append_left _ (List.mem_of_getElem? (i := 157) rfl))), List.mem_append_right _ (List.mem_append_right _ (List.mem_append_left _ (List.mem_of_getElem? (i := 155) rfl))), List.mem_append_right _ (List.mem_append_right _ (List.mem_append_left _ (List.mem_of_getElem? (i := 156) rfl)))⟩
theorem lw_p22 : lw_okq (⟨"MajorityIndexModel", "isPlace", "(I)Z"⟩, 30) := ⟨⟨by decide +kernel, by decide +kernel⟩, List.mem_append_right _ (List.mem_append_right _ (List.mem_append_left _ (List.mem_of_getElem? (i := 203) rfl))), List.mem_append_right _ (List.mem_append_right _ (List.mem_append_right _ (List.mem_append_left _ (List.mem_of_getElem? (i := 79) rfl)))), List.mem_append_right _ (List.mem_append_right _ (List.mem_append_right _ (List.mem_append_left _ (List.mem_of_getElem? (i := 80) rfl))))⟩
theorem lw_p23 : lw_okq (⟨"MajorityIndexModel", "keeps", "()V"⟩, 30) := ⟨⟨by decide +kernel, by decide +kernel⟩, List.mem_append_right _ (List.mem_append_right _ (List.mem_append_left _ (List.mem_of_getElem? (i := 203) rfl))), List.mem_append_right _ (List.mem_append_right _ (List.mem_append_right _ (List.mem_append_left _ (List.mem_of_getElem? (i := 86) rfl)))), List.mem_append_right _ (List.mem_append_right _ (List.mem_append_right _ (List.mem_append_left _ (List.mem_of_getElem? (i := 87) rfl))))⟩
theorem lw_p24 : lw_okq (⟨"MajorityIndexModel", "laysAll", "(I)V"⟩, 30) := ⟨⟨by decide +kernel, by decide +kernel⟩, List.mem_append_right _ (List.mem_append_right _ (List.mem_append_left _ (List.mem_of_getElem? (i := 203) rfl))), List.mem_append_right _ (List.mem_append_right _ (List.mem_append_right _ (List.mem_append_left _ (List.mem_of_getElem? (i := 90) rfl)))), List.mem_append_right _ (List.mem_append_right _ (List.mem_append_right _ (List.mem_append_left _ (List.mem_of_getElem? (i := 91) rfl))))⟩
theorem lw_p25 : lw_okq (⟨"MajorityIndexModel", "lays", "(III)I"⟩, 30) := ⟨⟨by decide +kernel, by decide +kernel⟩, List.mem_append_right _ (List.mem_append_right _ (List.mem_append_left _ (List.mem_of_getElem? (i := 203) rfl))), List.mem_append_right _ (List.mem_append_right _ (List.mem_append_right _ (List.mem_append_left _ (List.mem_of_getElem? (i := 94) rfl)))), List.mem_append_right _ (List.mem_append_right _ (List.mem_append_right _ (List.mem_append_left _ (List.mem_of_getElem? (i := 95) rfl))))⟩
theorem lw_p26 : lw_okq (⟨"MajorityIndexModel", "one", "(II)V"⟩, 30) := ⟨⟨by decide +kernel, by decide +kernel⟩, List.mem_append_right _ (List.mem_append_right _ (List.mem_append_left _ (List.mem_of_getElem? (i := 203) rfl))), List.mem_append_right _ (List.mem_append_right _ (List.mem_append_right _ (List.mem_append_left _ (List.mem_of_getElem? (i := 98) rfl)))), List.mem_append_right _ (List.mem_append_right _ (List.mem_append_right _ (List.mem_append_left _ (List.mem_of_getElem? (i := 99) rfl))))⟩
theorem lw_p27 : lw_okq (⟨"MajorityIndexModel", "together", "(IIII)V"⟩, 30) := ⟨⟨by decide +kernel, by decide +kernel⟩, List.mem_append_right _ (List.mem_append_right _ (List.mem_append_left _ (List.mem_of_getElem? (i := 203) rfl))), List.mem_append_right _ (List.mem_append_right _ (List.mem_append_right _ (List.mem_append_left _ (List.mem_of_getElem? (i := 102) rfl)))), List.mem_append_right _ (List.mem_append_right _ (List.mem_append_right _ (List.mem_append_left _ (List.mem_of_getElem? (i := 103) rfl))))⟩
theorem lw_p28 : lw_okq (⟨"MajorityIndexModel", "adds", "(II)V"⟩, 30) := ⟨⟨by decide +kernel, by decide +kernel⟩, List.mem_append_right _ (List.mem_append_right _ (List.mem_append_left _ (List.mem_of_getElem? (i := 203) rfl))), List.mem_append_right _ (List.mem_append_right _ (List.mem_append_right _ (List.mem_append_left _ (List.mem_of_getElem? (i := 106) rfl)))), List.mem_append_right _ (List.mem_append_right _ (List.mem_append_right _ (List.mem_append_left _ (List.mem_of_getElem? (i := 107) rfl))))⟩
theorem lw_p29 : lw_okq (⟨"MajorityIndexModel", "sorts", "()V"⟩, 30) := ⟨⟨by decide +kernel, by decide +kernel⟩, List.mem_append_right _ (List.mem_append_right _ (List.mem_append_left _ (List.mem_of_getElem? (i := 203) rfl))), List.mem_append_right _ (List.mem_append_right _ (List.mem_append_right _ (List.mem_append_left _ (List.mem_of_getElem? (i := 110) rfl)))), List.mem_append_right _ (List.mem_append_right _ (List.mem_append_right _ (List.mem_append_left _ (List.mem_of_getElem? (i := 111) rfl))))⟩
theorem lw_p30 : lw_okq (⟨"MajorityIndexModel", "isAhead", "(II)Z"⟩, 30) := ⟨⟨by decide +kernel, by decide +kernel⟩, List.mem_append_right _ (List.mem_append_right _ (List.mem_append_left _ (List.mem_of_getElem? (i := 203) rfl))), List.mem_append_right _ (List.mem_append_right _ (List.mem_append_right _ (List.mem_append_left _ (List.mem_of_getElem? (i := 114) rfl)))), List.mem_append_right _ (List.mem_append_right _ (List.mem_append_right _ (List.mem_append_left _ (List.mem_of_getElem? (i := 115) rfl))))⟩
theorem lw_p31 : lw_okq (⟨"MajorityIndexModel", "others", "()I"⟩, 30) := ⟨⟨by decide +kernel, by decide +kernel⟩, List.mem_append_right _ (List.mem_append_right _ (List.mem_append_left _ (List.mem_of_getElem? (i := 203) rfl))), List.mem_append_right _ (List.mem_append_right _ (List.mem_append_right _ (List.mem_append_left _ (List.mem_of_getElem? (i := 118) rfl)))), List.mem_append_right _ (List.mem_append_right _ (List.mem_append_right _ (List.mem_append_left _ (List.mem_of_getElem? (i := 119) rfl))))⟩
def lw_privs_2 : List (MethodName × Nat) := [(⟨"MajorityIndex", "farthestHeavy", "(IIII)I"⟩, 9), (⟨"MajorityIndex", "slideWindow", "(III)I"⟩, 9), (⟨"MajorityIndex", "creditHeavy", "(III)Z"⟩, 9), (⟨"MajorityIndex", "kindOfMostWins", "()I"⟩, 9), (⟨"MajorityIndex", "rootTotalWith", "(LMajorityIndex$Tree;II)I"⟩, 9), (⟨"java/lang/Throwable", "fillInStackTrace", "(I)Ljava/lang/Throwable;"⟩, 6), (⟨"MajorityIndexModel", "isPlace", "(I)Z"⟩, 30), (⟨"MajorityIndexModel", "keeps", "()V"⟩, 30), (⟨"MajorityIndexModel", "laysAll", "(I)V"⟩, 30), (⟨"MajorityIndexModel", "lays", "(III)I"⟩, 30), (⟨"MajorityIndexModel", "one", "(II)V"⟩, 30), (⟨"MajorityIndexModel", "together", "(IIII)V"⟩, 30), (⟨"MajorityIndexModel", "adds", "(II)V"⟩, 30), (⟨"MajorityIndexModel", "sorts", "()V"⟩, 30), (⟨"MajorityIndexModel", "isAhead", "(II)Z"⟩, 30), (⟨"MajorityIndexModel", "others", "()I"⟩, 30)]
theorem lw_r2 : ∀ q ∈ lw_privs_2, lw_okq q := List.forall_mem_cons.mpr ⟨lw_p16, List.forall_mem_cons.mpr ⟨lw_p17, List.forall_mem_cons.mpr ⟨lw_p18, List.forall_mem_cons.mpr ⟨lw_p19, List.forall_mem_cons.mpr ⟨lw_p20, List.forall_mem_cons.mpr ⟨lw_p21, List.forall_mem_cons.mpr ⟨lw_p22, List.forall_mem_cons.mpr ⟨lw_p23, List.forall_mem_cons.mpr ⟨lw_p24, List.forall_mem_cons.mpr ⟨lw_p25, List.forall_mem_cons.mpr ⟨lw_p26, List.forall_mem_cons.mpr ⟨lw_p27, List.forall_mem_cons.mpr ⟨lw_p28, List.forall_mem_cons.mpr ⟨lw_p29, List.forall_mem_cons.mpr ⟨lw_p30, List.forall_mem_cons.mpr ⟨lw_p31, fun _ h => absurd h List.not_mem_nil⟩⟩⟩⟩⟩⟩⟩⟩⟩⟩⟩⟩⟩⟩⟩⟩
theorem lw_p32 : lw_okq (⟨"MajorityIndexModel", "isRange", "(II)Z"⟩, 30) := ⟨⟨by decide +kernel, by decide +kernel⟩, List.mem_append_right _ (List.mem_append_right _ (List.mem_append_left _ (List.mem_of_getElem? (i := 203) rfl))), List.mem_append_right _ (List.mem_append_right _ (List.mem_append_right _ (List.mem_append_left _ (List.mem_of_getElem? (i := 126) rfl)))), List.mem_append_right _ (List.mem_append_right _ (List.mem_append_right _ (List.mem_append_left _ (List.mem_of_getElem? (i := 127) rfl))))⟩
theorem lw_p33 : lw_okq (⟨"MajorityIndexModel", "exchanges", "(II)V"⟩, 30) := ⟨⟨by decide +kernel, by decide +kernel⟩, List.mem_append_right _ (List.mem_append_right _ (List.mem_append_left _ (List.mem_of_getElem? (i := 203) rfl))), List.mem_append_right _ (List.mem_append_right _ (List.mem_append_right _ (List.mem_append_left _ (List.mem_of_getElem? (i := 134) rfl)))), List.mem_append_right _ (List.mem_append_right _ (List.mem_append_right _ (List.mem_append_left _ (List.mem_of_getElem? (i := 135) rfl))))⟩
theorem lw_p34 : lw_okq (⟨"MajorityIndexModel", "times", "(III)I"⟩, 30) := ⟨⟨by decide +kernel, by decide +kernel⟩, List.mem_append_right _ (List.mem_append_right _ (List.mem_append_left _ (List.mem_of_getElem? (i := 203) rfl))), List.mem_append_right _ (List.mem_append_right _ (List.mem_append_right _ (List.mem_append_left _ (List.mem_of_getElem? (i := 159) rfl)))), List.mem_append_right _ (List.mem_append_right _ (List.mem_append_right _ (List.mem_append_left _ (List.mem_of_getElem? (i := 160) rfl))))⟩
theorem lw_p35 : lw_okq (⟨"MajorityIndexModel", "asked", "(II)I"⟩, 30) := ⟨⟨by decide +kernel, by decide +kernel⟩, List.mem_append_right _ (List.mem_append_right _ (List.mem_append_left _ (List.mem_of_getElem? (i := 203) rfl))), List.mem_append_right _ (List.mem_append_right _ (List.mem_append_right _ (List.mem_append_left _ (List.mem_of_getElem? (i := 175) rfl)))), List.mem_append_right _ (List.mem_append_right _ (List.mem_append_right _ (List.mem_append_left _ (List.mem_of_getElem? (i := 176) rfl))))⟩
theorem lw_p36 : lw_okq (⟨"MajorityIndexModel", "nodeOf", "(II)I"⟩, 30) := ⟨⟨by decide +kernel, by decide +kernel⟩, List.mem_append_right _ (List.mem_append_right _ (List.mem_append_left _ (List.mem_of_getElem? (i := 203) rfl))), List.mem_append_right _ (List.mem_append_right _ (List.mem_append_right _ (List.mem_append_left _ (List.mem_of_getElem? (i := 179) rfl)))), List.mem_append_right _ (List.mem_append_right _ (List.mem_append_right _ (List.mem_append_left _ (List.mem_of_getElem? (i := 180) rfl))))⟩
theorem lw_p37 : lw_okq (⟨"MajorityIndexModel", "goesDown", "(I)V"⟩, 30) := ⟨⟨by decide +kernel, by decide +kernel⟩, List.mem_append_right _ (List.mem_append_right _ (List.mem_append_left _ (List.mem_of_getElem? (i := 203) rfl))), List.mem_append_right _ (List.mem_append_right _ (List.mem_append_right _ (List.mem_append_left _ (List.mem_of_getElem? (i := 199) rfl)))), List.mem_append_right _ (List.mem_append_right _ (List.mem_append_right _ (List.mem_append_left _ (List.mem_of_getElem? (i := 200) rfl))))⟩
theorem lw_p38 : lw_okq (⟨"MajorityIndexModel", "numberOf", "(II)I"⟩, 30) := ⟨⟨by decide +kernel, by decide +kernel⟩, List.mem_append_right _ (List.mem_append_right _ (List.mem_append_left _ (List.mem_of_getElem? (i := 203) rfl))), List.mem_append_right _ (List.mem_append_right _ (List.mem_append_right _ (List.mem_append_left _ (List.mem_of_getElem? (i := 203) rfl)))), List.mem_append_right _ (List.mem_append_right _ (List.mem_append_right _ (List.mem_append_left _ (List.mem_of_getElem? (i := 204) rfl))))⟩
theorem lw_p39 : lw_okq (⟨"MajorityIndexModel", "laysParts", "(II)V"⟩, 30) := ⟨⟨by decide +kernel, by decide +kernel⟩, List.mem_append_right _ (List.mem_append_right _ (List.mem_append_left _ (List.mem_of_getElem? (i := 203) rfl))), List.mem_append_right _ (List.mem_append_right _ (List.mem_append_right _ (List.mem_append_left _ (List.mem_of_getElem? (i := 215) rfl)))), List.mem_append_right _ (List.mem_append_right _ (List.mem_append_right _ (List.mem_append_left _ (List.mem_of_getElem? (i := 216) rfl))))⟩
theorem lw_p40 : lw_okq (⟨"MajorityIndexModel", "sums", "(II)V"⟩, 30) := ⟨⟨by decide +kernel, by decide +kernel⟩, List.mem_append_right _ (List.mem_append_right _ (List.mem_append_left _ (List.mem_of_getElem? (i := 203) rfl))), List.mem_append_right _ (List.mem_append_right _ (List.mem_append_right _ (List.mem_append_left _ (List.mem_of_getElem? (i := 227) rfl)))), List.mem_append_right _ (List.mem_append_right _ (List.mem_append_right _ (List.mem_append_left _ (List.mem_of_getElem? (i := 228) rfl))))⟩
theorem lw_p41 : lw_okq (⟨"MajorityIndexModel", "folds", "(IIII)V"⟩, 30) := ⟨⟨by decide +kernel, by decide +kernel⟩, List.mem_append_right _ (List.mem_append_right _ (List.mem_append_left _ (List.mem_of_getElem? (i := 203) rfl))), List.mem_append_right _ (List.mem_append_right _ (List.mem_append_right _ (List.mem_append_left _ (List.mem_of_getElem? (i := 231) rfl)))), List.mem_append_right _ (List.mem_append_right _ (List.mem_append_right _ (List.mem_append_left _ (List.mem_of_getElem? (i := 232) rfl))))⟩
theorem lw_p42 : lw_okq (⟨"MajorityIndexModel", "copies", "(II)V"⟩, 30) := ⟨⟨by decide +kernel, by decide +kernel⟩, List.mem_append_right _ (List.mem_append_right _ (List.mem_append_left _ (List.mem_of_getElem? (i := 203) rfl))), List.mem_append_right _ (List.mem_append_right _ (List.mem_append_right _ (List.mem_append_left _ (List.mem_of_getElem? (i := 235) rfl)))), List.mem_append_right _ (List.mem_append_right _ (List.mem_append_right _ (List.mem_append_left _ (List.mem_of_getElem? (i := 236) rfl))))⟩
theorem lw_p43 : lw_okq (⟨"MajorityIndexModel", "numbersOf", "(I)I"⟩, 30) := ⟨⟨by decide +kernel, by decide +kernel⟩, List.mem_append_right _ (List.mem_append_right _ (List.mem_append_left _ (List.mem_of_getElem? (i := 203) rfl))), List.mem_append_right _ (List.mem_append_right _ (List.mem_append_right _ (List.mem_append_left _ (List.mem_of_getElem? (i := 239) rfl)))), List.mem_append_right _ (List.mem_append_right _ (List.mem_append_right _ (List.mem_append_right _ (List.mem_of_getElem? (i := 0) rfl))))⟩
theorem lw_p44 : lw_okq (⟨"MajorityIndexModel", "isEnough", "(II)Z"⟩, 30) := ⟨⟨by decide +kernel, by decide +kernel⟩, List.mem_append_right _ (List.mem_append_right _ (List.mem_append_left _ (List.mem_of_getElem? (i := 203) rfl))), List.mem_append_right _ (List.mem_append_right _ (List.mem_append_right _ (List.mem_append_right _ (List.mem_of_getElem? (i := 22) rfl)))), List.mem_append_right _ (List.mem_append_right _ (List.mem_append_right _ (List.mem_append_right _ (List.mem_of_getElem? (i := 23) rfl))))⟩
theorem lw_p45 : lw_okq (⟨"MajorityIndexModel", "laysHeavy", "(IIIIII)V"⟩, 30) := ⟨⟨by decide +kernel, by decide +kernel⟩, List.mem_append_right _ (List.mem_append_right _ (List.mem_append_left _ (List.mem_of_getElem? (i := 203) rfl))), List.mem_append_right _ (List.mem_append_right _ (List.mem_append_right _ (List.mem_append_right _ (List.mem_of_getElem? (i := 26) rfl)))), List.mem_append_right _ (List.mem_append_right _ (List.mem_append_right _ (List.mem_append_right _ (List.mem_of_getElem? (i := 27) rfl))))⟩
theorem lw_p46 : lw_okq (⟨"MajorityIndexModel", "comes", "(II)V"⟩, 30) := ⟨⟨by decide +kernel, by decide +kernel⟩, List.mem_append_right _ (List.mem_append_right _ (List.mem_append_left _ (List.mem_of_getElem? (i := 203) rfl))), List.mem_append_right _ (List.mem_append_right _ (List.mem_append_right _ (List.mem_append_right _ (List.mem_of_getElem? (i := 30) rfl)))), List.mem_append_right _ (List.mem_append_right _ (List.mem_append_right _ (List.mem_append_right _ (List.mem_of_getElem? (i := 31) rfl))))⟩
theorem lw_p47 : lw_okq (⟨"MajorityIndexModel", "majorityOf", "(II)I"⟩, 30) := ⟨⟨by decide +kernel, by decide +kernel⟩, List.mem_append_right _ (List.mem_append_right _ (List.mem_append_left _ (List.mem_of_getElem? (i := 203) rfl))), List.mem_append_right _ (List.mem_append_right _ (List.mem_append_right _ (List.mem_append_right _ (List.mem_of_getElem? (i := 50) rfl)))), List.mem_append_right _ (List.mem_append_right _ (List.mem_append_right _ (List.mem_append_right _ (List.mem_of_getElem? (i := 51) rfl))))⟩
def lw_privs_3 : List (MethodName × Nat) := [(⟨"MajorityIndexModel", "isRange", "(II)Z"⟩, 30), (⟨"MajorityIndexModel", "exchanges", "(II)V"⟩, 30), (⟨"MajorityIndexModel", "times", "(III)I"⟩, 30), (⟨"MajorityIndexModel", "asked", "(II)I"⟩, 30), (⟨"MajorityIndexModel", "nodeOf", "(II)I"⟩, 30), (⟨"MajorityIndexModel", "goesDown", "(I)V"⟩, 30), (⟨"MajorityIndexModel", "numberOf", "(II)I"⟩, 30), (⟨"MajorityIndexModel", "laysParts", "(II)V"⟩, 30), (⟨"MajorityIndexModel", "sums", "(II)V"⟩, 30), (⟨"MajorityIndexModel", "folds", "(IIII)V"⟩, 30), (⟨"MajorityIndexModel", "copies", "(II)V"⟩, 30), (⟨"MajorityIndexModel", "numbersOf", "(I)I"⟩, 30), (⟨"MajorityIndexModel", "isEnough", "(II)Z"⟩, 30), (⟨"MajorityIndexModel", "laysHeavy", "(IIIIII)V"⟩, 30), (⟨"MajorityIndexModel", "comes", "(II)V"⟩, 30), (⟨"MajorityIndexModel", "majorityOf", "(II)I"⟩, 30)]
theorem lw_r3 : ∀ q ∈ lw_privs_3, lw_okq q := List.forall_mem_cons.mpr ⟨lw_p32, List.forall_mem_cons.mpr ⟨lw_p33, List.forall_mem_cons.mpr ⟨lw_p34, List.forall_mem_cons.mpr ⟨lw_p35, List.forall_mem_cons.mpr ⟨lw_p36, List.forall_mem_cons.mpr ⟨lw_p37, List.forall_mem_cons.mpr ⟨lw_p38, List.forall_mem_cons.mpr ⟨lw_p39, List.forall_mem_cons.mpr ⟨lw_p40, List.forall_mem_cons.mpr ⟨lw_p41, List.forall_mem_cons.mpr ⟨lw_p42, List.forall_mem_cons.mpr ⟨lw_p43, List.forall_mem_cons.mpr ⟨lw_p44, List.forall_mem_cons.mpr ⟨lw_p45, List.forall_mem_cons.mpr ⟨lw_p46, List.forall_mem_cons.mpr ⟨lw_p47, fun _ h => absurd h List.not_mem_nil⟩⟩⟩⟩⟩⟩⟩⟩⟩⟩⟩⟩⟩⟩⟩⟩
theorem lw_p48 : lw_okq (⟨"MajorityIndexModel", "laysNumbers", "()V"⟩, 30) := ⟨⟨by decide +kernel, by decide +kernel⟩, List.mem_append_right _ (List.mem_append_right _ (List.mem_append_left _ (List.mem_of_getElem? (i := 203) rfl))), List.mem_append_right _ (List.mem_append_right _ (List.mem_append_right _ (List.mem_append_right _ (List.mem_of_getElem? (i := 79) rfl)))), List.mem_append_right _ (List.mem_append_right _ (List.mem_append_right _ (List.mem_append_right _ (List.mem_of_getElem? (i := 80) rfl))))⟩
theorem lw_p49 : lw_okq (⟨"MajorityIndexModel", "begins", "()V"⟩, 30) := ⟨⟨by decide +kernel, by decide +kernel⟩, List.mem_append_right _ (List.mem_append_right _ (List.mem_append_left _ (List.mem_of_getElem? (i := 203) rfl))), List.mem_append_right _ (List.mem_append_right _ (List.mem_append_right _ (List.mem_append_right _ (List.mem_of_getElem? (i := 83) rfl)))), List.mem_append_right _ (List.mem_append_right _ (List.mem_append_right _ (List.mem_append_right _ (List.mem_of_getElem? (i := 84) rfl))))⟩
theorem lw_p50 : lw_okq (⟨"MajorityIndexModel", "goesOn", "(II)Z"⟩, 30) := ⟨⟨by decide +kernel, by decide +kernel⟩, List.mem_append_right _ (List.mem_append_right _ (List.mem_append_left _ (List.mem_of_getElem? (i := 203) rfl))), List.mem_append_right _ (List.mem_append_right _ (List.mem_append_right _ (List.mem_append_right _ (List.mem_of_getElem? (i := 87) rfl)))), List.mem_append_right _ (List.mem_append_right _ (List.mem_append_right _ (List.mem_append_right _ (List.mem_of_getElem? (i := 88) rfl))))⟩
theorem lw_p51 : lw_okq (⟨"MajorityIndexModel", "anyWindows", "(III)I"⟩, 30) := ⟨⟨by decide +kernel, by decide +kernel⟩, List.mem_append_right _ (List.mem_append_right _ (List.mem_append_left _ (List.mem_of_getElem? (i := 203) rfl))), List.mem_append_right _ (List.mem_append_right _ (List.mem_append_right _ (List.mem_append_right _ (List.mem_of_getElem? (i := 103) rfl)))), List.mem_append_right _ (List.mem_append_right _ (List.mem_append_right _ (List.mem_append_right _ (List.mem_of_getElem? (i := 104) rfl))))⟩
theorem lw_p52 : lw_okq (⟨"MajorityIndexModel", "windowsOf", "(IIII)I"⟩, 30) := ⟨⟨by decide +kernel, by decide +kernel⟩, List.mem_append_right _ (List.mem_append_right _ (List.mem_append_left _ (List.mem_of_getElem? (i := 203) rfl))), List.mem_append_right _ (List.mem_append_right _ (List.mem_append_right _ (List.mem_append_right _ (List.mem_of_getElem? (i := 107) rfl)))), List.mem_append_right _ (List.mem_append_right _ (List.mem_append_right _ (List.mem_append_right _ (List.mem_of_getElem? (i := 108) rfl))))⟩
theorem lw_p53 : lw_okq (⟨"MajorityIndexModel", "nodesWithMajority", "()I"⟩, 30) := ⟨⟨by decide +kernel, by decide +kernel⟩, List.mem_append_right _ (List.mem_append_right _ (List.mem_append_left _ (List.mem_of_getElem? (i := 203) rfl))), List.mem_append_right _ (List.mem_append_right _ (List.mem_append_right _ (List.mem_append_right _ (List.mem_of_getElem? (i := 131) rfl)))), List.mem_append_right _ (List.mem_append_right _ (List.mem_append_right _ (List.mem_append_right _ (List.mem_of_getElem? (i := 132) rfl))))⟩
theorem lw_p54 : lw_okq (⟨"MajorityIndexModel", "deep", "(II)I"⟩, 30) := ⟨⟨by decide +kernel, by decide +kernel⟩, List.mem_append_right _ (List.mem_append_right _ (List.mem_append_left _ (List.mem_of_getElem? (i := 203) rfl))), List.mem_append_right _ (List.mem_append_right _ (List.mem_append_right _ (List.mem_append_right _ (List.mem_of_getElem? (i := 135) rfl)))), List.mem_append_right _ (List.mem_append_right _ (List.mem_append_right _ (List.mem_append_right _ (List.mem_of_getElem? (i := 136) rfl))))⟩
def lw_privs_4 : List (MethodName × Nat) := [(⟨"MajorityIndexModel", "laysNumbers", "()V"⟩, 30), (⟨"MajorityIndexModel", "begins", "()V"⟩, 30), (⟨"MajorityIndexModel", "goesOn", "(II)Z"⟩, 30), (⟨"MajorityIndexModel", "anyWindows", "(III)I"⟩, 30), (⟨"MajorityIndexModel", "windowsOf", "(IIII)I"⟩, 30), (⟨"MajorityIndexModel", "nodesWithMajority", "()I"⟩, 30), (⟨"MajorityIndexModel", "deep", "(II)I"⟩, 30)]
theorem lw_r4 : ∀ q ∈ lw_privs_4, lw_okq q := List.forall_mem_cons.mpr ⟨lw_p48, List.forall_mem_cons.mpr ⟨lw_p49, List.forall_mem_cons.mpr ⟨lw_p50, List.forall_mem_cons.mpr ⟨lw_p51, List.forall_mem_cons.mpr ⟨lw_p52, List.forall_mem_cons.mpr ⟨lw_p53, List.forall_mem_cons.mpr ⟨lw_p54, fun _ h => absurd h List.not_mem_nil⟩⟩⟩⟩⟩⟩⟩
def lw_privs : List (MethodName × Nat) := lw_privs_1 ++ (lw_privs_2 ++ (lw_privs_3 ++ (lw_privs_4)))
def lw_tbl : List Cond := k2_sels lw_privs ++ tables_1
theorem lw_privs_ok : ∀ q ∈ lw_privs, lw_okq q := by
  show ∀ q ∈ lw_privs_1 ++ (lw_privs_2 ++ (lw_privs_3 ++ (lw_privs_4))), lw_okq q
  exact List.forall_mem_append.mpr ⟨lw_r1, List.forall_mem_append.mpr ⟨lw_r2, List.forall_mem_append.mpr ⟨lw_r3, lw_r4⟩⟩⟩


/-! ===== BEGIN words of one list among another's, by their places ===== -/
theorem goodIn_r {big : List Cond} (ws : List Cond) (ps : List Nat) (hp : ws = ps.filterMap (fun i => big[i]?)) (h : ws.all goodWord = true) : GoodIn big ws := by
  intro w hw
  have h1 := List.all_eq_true.mp h w hw
  rw [hp] at hw
  obtain ⟨i, -, hi⟩ := List.mem_filterMap.mp hw
  have hm : w ∈ big := by first | exact List.mem_of_getElem? hi | exact List.getElem?_mem hi
  exact ⟨hm, good_of_word h1⟩
theorem goodIn_app {big a b : List Cond} (ha : GoodIn big a) (hb : GoodIn big b) : GoodIn big (a ++ b) := fun w h => (List.mem_append.mp h).elim (ha w) (hb w)
theorem goodIn_ca {big a b : List Cond} {c : Cond} (ha : GoodIn big (c :: a)) (hb : GoodIn big b) : GoodIn big (c :: (a ++ b)) := fun w h => (List.mem_cons.mp h).elim (fun e => ha w (List.mem_cons.mpr (Or.inl e))) (fun h => (List.mem_append.mp h).elim (fun h => ha w (List.mem_cons.mpr (Or.inr h))) (hb w))
theorem goodIn_sub {big ws : List Cond} (hm : ∀ w ∈ ws, w ∈ big) (h : ws.all goodWord = true) : GoodIn big ws := fun w hw => ⟨hm w hw, good_of_word (List.all_eq_true.mp h w hw)⟩
/-! ===== END ===== -/
/-! ===== BEGIN exceptions that leave a method, and their catching by the caller (launches without stack traces) ===== -/
section VXA
/-! The laws vx_back, vx_callV, vx_callS, vx_callSW, vx_throw0, vx_throwS follow proofs of the library, with one case more: JvmDerived/Free/Laws.lean (Back.of_free), Shelf42/LK1.lean (callV, callS), Shelf/KitTraced.lean (throwNew0V, throwNewS). -/
/-- where a method has thrown q: the class by its name, the cell, what was written, the world -/
def vx_T (XC : String → State → State → Prop) (st : State) (q : Addr) (t : State) (mc ms : Nat) (free : Addr → Prop) : Prop :=
  ∃ (E : String) (ce : Cell) (L : List Loc), XC E st t ∧ t.heap[q]? = some ce ∧ ce.vm = .none ∧ st.vm.findClass E = some ce.cls ∧ st.WarmedH t.vm ∧ st.sameButNew ({ t with vm := st.vm } : State) L mc ms ∧ ∀ z ∈ L, free z.base
def vx_Q (Qc : Array Value → State → Outcome → State → Prop) (XC : String → State → State → Prop) (mc ms : Nat) (free : Addr → Prop) : Array Value → State → Outcome → State → Prop := fun a st o t =>
  (Qc a st o t ∧ ∃ L, FrameEnd st o t L mc ms ∧ ∀ q ∈ L, free q.base) ∨ ∃ q, o = .threw q ∧ vx_T XC st q t mc ms free
/-- a callee that returns or throws -/
def vx_Met (l : Launch) (y : MethodName) (ws : List Cond) (rm : Room) (Pc : Array Value → State → Prop) (Qc : Array Value → State → Outcome → State → Prop) (XC : String → State → State → Prop) (mc ms : Nat) (free : Addr → Prop) : Prop :=
  MetFree l y (headSpec ws rm) Pc (fun _ _ _ _ _ => True) (vx_Q Qc XC mc ms free)
def vx_Post (XC : String → State → State → Prop) (mc ms : Nat) (free : Addr → Prop) : Pt → Array Value → Addr → Pt → Prop := fun A a q B =>
  ∃ (g : JFrame) (mk : MethodId) (t : State) (L : List Loc) (E : String) (ce : Cell), B.U.heap = t.heap ∧ B.U.vm = t.vm ∧ XC E (A.U.calling g mk a) t ∧ t.heap[q]? = some ce ∧ ce.vm = .none ∧ A.U.vm.findClass E = some ce.cls ∧ B.locs = A.locs ++ L ∧ (∀ z ∈ L, free z.base) ∧ B.cells = A.cells + mc ∧ B.slots = A.slots + ms
def vx_Back (l : Launch) (R : Room) (p : Program) (e : Env) (below : List Frame) (s : State) (sargs : Array Value) (y : MethodName) (len W9 : Nat)
    (Pre : Pt → Array Value → Prop) (Post : Pt → Array Value → Option Value → Pt → Prop) (PostX : Pt → Array Value → Addr → Pt → Prop) : Prop :=
  ∀ (m : MethodId) (meth : Method) (c : Code) (A : Pt) (g : JFrame) (ig : Instr) (mk : MethodId) (a : Array Value),
    Stand p l e R s m sargs below meth c A.U A.locs A.cells A.slots → g.method = m → g.locals.size = c.maxLocals → decode c.code g.pc = .ok (ig, len) →
    2 * g.monitorRoom + (g.stack.map fun v => v.category).sum ≤ W9 → A.U.methodNamed? y = some mk → Pre A a →
    (∃ (v : Option Value) (B : Pt), Stand p l e R s m sargs below meth c B.U B.locs B.cells B.slots ∧ Post A a v B ∧
      Steps p.tables e below (doInvoke e (A.U.setTop g) [] mk a).1 (B.U.setTop { g with pc := g.pc + len, stack := v.toList ++ g.stack })) ∨
    (∃ (q : Addr) (B : Pt), Stand p l e R s m sargs below meth c B.U B.locs B.cells B.slots ∧ PostX A a q B ∧
      Steps p.tables e below (doInvoke e (A.U.setTop g) [] mk a).1 ((B.U.setTop g).pushFrame (.throwing q)))
section Payer
variable {l : Launch} {R : Room} {p : Program} {e : Env} {below : List Frame} {s : State} {sargs : Array Value} {y : MethodName} {len W9 : Nat}
theorem vx_back {ws : List Cond} {rm : Room} {Pc : Array Value → State → Prop} {Qc : Array Value → State → Outcome → State → Prop} {XC : String → State → State → Prop} {mc ms : Nat} {free : Addr → Prop} {bytes : ByteArray} {maxL : Nat} {ret : Option FieldType}
    (hM : vx_Met l y ws rm Pc Qc XC mc ms free) (hblind : FrameBlind Pc) (hrc : rm.cells = mc) (hrs : rm.slots = ms)
    (hframes : rm.frames + 1 ≤ R.frames) (hlocals : W9 + (maxL + 11) + rm.locals ≤ R.locals)
    (hws : ∀ w ∈ ws, ∀ a' U, s.WarmedH U.vm → w.before a' U = true) (hcode : Cond.code y bytes maxL ret ∈ ws) (hinit : ∀ a' U, s.WarmedH U.vm → (Cond.initialized y.cls).before a' U = true) :
    vx_Back l R p e below s sargs y len W9 (PreOf R mc ms Pc) (PostOf Qc mc ms free) (vx_Post XC mc ms free) := by
  intro m meth c A g ig mk a X hg hsize hdg hW hn hp
  have h1 : (headSpec ws rm).pre.before a A.U = true := atoms_intro fun w hw => hws w hw _ _ X.warmed
  have h2 : (Cond.code y bytes maxL ret).before a A.U = true := hws _ hcode _ _ X.warmed
  have h3 : (Cond.initialized y.cls).before a A.U = true := hinit _ _ X.warmed
  have h4 : A.cells + (headSpec ws rm).room.cells ≤ R.cells := by rw [show (headSpec ws rm).room.cells = mc from hrc]; exact hp.1
  have h5 : A.slots + (headSpec ws rm).room.slots ≤ R.slots := by rw [show (headSpec ws rm).room.slots = ms from hrs]; exact hp.2.1
  have hPc : Pc a (A.U.calling g mk a) := hblind _ _ _ _ hp.2.2
  obtain ⟨U, Ls, c0, s0⟩ := A
  dsimp only [Pt.U, Pt.locs, Pt.cells, Pt.slots] at h1 h2 h3 h4 h5 X hn hPc ⊢
  obtain ⟨methY, cY, hmY, hcY, -, hlY, -, -, -, -⟩ := Cond.code_spec hn h2
  obtain ⟨kY, hkY, -⟩ := className_of_methodNamed hn
  have hinitY : kY.init = .initialized := Cond.initialized_spec (findClass_of_methodNamed hn) hkY h3
  have h : At U g.method c below := by rw [hg]; exact X.here
  have hlocals9 : W9 + (maxL + 11) + (headSpec ws rm).room.locals ≤ R.locals := hlocals
  have happ : (headSpec ws rm).appliesLoose y e.platform (U.calling g mk a) = true :=
    Spec.appliesLoose_calling (g := g) h hdg hn hkY hinitY
      (X.room_calling (g := g) (R' := (headSpec ws rm).room) hsize hmY hcY hframes (by rw [hlY]; omega) h4 h5) h1
  obtain ⟨mid, hmid⟩ := h.above
  have hfr : (U.setTop g).frames = (.java g :: mid) ++ below := by rw [State.frames_setTop' g h.top, hmid]; rfl
  obtain ⟨o, s₂, hsteps, -, hend, hq⟩ := Steps.callFree hM p X.admits X.cas X.clock (acts := []) hfr happ hPc trivial
  have hq' : vx_Q Qc XC mc ms free a (U.calling g mk a) o s₂ := hq
  rw [State.frames_setTop' g h.top] at hend
  obtain ⟨g₀, hg0⟩ := Option.isSome_iff_exists.mp h.top
  obtain ⟨r, hr⟩ := State.topJava?_eq_some.mp hg0
  have hr' : (({ U with heap := s₂.heap, slotsUsed := s₂.slotsUsed } : State).setVm s₂.vm).frames = .java g₀ :: r := hr
  rcases hq' with ⟨hqc, L, hfe, hL⟩ | ⟨q, rfl, E, ce, L, hx, hce, hcv, hcl, hW₂, hsm, hL⟩
  · obtain ⟨⟨v, rfl⟩, hW₂, e2, q2, q3, q4, q5, q6⟩ := id hfe
    have e3 : s₂ = ({ (U.calling g mk a).setFrames s₂.frames with heap := s₂.heap, slotsUsed := s₂.slotsUsed } : State).setVm s₂.vm := by
      have : s₂ = ({ s₂ with vm := (U.calling g mk a).vm } : State).setVm s₂.vm := rfl
      rw [e2] at this
      exact this
    obtain ⟨c₂, i₂, len₂, hc₂, hd₂, hf₂⟩ := hend
    have hW' : U.WarmedH s₂.vm := hW₂
    have hcc : c₂ = c := by
      have h1 : s₂.code? g.method = U.code? g.method := by
        rw [State.code?_eq, State.code?_eq, hW'.alike.method?]
      exact Option.some.inj (hc₂.symm.trans (h1.trans h.code))
    subst hcc
    have hlen : len₂ = len := by rw [hdg] at hd₂; cases hd₂; rfl
    subst hlen
    have hs₂ : s₂ = (({ U with heap := s₂.heap, slotsUsed := s₂.slotsUsed } : State).setVm s₂.vm).setTop { g with pc := g.pc + len₂, stack := v.toList ++ g.stack } := by
      refine e3.trans ?_
      rw [hf₂, State.calling_eq h.top, State.setFrames_setFrames, State.setTop_of_frames _ hr', hr]
      rfl
    have hsame : U.sameButNew ({ U with heap := s₂.heap, slotsUsed := s₂.slotsUsed } : State) L mc ms := by
      refine ⟨?_, q2, q3, q4, q5, q6⟩
      obtain ⟨t, ht, -⟩ := State.frames_cons hr
      show ({ U with heap := s₂.heap, slotsUsed := s₂.slotsUsed } : State) = { U.setFrames U.frames with heap := s₂.heap, slotsUsed := s₂.slotsUsed }
      rw [State.setFrames_self ht]
    subst hg
    refine Or.inl ⟨v, ⟨(({ U with heap := s₂.heap, slotsUsed := s₂.slotsUsed } : State).setVm s₂.vm), Ls ++ L, c0 + mc, s0 + ms⟩,
      ⟨X.admits, X.cas, X.clock, X.frames, X.room, X.hears, X.method, X.code, (X.here.setHeapUsed s₂.heap s₂.slotsUsed).setVm hW'.alike, X.tail, State.WarmedH.trans X.warmed hW', X.limits, X.bytes, X.same.trans (hsame.setVm s.vm)⟩,
      ⟨g, mk, s₂, L, rfl, rfl, hqc, rfl, hL, rfl, rfl⟩, ?_⟩
    show Steps p.tables e below _ ((({ U with heap := s₂.heap, slotsUsed := s₂.slotsUsed } : State).setVm s₂.vm).setTop { g with pc := g.pc + len₂, stack := v.toList ++ g.stack })
    rw [← hs₂]
    exact hsteps
  · obtain ⟨e2, q2, q3, q4, q5, q6⟩ := id hsm
    have e3 : s₂ = ({ (U.calling g mk a).setFrames s₂.frames with heap := s₂.heap, slotsUsed := s₂.slotsUsed } : State).setVm s₂.vm := by
      have : s₂ = ({ s₂ with vm := (U.calling g mk a).vm } : State).setVm s₂.vm := rfl
      rw [e2] at this
      exact this
    have hf₂ : s₂.frames = .throwing q :: .java g :: U.frames.tail := hend
    have hW' : U.WarmedH s₂.vm := hW₂
    have hs₂ : s₂ = ((({ U with heap := s₂.heap, slotsUsed := s₂.slotsUsed } : State).setVm s₂.vm).setTop g).pushFrame (.throwing q) := by
      refine e3.trans ?_
      rw [hf₂, State.calling_eq h.top, State.setFrames_setFrames, State.pushFrame, State.frames_setTop _ hr', State.setTop_of_frames _ hr', State.setFrames_setFrames, hr]
      rfl
    have hsame : U.sameButNew ({ U with heap := s₂.heap, slotsUsed := s₂.slotsUsed } : State) L mc ms := by
      refine ⟨?_, q2, q3, q4, q5, q6⟩
      obtain ⟨t, ht, -⟩ := State.frames_cons hr
      show ({ U with heap := s₂.heap, slotsUsed := s₂.slotsUsed } : State) = { U.setFrames U.frames with heap := s₂.heap, slotsUsed := s₂.slotsUsed }
      rw [State.setFrames_self ht]
    subst hg
    refine Or.inr ⟨q, ⟨(({ U with heap := s₂.heap, slotsUsed := s₂.slotsUsed } : State).setVm s₂.vm), Ls ++ L, c0 + mc, s0 + ms⟩,
      ⟨X.admits, X.cas, X.clock, X.frames, X.room, X.hears, X.method, X.code, (X.here.setHeapUsed s₂.heap s₂.slotsUsed).setVm hW'.alike, X.tail, State.WarmedH.trans X.warmed hW', X.limits, X.bytes, X.same.trans (hsame.setVm s.vm)⟩,
      ⟨g, mk, s₂, L, E, ce, rfl, rfl, hx, hce, hcv, hcl, rfl, hL, rfl, rfl⟩, ?_⟩
    show Steps p.tables e below _ (((({ U with heap := s₂.heap, slotsUsed := s₂.slotsUsed } : State).setVm s₂.vm).setTop g).pushFrame (.throwing q))
    rw [← hs₂]
    exact hsteps
end Payer
section Calls
variable {p : Program} {l : Launch} {e : Env} {R : Room} {s : State} {m : MethodId} {args : Array Value} {below : List Frame} {meth : Method} {c : Code} {T : State} {locs : List Loc} {cells slots : Nat}
theorem vx_callV (X : Stand p l e R s m args below meth c T locs cells slots) (hexec : p.tables.exec = Jvm.exec) {own C : String} {index : Nat} {y : MethodName} {bytes : ByteArray} {maxL : Nat} {ret : Option FieldType}
    (hown : s.vm.findClass own = some m.cls) (hlink : (Cond.methodLink own index y).before args s = true) (hinst : (Cond.instanceMethod y).before args s = true) (hsel : (Cond.selects C y y).before args s = true)
    (hcode : (Cond.code y bytes maxL ret).before args s = true) (hy : y.cls ≠ "java/lang/invoke/MethodHandle" ∧ y.cls ≠ "java/lang/invoke/VarHandle")
    {W9 : Nat} {Pre : Pt → Array Value → Prop} {Post : Pt → Array Value → Option Value → Pt → Prop} {PostX : Pt → Array Value → Addr → Pt → Prop} (hK : vx_Back l R p e below s args y 3 W9 Pre Post PostX)
    {b : Addr} {cellB : Cell} (hcell : T.heap[b]? = some cellB) (hobj : cellB.vm.isStatics = false) (hcls : s.vm.findClass C = some cellB.cls)
    {g : JFrame} (hg : g.method = m) (hsize : g.locals.size = c.maxLocals) {argsL rest : List Value} (hlen : ∀ sig, parseMethodDescriptor y.desc = some sig → argsL.length = sig.parameters.length)
    (hstack : g.stack = argsL.reverse ++ .ref b :: rest) (hW : 2 * g.monitorRoom + (rest.map fun v => v.category).sum ≤ W9) (hdg : decode c.code g.pc = .ok (.invokevirtual index, 3))
    (hpre : ∀ vm₁, s.WarmedH vm₁ → Pre ⟨T.setVm vm₁, locs, cells, slots⟩ (Value.ref b :: argsL).toArray) :
    (∃ (v : Option Value) (vm₁ : Vm) (B : Pt), s.WarmedH vm₁ ∧ Stand p l e R s m args below meth c B.U B.locs B.cells B.slots ∧ Post ⟨T.setVm vm₁, locs, cells, slots⟩ (Value.ref b :: argsL).toArray v B ∧
      ∀ target, Steps p.tables e below (B.U.setTop { g with pc := g.pc + 3, stack := v.toList ++ rest }) target → Steps p.tables e below (T.setTop g) target) ∨
    (∃ (q : Addr) (vm₁ : Vm) (B : Pt), s.WarmedH vm₁ ∧ Stand p l e R s m args below meth c B.U B.locs B.cells B.slots ∧ PostX ⟨T.setVm vm₁, locs, cells, slots⟩ (Value.ref b :: argsL).toArray q B ∧
      Steps p.tables e below (T.setTop g) ((B.U.setTop { g with stack := rest }).pushFrame (.throwing q))) := by
  obtain ⟨mk, methM, hnamed, hmethM, hstM, habM⟩ := Cond.instanceMethod_spec hinst
  obtain ⟨methM', cM, hmethM', -, -, -, -, -, -, hsigM⟩ := Cond.code_spec hnamed hcode
  cases hmethM.symm.trans hmethM'
  obtain ⟨c2, r2, m2, q1, q2, q3, q4, kP, hkP, hkPi⟩ := Cond.selects_spec hsel
  cases hcls.symm.trans q1
  cases (State.methodFound?_of_named hnamed hy).symm.trans q2
  cases hnamed.symm.trans q3
  have hselP : selectMethod e.platform s.vm cellB.cls mk = .method mk := by rw [Launch.admits_selectMethod X.admits]; exact q4
  obtain ⟨vm₁, X₁, hstep₁⟩ := X.invokevirtual hexec hown hlink hnamed hmethM hstM hkP hkPi hy (a := b) (cell := cellB) hcell
    (fun z h => by rw [h] at hobj; cases hobj) hselP hmethM habM hkP hkPi (g := g) hg (argsL := argsL) (rest := rest) (hlen _ hsigM) hstack hdg
  rcases hK m meth c ⟨T.setVm vm₁, locs, cells, slots⟩ { g with stack := rest } (.invokevirtual index) mk (Value.ref b :: argsL).toArray X₁ hg hsize hdg hW (X₁.named hnamed) (hpre vm₁ X₁.warmed) with ⟨v, B, X', hpost, hsteps⟩ | ⟨q, B, X', hpost, hsteps⟩
  · exact Or.inl ⟨v, vm₁, B, X₁.warmed, X', hpost, fun target h => hstep₁ _ fun acts => by rw [doInvoke_state]; exact hsteps.trans h⟩
  · exact Or.inr ⟨q, vm₁, B, X₁.warmed, X', hpost, hstep₁ _ fun acts => by rw [doInvoke_state]; exact hsteps⟩
theorem vx_callS (X : Stand p l e R s m args below meth c T locs cells slots) (hexec : p.tables.exec = Jvm.exec) {own : String} {index : Nat} {y : MethodName} {bytes : ByteArray} {maxL : Nat} {ret : Option FieldType}
    (hown : s.vm.findClass own = some m.cls) (hlink : (Cond.methodLink own index y).before args s = true) (hstat : (Cond.static y).before args s = true) (hinit : (Cond.initialized y.cls).before args s = true)
    (hcode : (Cond.code y bytes maxL ret).before args s = true) (hy : y.cls ≠ "java/lang/invoke/MethodHandle" ∧ y.cls ≠ "java/lang/invoke/VarHandle")
    {W9 : Nat} {Pre : Pt → Array Value → Prop} {Post : Pt → Array Value → Option Value → Pt → Prop} {PostX : Pt → Array Value → Addr → Pt → Prop} (hK : vx_Back l R p e below s args y 3 W9 Pre Post PostX)
    {g : JFrame} (hg : g.method = m) (hsize : g.locals.size = c.maxLocals) {argsL rest : List Value} (hlen : ∀ sig, parseMethodDescriptor y.desc = some sig → argsL.length = sig.parameters.length)
    (hstack : g.stack = argsL.reverse ++ rest) (hW : 2 * g.monitorRoom + (rest.map fun v => v.category).sum ≤ W9) (hdg : decode c.code g.pc = .ok (.invokestatic index, 3))
    (hpre : ∀ vm₁, s.WarmedH vm₁ → Pre ⟨T.setVm vm₁, locs, cells, slots⟩ argsL.toArray) :
    (∃ (v : Option Value) (vm₁ : Vm) (B : Pt), s.WarmedH vm₁ ∧ Stand p l e R s m args below meth c B.U B.locs B.cells B.slots ∧ Post ⟨T.setVm vm₁, locs, cells, slots⟩ argsL.toArray v B ∧
      ∀ target, Steps p.tables e below (B.U.setTop { g with pc := g.pc + 3, stack := v.toList ++ rest }) target → Steps p.tables e below (T.setTop g) target) ∨
    (∃ (q : Addr) (vm₁ : Vm) (B : Pt), s.WarmedH vm₁ ∧ Stand p l e R s m args below meth c B.U B.locs B.cells B.slots ∧ PostX ⟨T.setVm vm₁, locs, cells, slots⟩ argsL.toArray q B ∧
      Steps p.tables e below (T.setTop g) ((B.U.setTop { g with stack := rest }).pushFrame (.throwing q))) := by
  obtain ⟨mk, hnamed⟩ := Cond.code_named hcode
  obtain ⟨methM, cM, hmethM, -, -, -, -, -, -, hsigM⟩ := Cond.code_spec hnamed hcode
  have hstatic : methM.isStatic = true := Cond.static_spec hnamed hmethM hstat
  obtain ⟨kP, hkP, -⟩ := className_of_methodNamed hnamed
  have hinitP : kP.init = .initialized := Cond.initialized_spec (findClass_of_methodNamed hnamed) hkP hinit
  obtain ⟨vm₁, X₁, hstep₁⟩ := X.invokestatic hexec hown hlink hnamed hmethM hstatic hkP hinitP hy (g := g) hg (argsL := argsL) (rest := rest) (hlen _ hsigM) hstack hdg
  rcases hK m meth c ⟨T.setVm vm₁, locs, cells, slots⟩ { g with stack := rest } (.invokestatic index) mk argsL.toArray X₁ hg hsize hdg hW (X₁.named hnamed) (hpre vm₁ X₁.warmed) with ⟨v, B, X', hpost, hsteps⟩ | ⟨q, B, X', hpost, hsteps⟩
  · exact Or.inl ⟨v, vm₁, B, X₁.warmed, X', hpost, fun target h => hstep₁ _ fun acts => by rw [doInvoke_state]; exact hsteps.trans h⟩
  · exact Or.inr ⟨q, vm₁, B, X₁.warmed, X', hpost, hstep₁ _ fun acts => by rw [doInvoke_state]; exact hsteps⟩
end Calls
theorem vx_cls {s : State} {T : State} {vm₁ : Vm} {E : String} {k : ClassId} (hW : s.WarmedH vm₁) (h : (T.setVm vm₁).vm.findClass E = some k) : s.vm.findClass E = some k := by
  have h1 : vm₁.findClass E = some k := h
  rw [hW.alike.findClass] at h1
  exact h1
/-- the method's frame g, with q thrown over it -/
def vx_W (p : Program) (l : Launch) (e : Env) (R : Room) (s : State) (m : MethodId) (args : Array Value) (below : List Frame) (meth : Method) (c : Code) (H : Heap) (locs : List Loc) (cells slots : Nat) (Q : State → Prop) (g : JFrame) (q : Addr) : Prop :=
  ∀ T : State, T.heap = H → Stand p l e R s m args below meth c T locs cells slots → ∃ t, Steps p.tables e below ((T.setTop g).pushFrame (.throwing q)) t ∧ Q t
def vx_Run (p : Program) (l : Launch) (e : Env) (R : Room) (s : State) (m : MethodId) (args : Array Value) (below : List Frame) (meth : Method) (c : Code) (H : Heap) (locs : List Loc) (cells slots mc ms : Nat) (g : JFrame) (rest : List Value) (Qa : State → Outcome → State → Prop) (XC : String → State → State → Prop) (free : Addr → Prop) : Prop :=
  ∀ T : State, T.heap = H → Stand p l e R s m args below meth c T locs cells slots →
    (∃ (v : Option Value) (st₀ t T' : State) (L : List Loc), st₀.heap = H ∧ Stand p l e R s m args below meth c T' (locs ++ L) (cells + mc) (slots + ms) ∧ (∀ q ∈ L, free q.base) ∧ T'.heap = t.heap ∧ T'.vm = t.vm ∧ Qa st₀ (.returned v) t ∧
      Goes p e below T g T' { g with pc := g.pc + 3, stack := v.toList ++ rest }) ∨
    (∃ (q : Addr) (st₀ t T' : State) (L : List Loc) (E : String) (ce : Cell), st₀.heap = H ∧ Stand p l e R s m args below meth c T' (locs ++ L) (cells + mc) (slots + ms) ∧ (∀ z ∈ L, free z.base) ∧ T'.heap = t.heap ∧ T'.vm = t.vm ∧ XC E st₀ t ∧ t.heap[q]? = some ce ∧ ce.vm = .none ∧ s.vm.findClass E = some ce.cls ∧
      Steps p.tables e below (T.setTop g) ((T'.setTop { g with stack := rest }).pushFrame (.throwing q)))
def vx_X {S : Type} (px : S → Prop) (B : String → S → State → Prop) (A : Nat → Prop) : String → State → State → Prop := fun E st t => ∃ u : S, px u ∧ B E u t ∧ va_F A st t
section Runs
variable {p : Program} {l : Launch} {e : Env} {R : Room} {s : State} {m : MethodId} {args : Array Value} {below : List Frame} {meth : Method} {c : Code} {H : Heap} {locs : List Loc} {cells slots : Nat}
variable {y : MethodName} {bytes cc : ByteArray} {maxL nL mc ms n index : Nat} {ret : Option FieldType} {ws : List Cond} {rm : Room} {Pc : Array Value → State → Prop} {Qc : Array Value → State → Outcome → State → Prop} {XC : String → State → State → Prop} {free : Addr → Prop} {Ts : List Cond} {own C : String} {b : Addr} {As rest : List Value} {g : JFrame}
theorem vx_callBack (cb : CallB R s args own index y bytes maxL ret ws rm mc ms n) (hM : vx_Met l y ws rm Pc Qc XC mc ms free) (hbl : FrameBlind Pc) : vx_Back l R p e below s args y 3 8 (PreOf R mc ms Pc) (PostOf Qc mc ms free) (vx_Post XC mc ms free) := by
  obtain ⟨hrc, hrs, hfr, hlo, hws, hcw, -, hini, -⟩ := cb
  exact vx_back (bytes := bytes) (maxL := maxL) (ret := ret) hM hbl hrc hrs hfr hlo hws hcw (fun a' U hW => word_at hW (Or.inl (by first | rfl | simp [Cond.onTables, Cond.keeps, Cond.steady])) hini)
theorem vx_runV (S : CallFix p m c cc nL s args Ts own) (hM : vx_Met l y ws rm Pc Qc XC mc ms free) (cw : CallW R s args own C index y bytes maxL ret ws rm mc ms n) (hp : PreV s H C b Pc As)
    (hg : g.method = m) (hn : As.length = n) (hsize : g.locals.size = nL) (hstack : g.stack = As.reverse ++ .ref b :: rest) (hW : 2 * g.monitorRoom + (rest.map fun v => v.category).sum ≤ 8) (hdg : decode cc g.pc = .ok (.invokevirtual index, 3)) (hf : cells + mc ≤ R.cells ∧ slots + ms ≤ R.slots) :
    vx_Run p l e R s m args below meth c H locs cells slots mc ms g rest (Qc (Value.ref b :: As).toArray) XC free := by
  have hK : vx_Back l R p e below s args y 3 8 (PreOf R mc ms Pc) (PostOf Qc mc ms free) (vx_Post XC mc ms free) := vx_callBack cw.1 hM hp.1
  obtain ⟨⟨-, -, -, -, -, -, hcode, -, hy, hlen, hl⟩, hin, hse⟩ := cw
  obtain ⟨hx, hb, hml, ho, -⟩ := S
  obtain ⟨-, ⟨cellB, hcB, hoB, hclB⟩, hPc⟩ := hp
  intro T hT X
  rcases vx_callV X hx (C := C) (bytes := bytes) (maxL := maxL) (ret := ret) ho hl hin hse hcode hy hK (by rw [hT]; exact hcB) hoB hclB hg (hsize.trans hml.symm) (argsL := As) (rest := rest) (fun sig h => hn.trans (hlen sig h)) hstack hW (by rw [hb]; exact hdg)
    (fun vm₁ hW₁ => ⟨hf.1, hf.2, hPc (T.setVm vm₁) hT hW₁⟩) with ⟨v, vm₁, ⟨U', l2, c2, s2⟩, hW₁, X', ⟨g', mk, t, L, e1, e2, hq, h1, hL, h2, h3⟩, st⟩ | ⟨q, vm₁, ⟨U', l2, c2, s2⟩, hW₁, X', ⟨g', mk, t, L, E, ce, e1, e2, hq, hce, hcv, hcl, h1, hL, h2, h3⟩, st⟩
  · dsimp only [Pt.U, Pt.locs, Pt.cells, Pt.slots] at X' e1 e2 h1 h2 h3 st
    subst h1; subst h2; subst h3
    exact Or.inl ⟨v, (T.setVm vm₁).calling g' mk (Value.ref b :: As).toArray, t, U', L, hT, X', hL, e1, e2, hq, st⟩
  · dsimp only [Pt.U, Pt.locs, Pt.cells, Pt.slots] at X' e1 e2 h1 h2 h3 st hcl
    subst h1; subst h2; subst h3
    exact Or.inr ⟨q, (T.setVm vm₁).calling g' mk (Value.ref b :: As).toArray, t, U', L, E, ce, hT, X', hL, e1, e2, hq, hce, hcv, vx_cls hW₁ hcl, st⟩
end Runs
section Rows
variable {p : Program} {l : Launch} {e : Env} {R : Room} {s : State} {m : MethodId} {args : Array Value} {below : List Frame} {meth : Method} {c : Code} {H : Heap} {locs : List Loc} {cells slots : Nat} {Q : State → Prop}
variable {mc ms : Nat} {free : Addr → Prop} {A0 A1 : Nat → Prop} {H0 : Heap} {a : Array Value} {pc : Nat} {ls : Array Slot} {st0 rest : List Value}
theorem vx_keep {st₀ t T' : State} {L : List Loc} (h0 : st₀.heap = H) (e1 : T'.heap = t.heap) (hS : va_S A0 H0 H locs) (hA : ∀ q, q < H.size → A1 q → A0 q) (hf : ∀ q, free q → A0 q) (hL : ∀ q ∈ L, free q.base) (hF : va_F A1 st₀ t) :
    H.size ≤ T'.heap.size ∧ (∀ q : Nat, q < H.size → ¬ A1 q → T'.heap[q]? = H[q]?) ∧ va_S A0 H0 T'.heap (locs ++ L) := by
  obtain ⟨hz, hk⟩ := hF
  rw [h0] at hz hk
  exact ⟨by rw [e1]; exact hz, fun q h1 h2 => by rw [e1]; exact hk q h1 h2,
    ⟨Nat.le_trans hS.1 (by rw [e1]; exact hz), fun q h1 h2 => by rw [e1, hk q (Nat.lt_of_lt_of_le h1 hS.1) (fun z => h2 (hA q (Nat.lt_of_lt_of_le h1 hS.1) z))]; exact hS.2.1 q h1 h2, fun q hq => by
      rcases List.mem_append.mp hq with h | h
      · exact hS.2.2 q h
      · exact hf _ (hL q h)⟩⟩
theorem vx_calli {S SX : Type} {post : Int32 → S → Prop} {px : SX → Prop} {B : S → State → Prop} {BX : String → SX → State → Prop} {AX : Nat → Prop} (hr : vx_Run p l e R s m args below meth c H locs cells slots mc ms (F0 m pc ls st0) rest (va_Qi post B A1 a) (vx_X px BX AX) free) (hS : va_S A0 H0 H locs) (hA : ∀ q, q < H.size → A1 q → A0 q) (hf : ∀ q, free q → A0 q) (hAX : ∀ q, q < H.size → AX q → A0 q)
    (kx : ∀ (E : String) (ce : Cell) (q9 : Addr) (u : SX) (t : State) (H1 : Heap) (locs1 : List Loc), t.heap = H1 → s.vm.Alike t.vm → px u → BX E u t → H.size ≤ H1.size → (∀ q : Nat, q < H.size → ¬ AX q → H1[q]? = H[q]?) → va_S A0 H0 H1 locs1 → H1[q9]? = some ce → ce.vm = .none → s.vm.findClass E = some ce.cls → vx_W p l e R s m args below meth c H1 locs1 (cells + mc) (slots + ms) Q (F0 m pc ls rest) q9)
    (kk : ∀ (r : Int32) (u : S) (t : State) (H1 : Heap) (locs1 : List Loc), t.heap = H1 → s.vm.Alike t.vm → post r u → B u t → H.size ≤ H1.size → (∀ q : Nat, q < H.size → ¬ A1 q → H1[q]? = H[q]?) → va_S A0 H0 H1 locs1 → W p l e R s m args below meth c H1 locs1 (cells + mc) (slots + ms) Q (F0 m (pc + 3) ls (.int r :: rest))) : W p l e R s m args below meth c H locs cells slots Q (F0 m pc ls st0) := by
  intro T hT X
  rcases hr T hT X with ⟨v, st₀, t, T', L, h0, X', hL, e1, e2, ⟨⟨r, u, hv, hp, hb⟩, hF⟩, st⟩ | ⟨q, st₀, t, T', L, E, ce, h0, X', hL, e1, e2, ⟨u, hp, hb, hF⟩, hce, hcv, hcl, st⟩
  · cases hv
    obtain ⟨k1, k2, k3⟩ := vx_keep h0 e1 hS hA hf hL hF
    obtain ⟨t2, a1, b1⟩ := kk r u t T'.heap (locs ++ L) e1.symm (by rw [← e2]; exact X'.warmed.alike) hp hb k1 k2 k3 T' rfl X'
    exact ⟨t2, st t2 a1, b1⟩
  · obtain ⟨k1, k2, k3⟩ := vx_keep h0 e1 hS hAX hf hL hF
    obtain ⟨t2, a1, b1⟩ := kx E ce q u t T'.heap (locs ++ L) e1.symm (by rw [← e2]; exact X'.warmed.alike) hp hb k1 k2 k3 (by rw [e1]; exact hce) hcv hcl T' rfl X'
    exact ⟨t2, st.trans a1, b1⟩
/-- caught by the row x of this method's table; the rows ahead don't take it -/
theorem vx_catch {own name : String} {E : String} {ce : Cell} {q : Addr} (hown : s.vm.findClass own = some m.cls) (pre : List ExceptionTableEntry) (x : ExceptionTableEntry) (suf : List ExceptionTableEntry) (hsplit : c.exceptionTable.toList = pre ++ x :: suf)
    (hpass : ∀ z ∈ pre, covers z pc = false ∨ (z.catchType ≠ 0 ∧ ∃ nm : String, (Cond.classLink own z.catchType nm).before args s = true ∧ va_Nc E nm s)) (hx : covers x pc = true) (h0 : x.catchType ≠ 0)
    (hlink : (Cond.classLink own x.catchType name).before args s = true) (hcast : (Cond.castable E name).before args s = true) (hcell : H[q]? = some ce) (hv : ce.vm = .none) (hcl : s.vm.findClass E = some ce.cls)
    (kk : W p l e R s m args below meth c H locs cells slots Q (F0 m x.handlerPc ls [.ref q])) : vx_W p l e R s m args below meth c H locs cells slots Q (F0 m pc ls rest) q := by
  intro T hT X
  have hpl : e.platform.magicAccessors = ({} : Platform).magicAccessors := by rw [X.admits.platform]
  obtain ⟨c3, c4, hc3, hc4, hasg⟩ := Cond.castable_spec hcast
  cases Option.some.inj (hc3.symm.trans hcl)
  obtain ⟨c5, hc5, hcl5⟩ := Cond.classLink_spec hown hlink e.platform hpl
  cases Option.some.inj (hc4.symm.trans hc5)
  obtain ⟨vm', X', st⟩ := X.thenCaughtThrough q (g := F0 m pc ls rest) rfl (Steps.refl _) (by rw [hT]; exact hcell) (by rw [hv]; rfl) (by obtain ⟨k9, h9, -⟩ := Vm.findClass_spec hcl; exact ⟨k9, h9⟩) pre x suf hsplit
    (fun z hz => by
      rcases hpass z hz with h | ⟨hz0, nm, hl1, hn1⟩
      · exact Or.inl h
      · obtain ⟨c6, hc6, hcl6⟩ := Cond.classLink_spec hown hl1 e.platform hpl
        obtain ⟨a8, b8, h1, h2, h3⟩ := hn1
        cases Option.some.inj (h1.symm.trans hcl)
        cases Option.some.inj (h2.symm.trans hc6)
        exact Or.inr ⟨hz0, _, hcl6, h3⟩) hx (Or.inr ⟨h0, c4, hcl5, hasg⟩)
  obtain ⟨t, a1, b1⟩ := kk (T.setVm vm') hT X'
  exact ⟨t, st.trans a1, b1⟩
end Rows
section Ends
variable {p : Program} {l : Launch} {e : Env} {R : Room} {s : State} {m : MethodId} {args : Array Value} {below : List Frame} {meth : Method} {c : Code} {H : Heap} {locs : List Loc} {cells slots : Nat} {Q : State → Prop}
variable {mc ms : Nat} {free : Addr → Prop} {A0 A1 : Nat → Prop} {H0 : Heap} {a : Array Value} {ls : Array Slot} {st0 rest : List Value}
variable {Qc : Array Value → State → Outcome → State → Prop} {XC : String → State → State → Prop}
/-- what a body that may throw owes at its end -/
def vx_MQ (below : List Frame) (Qc : Array Value → State → Outcome → State → Prop) (XC : String → State → State → Prop) (a : Array Value) (s : State) (mc ms : Nat) (free : Addr → Prop) : State → Prop := fun t =>
  ∃ o, t.status = .running ∧ Ended t below o ∧ vx_Q Qc XC mc ms free a s o t
theorem vx_ret {g : JFrame} {mc ms : Nat} (k : W p l e R s m args below meth c H locs cells slots (MQ below Qc args s mc ms free) g) : W p l e R s m args below meth c H locs cells slots (vx_MQ below Qc XC args s mc ms free) g := by
  intro T hT X
  obtain ⟨t, a1, o, b1, b2, b3, b4⟩ := k T hT X
  exact ⟨t, a1, o, b1, b2, Or.inl ⟨b3, b4⟩⟩
theorem vx_frame {U : State} {k n : Nat} (h : s.sameButNew ({ U with vm := s.vm } : State) locs k n) : s.heap.size ≤ U.heap.size ∧ ∀ q : Nat, q < s.heap.size → (∀ z ∈ locs, z.base ≠ q) → U.heap[q]? = s.heap[q]? := by
  obtain ⟨-, h2, -, -, -, h6⟩ := h
  refine ⟨h2, fun q hq hz => ?_⟩
  obtain ⟨c9, e1, e2, e3, e4⟩ := h6 q _ (Array.getElem?_eq_getElem hq)
  have hs : c9.slots = (s.heap[q]).slots := Array.ext_getElem? fun i => e4 i fun hm => hz _ hm rfl
  have h9 : c9 = s.heap[q] := by
    rw [hs] at e2
    exact e2
  have e5 : U.heap[q]? = some c9 := e1
  rw [e5, h9, Array.getElem?_eq_getElem hq]
/-- the words of a throw but the four that speak of the heap -/
def vx_no (w : Cond) : Bool := decide (w ≠ .isRef (.static Bundle.tN "UNASSIGNED_STACK" Bundle.steD)) && decide (w ≠ .isRef (.static Bundle.tN "SUPPRESSED_SENTINEL" Bundle.listD)) && decide (w ≠ .laysStatic Bundle.tN "UNASSIGNED_STACK" Bundle.steD) && decide (w ≠ .laysStatic Bundle.tN "SUPPRESSED_SENTINEL" Bundle.listD)
def vx_at0 (own : String) (ic : Nat) (X : String) (names : List String) : List Cond := (Bundle.ownAtoms0 own ic X names).filter vx_no
def vx_atS (own : String) (ic : Nat) (X : String) (names : List String) : List Cond := (Bundle.ownAtoms own ic X names).filter vx_no
/-- a word that the tables alone decide, or a good one -/
def vx_ot (w : Cond) : Bool := w.onTables || goodWord w
theorem vx_ot_at {args a' : Array Value} {s U : State} {w : Cond} (hW : s.WarmedH U.vm) (hvm : s.vm = U.vm) (hg : vx_ot w = true) (h : w.before args s = true) : w.before a' U = true := by
  simp only [vx_ot, Bool.or_eq_true] at hg
  rcases hg with hg | hg
  · exact va_tabs hg hvm h
  · exact word_at hW (good_of_word hg) h
/-- a list's words: the good ones out of the method's own list, the others by premises of their own -/
theorem vx_hat {args : Array Value} {s : State} {L B : List Cond} (h1 : ∀ w ∈ L.filter goodWord, w.before args s = true) (h2 : ∀ w ∈ L.filter (fun w => !goodWord w), w ∈ B) (h3 : ∀ w ∈ B, w.before args s = true) : ∀ w ∈ L, w.before args s = true := by
  intro w hw
  by_cases g : goodWord w = true
  · exact h1 w (List.mem_filter.mpr ⟨hw, g⟩)
  · refine h3 w (h2 w (List.mem_filter.mpr ⟨hw, ?_⟩))
    show (!goodWord w) = true
    cases hgw : goodWord w
    · rfl
    · exact absurd hgw g
theorem vx_c {args : Array Value} {s : State} {w : Cond} {B : List Cond} (h : w.before args s = true) (t : ∀ w ∈ B, w.before args s = true) : ∀ w' ∈ w :: B, w'.before args s = true := fun w' h' => (List.mem_cons.mp h').elim (fun e => by rw [e]; exact h) (t w')
theorem vx_n {args : Array Value} {s : State} : ∀ w ∈ ([] : List Cond), w.before args s = true := fun _ h => nomatch h
theorem vx_own {args : Array Value} {s : State} {L : List Cond} (h1 : ∀ w ∈ L.filter vx_no, w.before args s = true)
    (hU : (Cond.isRef (.static Bundle.tN "UNASSIGNED_STACK" Bundle.steD)).before args s = true) (hN : (Cond.isRef (.static Bundle.tN "SUPPRESSED_SENTINEL" Bundle.listD)).before args s = true)
    (lU : (Cond.laysStatic Bundle.tN "UNASSIGNED_STACK" Bundle.steD).before args s = true) (lN : (Cond.laysStatic Bundle.tN "SUPPRESSED_SENTINEL" Bundle.listD).before args s = true) : ∀ w ∈ L, w.before args s = true := by
  intro w hw
  by_cases e1 : w = .isRef (.static Bundle.tN "UNASSIGNED_STACK" Bundle.steD)
  · rw [e1]; exact hU
  · by_cases e2 : w = .isRef (.static Bundle.tN "SUPPRESSED_SENTINEL" Bundle.listD)
    · rw [e2]; exact hN
    · by_cases e3 : w = .laysStatic Bundle.tN "UNASSIGNED_STACK" Bundle.steD
      · rw [e3]; exact lU
      · by_cases e4 : w = .laysStatic Bundle.tN "SUPPRESSED_SENTINEL" Bundle.listD
        · rw [e4]; exact lN
        · exact h1 w (List.mem_filter.mpr ⟨hw, by unfold vx_no; rw [decide_eq_true e1, decide_eq_true e2, decide_eq_true e3, decide_eq_true e4]; rfl⟩)
/-- where a static field lies, its class's statics cell in H -/
def vx_L (C n d : String) (A : Nat → Prop) (U : State) (H : Heap) : Prop := ∃ (c : ClassId) (k : Class) (i : Nat) (f : Field) (a : Nat) (cell : Cell), U.vm.findClass C = some c ∧ U.fieldFound? C n d = some (c, k, i, f) ∧ f.isStatic = true ∧ k.statics = some a ∧ H[a]? = some cell ∧ cell.vm.isStatics = true ∧ cell.cls = c ∧ f.slot < cell.slots.size ∧ k.staticTypes[f.slot]? = some f.type ∧ ¬ A a
theorem vx_L.moved {C n d : String} {A : Nat → Prop} {u U : State} {H : Heap} (hvm : u.vm.Alike U.vm) (h : vx_L C n d A u H) : vx_L C n d A U H := by
  obtain ⟨c, k, i, f, a, cell, h1, h2, h3, h4, h5, h6, h7, h8, h9, h10⟩ := h
  obtain ⟨k', hi', he⟩ := State.fieldFound?_setVm hvm h2
  exact ⟨c, k', i, f, a, cell, by rw [hvm.findClass]; exact h1, hi', h3, by rw [he]; exact h4, h5, h6, h7, h8, by rw [he]; exact h9, h10⟩
theorem vx_L.kept {C n d : String} {A : Nat → Prop} {U : State} {H H1 : Heap} (h : vx_L C n d A U H) (hq : ∀ a : Nat, a < H.size → ¬ A a → H1[a]? = H[a]?) : vx_L C n d A U H1 := by
  obtain ⟨c, k, i, f, a, cell, h1, h2, h3, h4, h5, h6, h7, h8, h9, h10⟩ := h
  exact ⟨c, k, i, f, a, cell, h1, h2, h3, h4, by rw [hq a (Array.getElem?_eq_some_iff.mp h5).1 h10]; exact h5, h6, h7, h8, h9, h10⟩
theorem vx_L.narrow {C n d : String} {A B : Nat → Prop} {U : State} {H : Heap} (h : vx_L C n d A U H) (hAB : ∀ q, B q → A q) : vx_L C n d B U H := by
  obtain ⟨c, k, i, f, a, cell, h1, h2, h3, h4, h5, h6, h7, h8, h9, h10⟩ := h
  exact ⟨c, k, i, f, a, cell, h1, h2, h3, h4, h5, h6, h7, h8, h9, fun z => h10 (hAB _ z)⟩
theorem vx_L.word {C n d : String} {A : Nat → Prop} {s : State} {args : Array Value} (h : vx_L C n d A s s.heap) : (Cond.laysStatic C n d).before args s = true := by
  obtain ⟨c, k, i, f, a, cell, h1, h2, h3, h4, h5, h6, h7, h8, h9, -⟩ := h
  show (Cond.laysStatic C n d).holds args s none s [] = true
  exact Cond.laysStatic_of h1 h2 h3 h4 h5 h6 h7 h8 h9
/-- .. and what it holds: null or some reference -/
def vx_Zq (C n d : String) (A : Nat → Prop) (U : State) (H : Heap) : Prop := va_Zq C n d A U H ∧ vx_L C n d A U H
theorem vx_Zq.moved {C n d : String} {A : Nat → Prop} {u U : State} {H : Heap} (hvm : u.vm.Alike U.vm) (h : vx_Zq C n d A u H) : vx_Zq C n d A U H := ⟨va_Zq.moved hvm h.1, vx_L.moved hvm h.2⟩
theorem vx_Zq.kept {C n d : String} {A : Nat → Prop} {U : State} {H H1 : Heap} (h : vx_Zq C n d A U H) (hq : ∀ a : Nat, a < H.size → ¬ A a → H1[a]? = H[a]?) : vx_Zq C n d A U H1 := ⟨va_Zq.kept h.1 hq, vx_L.kept h.2 hq⟩
theorem vx_Zq.narrow {C n d : String} {A B : Nat → Prop} {U : State} {H : Heap} (h : vx_Zq C n d A U H) (hAB : ∀ q, B q → A q) : vx_Zq C n d B U H := ⟨va_Zq.narrow h.1 hAB, vx_L.narrow h.2 hAB⟩
theorem vx_Zqof {args : Array Value} {s : State} {C n d : String} {A : Nat → Prop} (hl : (Cond.laysStatic C n d).before args s = true) (hini : (Cond.initialized C).before args s = true) (h : (Cond.isRef (.static C n d)).before args s = true) (hA : ∀ a : Nat, a < s.heap.size → ¬ A a) : vx_Zq C n d A s s.heap := by
  refine ⟨va_Zqof hl hini h hA, ?_⟩
  obtain ⟨c, k, i, f, a, cell, h1, h2, h3, h4, h5, h6, h7, h8, h9⟩ := Cond.laysStatic_spec hl
  exact ⟨c, k, i, f, a, cell, h1, h2, h3, h4, h5, h6, h7, h8, h9, hA a (Array.getElem?_eq_some_iff.mp h5).1⟩
theorem vx_isRef {C n d : String} {v : Value} {A : Nat → Prop} {s : State} {args : Array Value} (h : va_Z C n d v A s s.heap) (hv : v.isRef = true) : (Cond.isRef (.static C n d)).before args s = true := by
  obtain ⟨cf, kf, fi, f, a, cell, h1, h2, h3, h4, h5, h6, h7, -⟩ := h
  have he : (Term.static C n d).eval args s none [] s = some v := by
    simp [Term.eval, State.fieldNamed?, h1, h2, h4, h5, h6, h7]
  simp only [Cond.before, Cond.holds, Cond.value, he]
  cases v <;> simp_all [Value.isRef]
theorem vx_isRefq {C n d : String} {A : Nat → Prop} {s : State} {args : Array Value} (h : va_Zq C n d A s s.heap) : (Cond.isRef (.static C n d)).before args s = true := by
  rcases h with h | ⟨t, h⟩
  · exact vx_isRef h rfl
  · exact vx_isRef h rfl
/-- the same frame, seen from here: as if the method were called anew in this heap -/
theorem vx_rebase {T : State} (X : Stand p l e R s m args below meth c T locs cells slots) {R' : Room} (hf : R'.frames ≤ R.frames) (hl : R'.locals ≤ R.locals) (hc : cells + R'.cells ≤ R.cells) (hs : slots + R'.slots ≤ R.slots) :
    Stand p l e R' ((T.setVm s.vm).setFrames (.invoking m args :: below)) m args below meth c T [] 0 0 := by
  have htop : (T.setVm s.vm).topJava?.isSome := X.here.top
  have hF : ((T.setVm s.vm).setFrames (.invoking m args :: below)).frames = .invoking m args :: below := State.frames_setFrames _ (State.cur_lt_of_top htop)
  obtain ⟨g₀, hg0⟩ := Option.isSome_iff_exists.mp htop
  obtain ⟨r, hr⟩ := State.topJava?_eq_some.mp hg0
  have hl9 : e.platform.stackLimits (T.setVm s.vm).me = e.platform.stackLimits s.me := X.limits
  have hb9 : (T.setVm s.vm).me.stackBytes = s.me.stackBytes := X.bytes
  refine ⟨X.admits, X.cas, X.clock, hF, ?_, X.hears, X.method, X.code, X.here, X.tail, X.warmed, ?_, ?_, ?_⟩
  · have h := X.room
    have hU : ((T.setVm s.vm).setFrames (.invoking m args :: below)).localsInUse = s.localsInUse := by
      rw [State.localsInUse_invoking hF (meth := meth) (c := c) X.method X.code, State.localsInUse_invoking X.frames X.method X.code]
    simp only [State.hasRoom, Bool.and_eq_true, decide_eq_true_eq] at h ⊢
    obtain ⟨⟨⟨⟨h1, h2, h3, h4, h5, h6⟩, h7⟩, h8⟩, h9⟩ := h
    rw [X.frames, List.length_cons] at h2 h3
    have q1 := X.heapSize
    have q2 := X.used
    simp only [hF, hU, List.length_cons, State.stackLimits_setFrames, State.stackBytes_setFrames, hl9, hb9]
    refine ⟨⟨⟨⟨by omega, by omega, by omega, by omega, by omega, h6⟩, ?_⟩, ?_⟩, X.book⟩
    · show T.heap.size + R'.cells ≤ e.platform.maxCells
      omega
    · show T.slotsUsed + R'.slots ≤ e.platform.maxSlots
      omega
  · rw [State.stackLimits_setFrames]; rfl
  · rw [State.stackBytes_setFrames]; rfl
  · refine ⟨?_, Nat.le_refl _, Nat.le_refl _, ?_, ?_, fun a c9 h9 => ⟨c9, h9, rfl, rfl, fun _ _ => rfl⟩⟩
    · obtain ⟨t, ht, -⟩ := State.frames_cons hr
      show T.setVm s.vm = { ((T.setVm s.vm).setFrames (.invoking m args :: below)).setFrames (T.setVm s.vm).frames with heap := T.heap, slotsUsed := T.slotsUsed }
      rw [State.setFrames_setFrames, State.setFrames_self ht]
      rfl
    · show T.slotsUsed = T.slotsUsed + ((T.heap.toList.drop T.heap.size).map (·.slots.size)).sum
      rw [List.drop_eq_nil_of_le (Nat.le_of_eq Array.length_toList)]
      rfl
    · show ((T.heap.toList.drop T.heap.size).map (·.slots.size)).sum ≤ 0
      rw [List.drop_eq_nil_of_le (Nat.le_of_eq Array.length_toList)]
      exact Nat.le_refl _
/-- 'throw new E()': new; dup; invokespecial; athrow -/
theorem vx_throw0 {cc : ByteArray} {pc : Nat} (hexec : p.tables.exec = Jvm.exec) (hb : c.code = cc) (hl : l.stackTraces = false) {own cls : String} {names : List String} {ik ic mc ms : Nat} {A : Nat → Prop}
    (hown : s.vm.findClass own = some m.cls) (hcls : Bundle.fit cls = true) (hnames : ∀ n ∈ names, Bundle.fit n = true)
    (hk : (Cond.classLink own ik cls).before args s = true) (hini : (Cond.initialized cls).before args s = true) (hat : ∀ w ∈ vx_at0 own ic cls names, w.before args s = true)
    (hgood : ∀ w ∈ Cond.classLink own ik cls :: Cond.initialized cls :: vx_at0 own ic cls names, vx_ot w = true)
    (hU : vx_Zq Bundle.tN "UNASSIGNED_STACK" Bundle.steD A s s.heap) (hN : vx_Zq Bundle.tN "SUPPRESSED_SENTINEL" Bundle.listD A s s.heap) (hS : va_S A s.heap H locs) (hsize : ls.size = c.maxLocals)
    (d0 : decode cc pc = .ok (.new ik, 3)) (d3 : decode cc (pc + 3) = .ok (.dup, 1)) (d4 : decode cc (pc + 4) = .ok (.invokespecial ic, 3)) (d7 : decode cc (pc + 7) = .ok (.athrow, 1))
    (hout : ∀ x ∈ c.exceptionTable.toList, covers x (pc + 7) = false)
    (hRframes : names.length + 3 < R.frames) (hRlocals : (rest.map fun v => v.category).sum + (13 * (names.length + 1) + 42) ≤ R.locals) (hRcells : cells + 1 ≤ R.cells) (hRslots : slots + 6 ≤ R.slots) (hlocks : meth.locks = false)
    (hx : ∀ t : State, s.vm.Alike t.vm → H.size ≤ t.heap.size → (∀ q : Nat, q < H.size → t.heap[q]? = H[q]?) → XC cls s t)
    (hf : ∀ z ∈ locs, free z.base) (hc : cells + 1 ≤ mc) (hs : slots + 6 ≤ ms) :
    W p l e R s m args below meth c H locs cells slots (vx_MQ below Qc XC args s mc ms free) (F0 m pc ls rest) := by
  intro T hT X
  have htr : e.platform.stackTraces = false := (show e.platform.stackTraces = l.stackTraces by rw [X.admits.platform]).trans hl
  have Y := vx_rebase X (R' := { frames := R.frames, locals := R.locals, cells := 1, slots := 6 }) (Nat.le_refl _) (Nat.le_refl _) hRcells hRslots
  obtain ⟨s', hA⟩ : ∃ z, z = (T.setVm s.vm).setFrames (.invoking m args :: below) := ⟨_, rfl⟩
  rw [← hA] at Y
  have hvm : s'.vm = s.vm := by rw [hA]; rfl
  have hhp : s'.heap = H := by rw [hA]; exact hT
  have hW0 : s.WarmedH s'.vm := by rw [hvm]; exact State.WarmedH.refl s
  have hat' : ∀ w ∈ vx_at0 own ic cls names, w.before args s' = true := fun w hw => vx_ot_at hW0 hvm.symm (hgood w (List.mem_cons_of_mem _ (List.mem_cons_of_mem _ hw))) (hat w hw)
  have hk' : (Cond.classLink own ik cls).before args s' = true := vx_ot_at hW0 hvm.symm (hgood _ List.mem_cons_self) hk
  have hini' : (Cond.initialized cls).before args s' = true := vx_ot_at hW0 hvm.symm (hgood _ (List.mem_cons_of_mem _ List.mem_cons_self)) hini
  have hU' : vx_Zq Bundle.tN "UNASSIGNED_STACK" Bundle.steD A s' s'.heap := by rw [hhp]; exact vx_Zq.moved hW0.alike (hU.kept hS.2.1)
  have hN' : vx_Zq Bundle.tN "SUPPRESSED_SENTINEL" Bundle.listD A s' s'.heap := by rw [hhp]; exact vx_Zq.moved hW0.alike (hN.kept hS.2.1)
  have h : ∀ w ∈ Bundle.ownAtoms0 own ic cls names, w.before args s' = true := vx_own hat' (vx_isRefq hU'.1) (vx_isRefq hN'.1) hU'.2.word hN'.2.word
  have hown' : s'.vm.findClass own = some m.cls := by rw [hvm]; exact hown
  have hins : (Cond.instantiable cls 6).before args s' = true := h _ (by simp [Bundle.ownAtoms0])
  obtain ⟨vm₁, cX, kX, hfX, hkX, -, -, X₁, st1⟩ := Y.newCold hexec (own := own) (C := cls) (index := ik) (n := 6) hown' hk' hins hini'
    (g := F0 m pc ls rest) rfl (by rw [hb]; exact d0) (Nat.le_refl _) (Nat.le_refl _)
  generalize hT1 : (T.setVm vm₁).pushCell { cls := cX, slots := kX.instanceTypes.map defaultValue, vm := .none } = T1 at X₁ st1
  have hcat : (Value.ref T.heap.size).category = 1 := rfl
  have hcellA : T1.heap[T.heap.size]? = some (freshCell cX kX) := by rw [← hT1]; exact State.heap_pushCell_size _ _
  have d3' : decode c.code (pc + 3) = .ok (.dup, 1) := by rw [hb]; exact d3
  obtain ⟨U, hsteps, hrun, hend, hW, hsame, ce, hce, hO⟩ := X₁.ctorThrow0 hexec htr (own := own) (cls := cls) (names := names) (ic := ic) hown' hcls hnames h (fun x hx => nomatch hx) hfX hkX hcellA (by rw [hhp, hT]; exact Nat.le_refl _)
    (g := { method := m, pc := pc + 4, locals := ls, stack := .ref T.heap.size :: .ref T.heap.size :: rest, locked := none }) rfl hsize rfl rfl (rest := rest) rfl
    (by rw [hb]; exact d4) (by rw [hb]; exact d7) hout hRframes (by simp only [List.map_cons, List.sum_cons, hcat]; omega) hlocks
  obtain ⟨f1, f2⟩ := vx_frame hsame
  rw [hhp] at f1 f2
  have hWs : s.WarmedH U.vm := State.WarmedH.trans hW0 hW
  have hcl : s.vm.findClass cls = some ce.cls := by
    have h9 := hO.cls
    rw [hvm] at h9
    exact h9
  have hall : s.sameButNew ({ U with vm := s.vm } : State) locs mc ms := by
    subst hA
    obtain ⟨e1, e2⟩ := hsame
    rw [State.setFrames_setFrames] at e1
    have h2 : (T.setVm s.vm).sameButNew ({ U with vm := s.vm } : State) [] (0 + 1) (0 + 6) := ⟨e1, e2⟩
    have h3 := X.same.trans h2
    rw [List.append_nil] at h3
    exact h3.mono hc hs
  refine ⟨U, ?_, .threw T.heap.size, hrun, hend, Or.inr ⟨T.heap.size, rfl, cls, ce, locs, hx U hWs.alike f1 (fun q hq => f2 q hq (fun z hz => nomatch hz)), hce, hO.vm, hcl, hWs, hall, hf⟩⟩
  refine st1 _ ?_
  show Steps p.tables e below (T1.setTop { method := m, pc := pc + 3, locals := ls, stack := .ref T.heap.size :: rest, locked := none }) _
  jvm_step X₁.here [X₁.here.top, hexec, d3', Value.category]
  exact hsteps
/-- 'throw new E("text")': new; dup; ldc; invokespecial; athrow -/
theorem vx_throwS {cc : ByteArray} {pc : Nat} (hexec : p.tables.exec = Jvm.exec) (hb : c.code = cc) (hl : l.stackTraces = false) {own cls text : String} {names : List String} {ik is ic mc ms sa : Nat} {A : Nat → Prop}
    (hown : s.vm.findClass own = some m.cls) (hcls : Bundle.fit cls = true) (hnames : ∀ n ∈ names, Bundle.fit n = true)
    (hk : (Cond.classLink own ik cls).before args s = true) (hini : (Cond.initialized cls).before args s = true) (hstr : vk_R own is text sa s) (hat : ∀ w ∈ vx_atS own ic cls names, w.before args s = true)
    (hgood : ∀ w ∈ Cond.classLink own ik cls :: Cond.initialized cls :: vx_atS own ic cls names, vx_ot w = true)
    (hU : vx_Zq Bundle.tN "UNASSIGNED_STACK" Bundle.steD A s s.heap) (hN : vx_Zq Bundle.tN "SUPPRESSED_SENTINEL" Bundle.listD A s s.heap) (hS : va_S A s.heap H locs) (hsize : ls.size = c.maxLocals)
    (d0 : decode cc pc = .ok (.new ik, 3)) (d3 : decode cc (pc + 3) = .ok (.dup, 1)) (d4 : decode cc (pc + 4) = .ok (.ldc is, 2)) (d6 : decode cc (pc + 6) = .ok (.invokespecial ic, 3)) (d9 : decode cc (pc + 9) = .ok (.athrow, 1))
    (hout : ∀ x ∈ c.exceptionTable.toList, covers x (pc + 9) = false)
    (hRframes : names.length + 3 < R.frames) (hRlocals : (rest.map fun v => v.category).sum + (13 * (names.length + 1) + 43) ≤ R.locals) (hRcells : cells + 1 ≤ R.cells) (hRslots : slots + 6 ≤ R.slots) (hlocks : meth.locks = false)
    (hx : ∀ t : State, s.vm.Alike t.vm → H.size ≤ t.heap.size → (∀ q : Nat, q < H.size → t.heap[q]? = H[q]?) → XC cls s t)
    (hf : ∀ z ∈ locs, free z.base) (hc : cells + 1 ≤ mc) (hs : slots + 6 ≤ ms) :
    W p l e R s m args below meth c H locs cells slots (vx_MQ below Qc XC args s mc ms free) (F0 m pc ls rest) := by
  intro T hT X
  have htr : e.platform.stackTraces = false := (show e.platform.stackTraces = l.stackTraces by rw [X.admits.platform]).trans hl
  have Y := vx_rebase X (R' := { frames := R.frames, locals := R.locals, cells := 1, slots := 6 }) (Nat.le_refl _) (Nat.le_refl _) hRcells hRslots
  obtain ⟨s', hA⟩ : ∃ z, z = (T.setVm s.vm).setFrames (.invoking m args :: below) := ⟨_, rfl⟩
  rw [← hA] at Y
  have hvm : s'.vm = s.vm := by rw [hA]; rfl
  have hhp : s'.heap = H := by rw [hA]; exact hT
  have hW0 : s.WarmedH s'.vm := by rw [hvm]; exact State.WarmedH.refl s
  have hat' : ∀ w ∈ vx_atS own ic cls names, w.before args s' = true := fun w hw => vx_ot_at hW0 hvm.symm (hgood w (List.mem_cons_of_mem _ (List.mem_cons_of_mem _ hw))) (hat w hw)
  have hk' : (Cond.classLink own ik cls).before args s' = true := vx_ot_at hW0 hvm.symm (hgood _ List.mem_cons_self) hk
  have hini' : (Cond.initialized cls).before args s' = true := vx_ot_at hW0 hvm.symm (hgood _ (List.mem_cons_of_mem _ List.mem_cons_self)) hini
  have hU' : vx_Zq Bundle.tN "UNASSIGNED_STACK" Bundle.steD A s' s'.heap := by rw [hhp]; exact vx_Zq.moved hW0.alike (hU.kept hS.2.1)
  have hN' : vx_Zq Bundle.tN "SUPPRESSED_SENTINEL" Bundle.listD A s' s'.heap := by rw [hhp]; exact vx_Zq.moved hW0.alike (hN.kept hS.2.1)
  have h : ∀ w ∈ Bundle.ownAtoms own ic cls names, w.before args s' = true := vx_own hat' (vx_isRefq hU'.1) (vx_isRefq hN'.1) hU'.2.word hN'.2.word
  have hown' : s'.vm.findClass own = some m.cls := by rw [hvm]; exact hown
  have hins : (Cond.instantiable cls 6).before args s' = true := h _ (by simp [Bundle.ownAtoms])
  obtain ⟨vm₁, cX, kX, hfX, hkX, -, -, X₁, st1⟩ := Y.newCold hexec (own := own) (C := cls) (index := ik) (n := 6) hown' hk' hins hini'
    (g := F0 m pc ls rest) rfl (by rw [hb]; exact d0) (Nat.le_refl _) (Nat.le_refl _)
  generalize hT1 : (T.setVm vm₁).pushCell { cls := cX, slots := kX.instanceTypes.map defaultValue, vm := .none } = T1 at X₁ st1
  have hcat : (Value.ref T.heap.size).category = 1 := rfl
  have hcellA : T1.heap[T.heap.size]? = some (freshCell cX kX) := by rw [← hT1]; exact State.heap_pushCell_size _ _
  have d3' : decode c.code (pc + 3) = .ok (.dup, 1) := by rw [hb]; exact d3
  have d4' : decode c.code (pc + 4) = .ok (.ldc is, 2) := by rw [hb]; exact d4
  have hstr' : vk_R own is text sa s' := vk_R.warm hW0 hstr
  obtain ⟨U, hsteps, hrun, hend, hW, hsame, ce, hce, hO⟩ := X₁.ctorThrowS hexec htr (own := own) (cls := cls) (names := names) (ic := ic) hown' hcls hnames h (fun x hx => nomatch hx) hfX hkX hcellA (by rw [hhp, hT]; exact Nat.le_refl _) (msg := .ref sa) rfl
    (g := { method := m, pc := pc + 6, locals := ls, stack := .ref sa :: .ref T.heap.size :: .ref T.heap.size :: rest, locked := none }) rfl hsize rfl rfl (rest := rest) rfl
    (by rw [hb]; exact d6) (by rw [hb]; exact d9) hout hRframes (by simp only [List.map_cons, List.sum_cons, hcat]; omega) hlocks
  obtain ⟨f1, f2⟩ := vx_frame hsame
  rw [hhp] at f1 f2
  have hWs : s.WarmedH U.vm := State.WarmedH.trans hW0 hW
  have hcl : s.vm.findClass cls = some ce.cls := by
    have h9 := hO.cls
    rw [hvm] at h9
    exact h9
  have hall : s.sameButNew ({ U with vm := s.vm } : State) locs mc ms := by
    subst hA
    obtain ⟨e1, e2⟩ := hsame
    rw [State.setFrames_setFrames] at e1
    have h2 : (T.setVm s.vm).sameButNew ({ U with vm := s.vm } : State) [] (0 + 1) (0 + 6) := ⟨e1, e2⟩
    have h3 := X.same.trans h2
    rw [List.append_nil] at h3
    exact h3.mono hc hs
  refine ⟨U, ?_, .threw T.heap.size, hrun, hend, Or.inr ⟨T.heap.size, rfl, cls, ce, locs, hx U hWs.alike f1 (fun q hq => f2 q hq (fun z hz => nomatch hz)), hce, hO.vm, hcl, hWs, hall, hf⟩⟩
  refine st1 _ ?_
  show Steps p.tables e below (T1.setTop { method := m, pc := pc + 3, locals := ls, stack := .ref T.heap.size :: rest, locked := none }) _
  jvm_step X₁.here [X₁.here.top, hexec, d3', Value.category]
  exact X₁.ldcString hexec (own := own) (text := text) (index := is) (a := sa) hown' hstr'.1 hstr'.2
    (g := { method := m, pc := pc + 4, locals := ls, stack := .ref T.heap.size :: .ref T.heap.size :: rest, locked := none }) rfl d4' _ hsteps
end Ends
section Bodies
variable {l : Launch}
theorem vx_ofW {y : MethodName} {ws ws' : List Cond} {rm : Room} {Pc : Array Value → State → Prop} {Qc : Array Value → State → Outcome → State → Prop} {XC : String → State → State → Prop} {mc ms : Nat} {free : Addr → Prop} {cc : ByteArray} {maxL : Nat} {ret : Option FieldType}
    (hy : plainName y.cls = true) (hw : ws = Cond.code y cc maxL ret :: ws')
    (body : ∀ p e s m args below meth c s₁, BodyLoose p l y (headSpec ws rm) cc maxL ret e s m args below meth c s₁ → c.maxLocals = maxL → (∀ x ∈ c.exceptionTable.toList, False) → Pc args s →
      W p l e (headSpec ws rm).room s m args below meth c s.heap [] 0 0 (vx_MQ below Qc XC args s mc ms free) (entryFrame m args maxL)) : vx_Met l y ws rm Pc Qc XC mc ms free := by
  refine MetFree.of_bodyS (code := cc) (maxLocals := maxL) (ret := ret) hy ?_ ?_
  · intro args s m h hn
    obtain ⟨meth, c, h1, h2, h3, h4, h5, h6, -, -⟩ := Cond.code_spec hn (atoms_spec (ws := ws) h _ (by rw [hw]; exact List.mem_cons_self))
    exact ⟨meth, c, h1, h2, h3, h4, h5, h6⟩
  · intro p e s m args below meth c s₁ B hml hP _
    have hh0 : s₁.heap = s.heap := by rw [B.state]; rfl
    have ht : ∀ x ∈ c.exceptionTable.toList, False := by
      obtain ⟨meth9, c9, h1, h2, -, -, -, -, h7, -⟩ := Cond.code_spec B.named (atoms_spec (ws := ws) B.pre _ (by rw [hw]; exact List.mem_cons_self))
      cases Option.some.inj (h1.symm.trans B.method)
      cases Option.some.inj (h2.symm.trans (Stand.of_body B).code)
      intro x hx
      rw [Array.isEmpty_iff.mp h7] at hx
      cases hx
    obtain ⟨t, a1, o, b1, b2, b3⟩ := body p e s m args below meth c s₁ B hml ht hP s₁ hh0 (Stand.of_body B)
    exact ⟨t, o, a1, b1, b2, b3⟩
/-- the table of a body with handlers -/
theorem vx_table {p : Program} {x y : MethodName} {S : Spec} {cc bytes : ByteArray} {maxL maxL' : Nat} {ret ret' : Option FieldType} {e : Env} {s s₁ : State} {m : MethodId} {args : Array Value} {below : List Frame} {meth : Method} {c : Code} {hh : List (Nat × Nat × Nat × Nat)}
    (B : BodyLoose p l y S cc maxL ret e s m args below meth c s₁) (h : (Cond.codeWith y bytes maxL' ret' hh).before args s = true) : c.exceptionTable.toList = tableOf hh := by
  obtain ⟨m9, meth9, c9, hn9, h1, h2, -, -, h6, -⟩ := Cond.codeWith_spec h
  cases Option.some.inj (hn9.symm.trans B.named)
  cases Option.some.inj (h1.symm.trans B.method)
  cases Option.some.inj (h2.symm.trans (Stand.of_body B).code)
  rw [← h6, table_eq]
end Bodies
end VXA
/-! ===== END ===== -/
/-! ===== BEGIN a static call of a method with an exception table ===== -/
section VXS
variable {p : Program} {l : Launch} {e : Env} {R : Room} {s : State} {m : MethodId} {args : Array Value} {below : List Frame} {meth : Method} {c : Code} {T : State} {H : Heap} {locs : List Loc} {cells slots : Nat}
abbrev vx_CSW (R : Room) (s : State) (args : Array Value) (own : String) (index : Nat) (y : MethodName) (bytes : ByteArray) (maxL : Nat) (ret : Option FieldType) (hh : List (Nat × Nat × Nat × Nat)) (ws : List Cond) (rm : Room) (mc ms n : Nat) : Prop :=
  (rm.cells = mc ∧ rm.slots = ms ∧ rm.frames + 1 ≤ R.frames ∧ 8 + (maxL + 11) + rm.locals ≤ R.locals ∧ (∀ w ∈ ws, ∀ (a' : Array Value) (U : State), s.WarmedH U.vm → w.before a' U = true) ∧ Cond.codeWith y bytes maxL ret hh ∈ ws) ∧
  (Cond.codeWith y bytes maxL ret hh).before args s = true ∧ (Cond.initialized y.cls).before args s = true ∧ (y.cls ≠ "java/lang/invoke/MethodHandle" ∧ y.cls ≠ "java/lang/invoke/VarHandle") ∧
  (∀ sig, parseMethodDescriptor y.desc = some sig → n = sig.parameters.length) ∧ (Cond.methodLink own index y).before args s = true ∧ (Cond.static y).before args s = true
theorem vx_cwSW {own : String} {index maxL mc ms : Nat} {y : MethodName} {bytes : ByteArray} {ret : Option FieldType} {hh : List (Nat × Nat × Nat × Nat)} {Ts ws ws' : List Cond} {rm : Room} (n : Nat) (ht : ∀ w ∈ Ts, w.before args s = true) (hT : GoodIn Ts (va_wsS own index y ws)) (hw : ws = Cond.codeWith y bytes maxL ret hh :: ws') (hrc : rm.cells = mc) (hrs : rm.slots = ms)
    (hd : y.cls ≠ "java/lang/invoke/MethodHandle" ∧ y.cls ≠ "java/lang/invoke/VarHandle" ∧ (parseMethodDescriptor y.desc).map (fun d => d.parameters.length) = some n) (hR : rm.frames + 1 ≤ R.frames ∧ 8 + (maxL + 11) + rm.locals ≤ R.locals) :
    vx_CSW R s args own index y bytes maxL ret hh ws rm mc ms n := by
  have ok : ∀ w ∈ va_wsS own index y ws, w.before args s = true := fun w h => ht w (hT w h).1
  have hG : GoodIn Ts ws := fun w h => hT w (by unfold va_wsS; exact List.mem_append_right _ h)
  have hc : Cond.codeWith y bytes maxL ret hh ∈ ws := by rw [hw]; exact List.mem_cons_self
  refine ⟨⟨hrc, hrs, hR.1, hR.2, pay_in ht hG, hc⟩, ht _ (hG _ hc).1, ok _ (by simp [va_wsS]), ⟨hd.1, hd.2.1⟩, fun sig h => ?_, ok _ (by simp [va_wsS]), ok _ (by simp [va_wsS])⟩
  have h2 := hd.2.2
  rw [h] at h2
  exact (Option.some.inj h2).symm
theorem vx_callSW (X : Stand p l e R s m args below meth c T locs cells slots) (hexec : p.tables.exec = Jvm.exec) {own : String} {index : Nat} {y : MethodName} {bytes : ByteArray} {maxL : Nat} {ret : Option FieldType} {hh : List (Nat × Nat × Nat × Nat)}
    (hown : s.vm.findClass own = some m.cls) (hlink : (Cond.methodLink own index y).before args s = true) (hstat : (Cond.static y).before args s = true) (hinit : (Cond.initialized y.cls).before args s = true)
    (hcode : (Cond.codeWith y bytes maxL ret hh).before args s = true) (hy : y.cls ≠ "java/lang/invoke/MethodHandle" ∧ y.cls ≠ "java/lang/invoke/VarHandle")
    {W9 : Nat} {Pre : Pt → Array Value → Prop} {Post : Pt → Array Value → Option Value → Pt → Prop} (hK : Back l R p e below s args y 3 W9 Pre Post)
    {g : JFrame} (hg : g.method = m) (hsize : g.locals.size = c.maxLocals) {argsL rest : List Value} (hlen : ∀ sig, parseMethodDescriptor y.desc = some sig → argsL.length = sig.parameters.length)
    (hstack : g.stack = argsL.reverse ++ rest) (hW : 2 * g.monitorRoom + (rest.map fun v => v.category).sum ≤ W9) (hdg : decode c.code g.pc = .ok (.invokestatic index, 3))
    (hpre : ∀ vm₁, s.WarmedH vm₁ → Pre ⟨T.setVm vm₁, locs, cells, slots⟩ argsL.toArray) :
    ∃ (v : Option Value) (vm₁ : Vm) (B : Pt), s.WarmedH vm₁ ∧ Stand p l e R s m args below meth c B.U B.locs B.cells B.slots ∧ Post ⟨T.setVm vm₁, locs, cells, slots⟩ argsL.toArray v B ∧
      ∀ target, Steps p.tables e below (B.U.setTop { g with pc := g.pc + 3, stack := v.toList ++ rest }) target → Steps p.tables e below (T.setTop g) target := by
  obtain ⟨mk, methM, cM, hnamed, hmethM, -, -, -, -, -, -, hsigM⟩ := Cond.codeWith_spec hcode
  have hstatic : methM.isStatic = true := Cond.static_spec hnamed hmethM hstat
  obtain ⟨kP, hkP, -⟩ := className_of_methodNamed hnamed
  have hinitP : kP.init = .initialized := Cond.initialized_spec (findClass_of_methodNamed hnamed) hkP hinit
  obtain ⟨vm₁, X₁, hstep₁⟩ := X.invokestatic hexec hown hlink hnamed hmethM hstatic hkP hinitP hy (g := g) hg (argsL := argsL) (rest := rest) (hlen _ hsigM) hstack hdg
  obtain ⟨v, B, X', hpost, hsteps⟩ := hK m meth c ⟨T.setVm vm₁, locs, cells, slots⟩ { g with stack := rest } (.invokestatic index) mk argsL.toArray X₁ hg hsize hdg hW (X₁.named hnamed) (hpre vm₁ X₁.warmed)
  exact ⟨v, vm₁, B, X₁.warmed, X', hpost, fun target h => hstep₁ _ fun acts => by rw [doInvoke_state]; exact hsteps.trans h⟩
theorem vx_runSW {y : MethodName} {bytes cc : ByteArray} {maxL nL mc ms n index : Nat} {ret : Option FieldType} {hh : List (Nat × Nat × Nat × Nat)} {ws : List Cond} {rm : Room} {Pc : Array Value → State → Prop} {Qc : Array Value → State → Outcome → State → Prop} {free : Addr → Prop} {Ts : List Cond} {own : String} {As rest : List Value} {g : JFrame}
    (S : CallFix p m c cc nL s args Ts own) (hM : Met l y ws rm Pc Qc mc ms free) (cw : vx_CSW R s args own index y bytes maxL ret hh ws rm mc ms n) (hp : PreS s H Pc As)
    (hg : g.method = m) (hn : As.length = n) (hsize : g.locals.size = nL) (hstack : g.stack = As.reverse ++ rest) (hW : 2 * g.monitorRoom + (rest.map fun v => v.category).sum ≤ 8) (hdg : decode cc g.pc = .ok (.invokestatic index, 3)) (hf : cells + mc ≤ R.cells ∧ slots + ms ≤ R.slots) :
    va_Run p l e R s m args below meth c H locs cells slots mc ms g rest (Qc As.toArray) (free) := by
  obtain ⟨⟨hrc, hrs, hfr, hlo, hws, hcw⟩, hcode, hini, hy, hlen, hl, hstt⟩ := cw
  have hK : Back l R p e below s args y 3 8 (PreOf R mc ms Pc) (PostOf Qc mc ms free) := va_backW (hh := hh) (bytes := bytes) (maxL := maxL) (ret := ret) hM hp.1 hrc hrs hfr hlo hws hcw (fun a' U hW => word_at hW (Or.inl (by first | rfl | simp [Cond.onTables, Cond.keeps, Cond.steady])) hini)
  obtain ⟨hx, hb, hml, ho, -⟩ := S
  intro T hT X
  obtain ⟨v, vm₁, ⟨U', l2, c2, s2⟩, hW₁, X', ⟨g', mk, t, L, e1, e2, hq, h1, hL, h2, h3⟩, st⟩ := vx_callSW X hx (hh := hh) (bytes := bytes) (maxL := maxL) (ret := ret) ho hl hstt hini hcode hy hK hg (hsize.trans hml.symm) (argsL := As) (rest := rest) (fun sig h => hn.trans (hlen sig h)) hstack hW (by rw [hb]; exact hdg)
    (fun vm₁ hW₁ => ⟨hf.1, hf.2, hp.2 (T.setVm vm₁) hT hW₁⟩)
  dsimp only [Pt.U, Pt.locs, Pt.cells, Pt.slots] at X' e1 e2 h1 h2 h3 st
  subst h1; subst h2; subst h3
  exact ⟨v, (T.setVm vm₁).calling g' mk As.toArray, t, U', L, hT, X', hL, e1, e2, hq, st⟩
/-- not caught here, past rows that name other classes: it goes on to the caller -/
theorem vx_outP {p : Program} {l : Launch} {e : Env} {R : Room} {s : State} {m : MethodId} {args : Array Value} {below : List Frame} {meth : Method} {c : Code} {H : Heap} {locs : List Loc} {cells slots : Nat} {free : Addr → Prop} {ls : Array Slot} {rest : List Value} {Qc : Array Value → State → Outcome → State → Prop} {XC : String → State → State → Prop}
    {pc : Nat} {own E : String} {ce : Cell} {q : Addr} {mc ms : Nat} (hown : s.vm.findClass own = some m.cls) (hlocks : meth.locks = false)
    (hpass : ∀ z ∈ c.exceptionTable.toList, covers z pc = false ∨ (z.catchType ≠ 0 ∧ ∃ nm : String, (Cond.classLink own z.catchType nm).before args s = true ∧ va_Nc E nm s)) (hcell : H[q]? = some ce) (hv : ce.vm = .none) (hcl : s.vm.findClass E = some ce.cls)
    (hx : ∀ t : State, t.heap = H → s.vm.Alike t.vm → XC E s t) (hf : ∀ z ∈ locs, free z.base) (hc : cells ≤ mc) (hs : slots ≤ ms) :
    vx_W p l e R s m args below meth c H locs cells slots (vx_MQ below Qc XC args s mc ms free) (F0 m pc ls rest) q := by
  intro T hT X
  have hpl : e.platform.magicAccessors = ({} : Platform).magicAccessors := by rw [X.admits.platform]
  obtain ⟨vm', hW', X', st⟩ := X.outThrough hlocks q (g := F0 m pc ls rest) rfl rfl rfl (cell := ce) (by rw [hT]; exact hcell) (by rw [hv]; rfl)
    (by obtain ⟨k9, h9, -⟩ := Vm.findClass_spec hcl; exact ⟨k9, h9⟩) (fun z hz => by
      rcases hpass z hz with h | ⟨hz0, nm, hl1, hn1⟩
      · exact Or.inl h
      · obtain ⟨c6, hc6, hcl6⟩ := Cond.classLink_spec hown hl1 e.platform hpl
        obtain ⟨a8, b8, h1, h2, h3⟩ := hn1
        cases Option.some.inj (h1.symm.trans hcl)
        cases Option.some.inj (h2.symm.trans hc6)
        exact Or.inr ⟨hz0, _, hcl6, h3⟩)
  obtain ⟨g₀, hfr⟩ := X'.frames_eq
  have hcell9 : ((T.setVm vm').setFrames (.throwing q :: below)).heap[q]? = some ce := by
    show T.heap[q]? = some ce
    rw [hT]; exact hcell
  have hend : Ended ((T.setVm vm').setFrames (.throwing q :: below)) below (.threw q) := State.frames_setFrames _ (State.cur_lt_of_frames hfr)
  refine ⟨(T.setVm vm').setFrames (.throwing q :: below), ?_, .threw q, X'.here.running, hend, Or.inr ⟨q, rfl, E, ce, locs, hx _ hT (X'.ends _).1.alike, hcell9, hv, hcl, (X'.ends _).1, (X'.ends _).2.mono hc hs, hf⟩⟩
  rw [X.pushThrowing_eq]
  exact st
end VXS
/-! ===== END ===== -/
/-! ===== BEGIN methods with a table of their own: called by a name, returning or throwing ===== -/
section VXH
/-! vx_backW, vx_callVX, vx_callSX, vx_callVW, vx_runVW, vx_runVX, vx_runSX, vx_ofWH follow the same proofs as their sisters above (Free/Laws.lean, Shelf42/LK1.lean); vx_outP calls Shelf42/NT130.lean (outThrough). -/
section
variable {l : Launch} {R : Room} {p : Program} {e : Env} {below : List Frame} {s : State} {sargs : Array Value} {y : MethodName} {len W9 : Nat}
theorem vx_backW {ws : List Cond} {rm : Room} {Pc : Array Value → State → Prop} {Qc : Array Value → State → Outcome → State → Prop} {XC : String → State → State → Prop} {mc ms : Nat} {free : Addr → Prop} {bytes : ByteArray} {maxL : Nat} {ret : Option FieldType} {hh : List (Nat × Nat × Nat × Nat)}
    (hM : vx_Met l y ws rm Pc Qc XC mc ms free) (hblind : FrameBlind Pc) (hrc : rm.cells = mc) (hrs : rm.slots = ms)
    (hframes : rm.frames + 1 ≤ R.frames) (hlocals : W9 + (maxL + 11) + rm.locals ≤ R.locals)
    (hws : ∀ w ∈ ws, ∀ a' U, s.WarmedH U.vm → w.before a' U = true) (hcode : Cond.codeWith y bytes maxL ret hh ∈ ws) (hinit : ∀ a' U, s.WarmedH U.vm → (Cond.initialized y.cls).before a' U = true) :
    vx_Back l R p e below s sargs y len W9 (PreOf R mc ms Pc) (PostOf Qc mc ms free) (vx_Post XC mc ms free) := by
  intro m meth c A g ig mk a X hg hsize hdg hW hn hp
  have h1 : (headSpec ws rm).pre.before a A.U = true := atoms_intro fun w hw => hws w hw _ _ X.warmed
  have h2 : (Cond.codeWith y bytes maxL ret hh).before a A.U = true := hws _ hcode _ _ X.warmed
  have h3 : (Cond.initialized y.cls).before a A.U = true := hinit _ _ X.warmed
  have h4 : A.cells + (headSpec ws rm).room.cells ≤ R.cells := by rw [show (headSpec ws rm).room.cells = mc from hrc]; exact hp.1
  have h5 : A.slots + (headSpec ws rm).room.slots ≤ R.slots := by rw [show (headSpec ws rm).room.slots = ms from hrs]; exact hp.2.1
  have hPc : Pc a (A.U.calling g mk a) := hblind _ _ _ _ hp.2.2
  obtain ⟨U, Ls, c0, s0⟩ := A
  dsimp only [Pt.U, Pt.locs, Pt.cells, Pt.slots] at h1 h2 h3 h4 h5 X hn hPc ⊢
  obtain ⟨m9, methY, cY, hn9, hmY, hcY, -, hlY, -⟩ := Cond.codeWith_spec h2
  cases Option.some.inj (hn9.symm.trans hn)
  obtain ⟨kY, hkY, -⟩ := className_of_methodNamed hn
  have hinitY : kY.init = .initialized := Cond.initialized_spec (findClass_of_methodNamed hn) hkY h3
  have h : At U g.method c below := by rw [hg]; exact X.here
  have hlocals9 : W9 + (maxL + 11) + (headSpec ws rm).room.locals ≤ R.locals := hlocals
  have happ : (headSpec ws rm).appliesLoose y e.platform (U.calling g mk a) = true :=
    Spec.appliesLoose_calling (g := g) h hdg hn hkY hinitY
      (X.room_calling (g := g) (R' := (headSpec ws rm).room) hsize hmY hcY hframes (by rw [hlY]; omega) h4 h5) h1
  obtain ⟨mid, hmid⟩ := h.above
  have hfr : (U.setTop g).frames = (.java g :: mid) ++ below := by rw [State.frames_setTop' g h.top, hmid]; rfl
  obtain ⟨o, s₂, hsteps, -, hend, hq⟩ := Steps.callFree hM p X.admits X.cas X.clock (acts := []) hfr happ hPc trivial
  have hq' : vx_Q Qc XC mc ms free a (U.calling g mk a) o s₂ := hq
  rw [State.frames_setTop' g h.top] at hend
  obtain ⟨g₀, hg0⟩ := Option.isSome_iff_exists.mp h.top
  obtain ⟨r, hr⟩ := State.topJava?_eq_some.mp hg0
  have hr' : (({ U with heap := s₂.heap, slotsUsed := s₂.slotsUsed } : State).setVm s₂.vm).frames = .java g₀ :: r := hr
  rcases hq' with ⟨hqc, L, hfe, hL⟩ | ⟨q, rfl, E, ce, L, hx, hce, hcv, hcl, hW₂, hsm, hL⟩
  · obtain ⟨⟨v, rfl⟩, hW₂, e2, q2, q3, q4, q5, q6⟩ := id hfe
    have e3 : s₂ = ({ (U.calling g mk a).setFrames s₂.frames with heap := s₂.heap, slotsUsed := s₂.slotsUsed } : State).setVm s₂.vm := by
      have : s₂ = ({ s₂ with vm := (U.calling g mk a).vm } : State).setVm s₂.vm := rfl
      rw [e2] at this
      exact this
    obtain ⟨c₂, i₂, len₂, hc₂, hd₂, hf₂⟩ := hend
    have hW' : U.WarmedH s₂.vm := hW₂
    have hcc : c₂ = c := by
      have h1 : s₂.code? g.method = U.code? g.method := by
        rw [State.code?_eq, State.code?_eq, hW'.alike.method?]
      exact Option.some.inj (hc₂.symm.trans (h1.trans h.code))
    subst hcc
    have hlen : len₂ = len := by rw [hdg] at hd₂; cases hd₂; rfl
    subst hlen
    have hs₂ : s₂ = (({ U with heap := s₂.heap, slotsUsed := s₂.slotsUsed } : State).setVm s₂.vm).setTop { g with pc := g.pc + len₂, stack := v.toList ++ g.stack } := by
      refine e3.trans ?_
      rw [hf₂, State.calling_eq h.top, State.setFrames_setFrames, State.setTop_of_frames _ hr', hr]
      rfl
    have hsame : U.sameButNew ({ U with heap := s₂.heap, slotsUsed := s₂.slotsUsed } : State) L mc ms := by
      refine ⟨?_, q2, q3, q4, q5, q6⟩
      obtain ⟨t, ht, -⟩ := State.frames_cons hr
      show ({ U with heap := s₂.heap, slotsUsed := s₂.slotsUsed } : State) = { U.setFrames U.frames with heap := s₂.heap, slotsUsed := s₂.slotsUsed }
      rw [State.setFrames_self ht]
    subst hg
    refine Or.inl ⟨v, ⟨(({ U with heap := s₂.heap, slotsUsed := s₂.slotsUsed } : State).setVm s₂.vm), Ls ++ L, c0 + mc, s0 + ms⟩,
      ⟨X.admits, X.cas, X.clock, X.frames, X.room, X.hears, X.method, X.code, (X.here.setHeapUsed s₂.heap s₂.slotsUsed).setVm hW'.alike, X.tail, State.WarmedH.trans X.warmed hW', X.limits, X.bytes, X.same.trans (hsame.setVm s.vm)⟩,
      ⟨g, mk, s₂, L, rfl, rfl, hqc, rfl, hL, rfl, rfl⟩, ?_⟩
    show Steps p.tables e below _ ((({ U with heap := s₂.heap, slotsUsed := s₂.slotsUsed } : State).setVm s₂.vm).setTop { g with pc := g.pc + len₂, stack := v.toList ++ g.stack })
    rw [← hs₂]
    exact hsteps
  · obtain ⟨e2, q2, q3, q4, q5, q6⟩ := id hsm
    have e3 : s₂ = ({ (U.calling g mk a).setFrames s₂.frames with heap := s₂.heap, slotsUsed := s₂.slotsUsed } : State).setVm s₂.vm := by
      have : s₂ = ({ s₂ with vm := (U.calling g mk a).vm } : State).setVm s₂.vm := rfl
      rw [e2] at this
      exact this
    have hf₂ : s₂.frames = .throwing q :: .java g :: U.frames.tail := hend
    have hW' : U.WarmedH s₂.vm := hW₂
    have hs₂ : s₂ = ((({ U with heap := s₂.heap, slotsUsed := s₂.slotsUsed } : State).setVm s₂.vm).setTop g).pushFrame (.throwing q) := by
      refine e3.trans ?_
      rw [hf₂, State.calling_eq h.top, State.setFrames_setFrames, State.pushFrame, State.frames_setTop _ hr', State.setTop_of_frames _ hr', State.setFrames_setFrames, hr]
      rfl
    have hsame : U.sameButNew ({ U with heap := s₂.heap, slotsUsed := s₂.slotsUsed } : State) L mc ms := by
      refine ⟨?_, q2, q3, q4, q5, q6⟩
      obtain ⟨t, ht, -⟩ := State.frames_cons hr
      show ({ U with heap := s₂.heap, slotsUsed := s₂.slotsUsed } : State) = { U.setFrames U.frames with heap := s₂.heap, slotsUsed := s₂.slotsUsed }
      rw [State.setFrames_self ht]
    subst hg
    refine Or.inr ⟨q, ⟨(({ U with heap := s₂.heap, slotsUsed := s₂.slotsUsed } : State).setVm s₂.vm), Ls ++ L, c0 + mc, s0 + ms⟩,
      ⟨X.admits, X.cas, X.clock, X.frames, X.room, X.hears, X.method, X.code, (X.here.setHeapUsed s₂.heap s₂.slotsUsed).setVm hW'.alike, X.tail, State.WarmedH.trans X.warmed hW', X.limits, X.bytes, X.same.trans (hsame.setVm s.vm)⟩,
      ⟨g, mk, s₂, L, E, ce, rfl, rfl, hx, hce, hcv, hcl, rfl, hL, rfl, rfl⟩, ?_⟩
    show Steps p.tables e below _ (((({ U with heap := s₂.heap, slotsUsed := s₂.slotsUsed } : State).setVm s₂.vm).setTop g).pushFrame (.throwing q))
    rw [← hs₂]
    exact hsteps
end
variable {p : Program} {l : Launch} {e : Env} {R : Room} {s : State} {m : MethodId} {args : Array Value} {below : List Frame} {meth : Method} {c : Code} {T : State} {H : Heap} {locs : List Loc} {cells slots : Nat}
theorem vx_callVX (X : Stand p l e R s m args below meth c T locs cells slots) (hexec : p.tables.exec = Jvm.exec) {own C : String} {index : Nat} {y : MethodName} {bytes : ByteArray} {maxL : Nat} {ret : Option FieldType} {hh : List (Nat × Nat × Nat × Nat)}
    (hown : s.vm.findClass own = some m.cls) (hlink : (Cond.methodLink own index y).before args s = true) (hinst : (Cond.instanceMethod y).before args s = true) (hsel : (Cond.selects C y y).before args s = true)
    (hcode : (Cond.codeWith y bytes maxL ret hh).before args s = true) (hy : y.cls ≠ "java/lang/invoke/MethodHandle" ∧ y.cls ≠ "java/lang/invoke/VarHandle")
    {W9 : Nat} {Pre : Pt → Array Value → Prop} {Post : Pt → Array Value → Option Value → Pt → Prop} {PostX : Pt → Array Value → Addr → Pt → Prop} (hK : vx_Back l R p e below s args y 3 W9 Pre Post PostX)
    {b : Addr} {cellB : Cell} (hcell : T.heap[b]? = some cellB) (hobj : cellB.vm.isStatics = false) (hcls : s.vm.findClass C = some cellB.cls)
    {g : JFrame} (hg : g.method = m) (hsize : g.locals.size = c.maxLocals) {argsL rest : List Value} (hlen : ∀ sig, parseMethodDescriptor y.desc = some sig → argsL.length = sig.parameters.length)
    (hstack : g.stack = argsL.reverse ++ .ref b :: rest) (hW : 2 * g.monitorRoom + (rest.map fun v => v.category).sum ≤ W9) (hdg : decode c.code g.pc = .ok (.invokevirtual index, 3))
    (hpre : ∀ vm₁, s.WarmedH vm₁ → Pre ⟨T.setVm vm₁, locs, cells, slots⟩ (Value.ref b :: argsL).toArray) :
    (∃ (v : Option Value) (vm₁ : Vm) (B : Pt), s.WarmedH vm₁ ∧ Stand p l e R s m args below meth c B.U B.locs B.cells B.slots ∧ Post ⟨T.setVm vm₁, locs, cells, slots⟩ (Value.ref b :: argsL).toArray v B ∧
      ∀ target, Steps p.tables e below (B.U.setTop { g with pc := g.pc + 3, stack := v.toList ++ rest }) target → Steps p.tables e below (T.setTop g) target) ∨
    (∃ (q : Addr) (vm₁ : Vm) (B : Pt), s.WarmedH vm₁ ∧ Stand p l e R s m args below meth c B.U B.locs B.cells B.slots ∧ PostX ⟨T.setVm vm₁, locs, cells, slots⟩ (Value.ref b :: argsL).toArray q B ∧
      Steps p.tables e below (T.setTop g) ((B.U.setTop { g with stack := rest }).pushFrame (.throwing q))) := by
  obtain ⟨mk, methM, hnamed, hmethM, hstM, habM⟩ := Cond.instanceMethod_spec hinst
  obtain ⟨m8, methM', cM, hn8, hmethM', -, -, -, -, -, -, hsigM⟩ := Cond.codeWith_spec hcode
  cases Option.some.inj (hn8.symm.trans hnamed)
  cases hmethM.symm.trans hmethM'
  obtain ⟨c2, r2, m2, q1, q2, q3, q4, kP, hkP, hkPi⟩ := Cond.selects_spec hsel
  cases hcls.symm.trans q1
  cases (State.methodFound?_of_named hnamed hy).symm.trans q2
  cases hnamed.symm.trans q3
  have hselP : selectMethod e.platform s.vm cellB.cls mk = .method mk := by rw [Launch.admits_selectMethod X.admits]; exact q4
  obtain ⟨vm₁, X₁, hstep₁⟩ := X.invokevirtual hexec hown hlink hnamed hmethM hstM hkP hkPi hy (a := b) (cell := cellB) hcell
    (fun z h => by rw [h] at hobj; cases hobj) hselP hmethM habM hkP hkPi (g := g) hg (argsL := argsL) (rest := rest) (hlen _ hsigM) hstack hdg
  rcases hK m meth c ⟨T.setVm vm₁, locs, cells, slots⟩ { g with stack := rest } (.invokevirtual index) mk (Value.ref b :: argsL).toArray X₁ hg hsize hdg hW (X₁.named hnamed) (hpre vm₁ X₁.warmed) with ⟨v, B, X', hpost, hsteps⟩ | ⟨q, B, X', hpost, hsteps⟩
  · exact Or.inl ⟨v, vm₁, B, X₁.warmed, X', hpost, fun target h => hstep₁ _ fun acts => by rw [doInvoke_state]; exact hsteps.trans h⟩
  · exact Or.inr ⟨q, vm₁, B, X₁.warmed, X', hpost, hstep₁ _ fun acts => by rw [doInvoke_state]; exact hsteps⟩
theorem vx_callSX (X : Stand p l e R s m args below meth c T locs cells slots) (hexec : p.tables.exec = Jvm.exec) {own : String} {index : Nat} {y : MethodName} {bytes : ByteArray} {maxL : Nat} {ret : Option FieldType} {hh : List (Nat × Nat × Nat × Nat)}
    (hown : s.vm.findClass own = some m.cls) (hlink : (Cond.methodLink own index y).before args s = true) (hstat : (Cond.static y).before args s = true) (hinit : (Cond.initialized y.cls).before args s = true)
    (hcode : (Cond.codeWith y bytes maxL ret hh).before args s = true) (hy : y.cls ≠ "java/lang/invoke/MethodHandle" ∧ y.cls ≠ "java/lang/invoke/VarHandle")
    {W9 : Nat} {Pre : Pt → Array Value → Prop} {Post : Pt → Array Value → Option Value → Pt → Prop} {PostX : Pt → Array Value → Addr → Pt → Prop} (hK : vx_Back l R p e below s args y 3 W9 Pre Post PostX)
    {g : JFrame} (hg : g.method = m) (hsize : g.locals.size = c.maxLocals) {argsL rest : List Value} (hlen : ∀ sig, parseMethodDescriptor y.desc = some sig → argsL.length = sig.parameters.length)
    (hstack : g.stack = argsL.reverse ++ rest) (hW : 2 * g.monitorRoom + (rest.map fun v => v.category).sum ≤ W9) (hdg : decode c.code g.pc = .ok (.invokestatic index, 3))
    (hpre : ∀ vm₁, s.WarmedH vm₁ → Pre ⟨T.setVm vm₁, locs, cells, slots⟩ argsL.toArray) :
    (∃ (v : Option Value) (vm₁ : Vm) (B : Pt), s.WarmedH vm₁ ∧ Stand p l e R s m args below meth c B.U B.locs B.cells B.slots ∧ Post ⟨T.setVm vm₁, locs, cells, slots⟩ argsL.toArray v B ∧
      ∀ target, Steps p.tables e below (B.U.setTop { g with pc := g.pc + 3, stack := v.toList ++ rest }) target → Steps p.tables e below (T.setTop g) target) ∨
    (∃ (q : Addr) (vm₁ : Vm) (B : Pt), s.WarmedH vm₁ ∧ Stand p l e R s m args below meth c B.U B.locs B.cells B.slots ∧ PostX ⟨T.setVm vm₁, locs, cells, slots⟩ argsL.toArray q B ∧
      Steps p.tables e below (T.setTop g) ((B.U.setTop { g with stack := rest }).pushFrame (.throwing q))) := by
  obtain ⟨mk, methM, cM, hnamed, hmethM, -, -, -, -, -, -, hsigM⟩ := Cond.codeWith_spec hcode
  have hstatic : methM.isStatic = true := Cond.static_spec hnamed hmethM hstat
  obtain ⟨kP, hkP, -⟩ := className_of_methodNamed hnamed
  have hinitP : kP.init = .initialized := Cond.initialized_spec (findClass_of_methodNamed hnamed) hkP hinit
  obtain ⟨vm₁, X₁, hstep₁⟩ := X.invokestatic hexec hown hlink hnamed hmethM hstatic hkP hinitP hy (g := g) hg (argsL := argsL) (rest := rest) (hlen _ hsigM) hstack hdg
  rcases hK m meth c ⟨T.setVm vm₁, locs, cells, slots⟩ { g with stack := rest } (.invokestatic index) mk argsL.toArray X₁ hg hsize hdg hW (X₁.named hnamed) (hpre vm₁ X₁.warmed) with ⟨v, B, X', hpost, hsteps⟩ | ⟨q, B, X', hpost, hsteps⟩
  · exact Or.inl ⟨v, vm₁, B, X₁.warmed, X', hpost, fun target h => hstep₁ _ fun acts => by rw [doInvoke_state]; exact hsteps.trans h⟩
  · exact Or.inr ⟨q, vm₁, B, X₁.warmed, X', hpost, hstep₁ _ fun acts => by rw [doInvoke_state]; exact hsteps⟩
theorem vx_callVW (X : Stand p l e R s m args below meth c T locs cells slots) (hexec : p.tables.exec = Jvm.exec) {own C : String} {index : Nat} {y : MethodName} {bytes : ByteArray} {maxL : Nat} {ret : Option FieldType} {hh : List (Nat × Nat × Nat × Nat)}
    (hown : s.vm.findClass own = some m.cls) (hlink : (Cond.methodLink own index y).before args s = true) (hinst : (Cond.instanceMethod y).before args s = true) (hsel : (Cond.selects C y y).before args s = true)
    (hcode : (Cond.codeWith y bytes maxL ret hh).before args s = true) (hy : y.cls ≠ "java/lang/invoke/MethodHandle" ∧ y.cls ≠ "java/lang/invoke/VarHandle")
    {W9 : Nat} {Pre : Pt → Array Value → Prop} {Post : Pt → Array Value → Option Value → Pt → Prop} (hK : Back l R p e below s args y 3 W9 Pre Post)
    {b : Addr} {cellB : Cell} (hcell : T.heap[b]? = some cellB) (hobj : cellB.vm.isStatics = false) (hcls : s.vm.findClass C = some cellB.cls)
    {g : JFrame} (hg : g.method = m) (hsize : g.locals.size = c.maxLocals) {argsL rest : List Value} (hlen : ∀ sig, parseMethodDescriptor y.desc = some sig → argsL.length = sig.parameters.length)
    (hstack : g.stack = argsL.reverse ++ .ref b :: rest) (hW : 2 * g.monitorRoom + (rest.map fun v => v.category).sum ≤ W9) (hdg : decode c.code g.pc = .ok (.invokevirtual index, 3))
    (hpre : ∀ vm₁, s.WarmedH vm₁ → Pre ⟨T.setVm vm₁, locs, cells, slots⟩ (Value.ref b :: argsL).toArray) :
    ∃ (v : Option Value) (vm₁ : Vm) (B : Pt), s.WarmedH vm₁ ∧ Stand p l e R s m args below meth c B.U B.locs B.cells B.slots ∧ Post ⟨T.setVm vm₁, locs, cells, slots⟩ (Value.ref b :: argsL).toArray v B ∧
      ∀ target, Steps p.tables e below (B.U.setTop { g with pc := g.pc + 3, stack := v.toList ++ rest }) target → Steps p.tables e below (T.setTop g) target := by
  obtain ⟨mk, methM, hnamed, hmethM, hstM, habM⟩ := Cond.instanceMethod_spec hinst
  obtain ⟨m8, methM', cM, hn8, hmethM', -, -, -, -, -, -, hsigM⟩ := Cond.codeWith_spec hcode
  cases Option.some.inj (hn8.symm.trans hnamed)
  cases hmethM.symm.trans hmethM'
  obtain ⟨c2, r2, m2, q1, q2, q3, q4, kP, hkP, hkPi⟩ := Cond.selects_spec hsel
  cases hcls.symm.trans q1
  cases (State.methodFound?_of_named hnamed hy).symm.trans q2
  cases hnamed.symm.trans q3
  have hselP : selectMethod e.platform s.vm cellB.cls mk = .method mk := by rw [Launch.admits_selectMethod X.admits]; exact q4
  obtain ⟨vm₁, X₁, hstep₁⟩ := X.invokevirtual hexec hown hlink hnamed hmethM hstM hkP hkPi hy (a := b) (cell := cellB) hcell
    (fun z h => by rw [h] at hobj; cases hobj) hselP hmethM habM hkP hkPi (g := g) hg (argsL := argsL) (rest := rest) (hlen _ hsigM) hstack hdg
  obtain ⟨v, B, X', hpost, hsteps⟩ := hK m meth c ⟨T.setVm vm₁, locs, cells, slots⟩ { g with stack := rest } (.invokevirtual index) mk (Value.ref b :: argsL).toArray X₁ hg hsize hdg hW (X₁.named hnamed) (hpre vm₁ X₁.warmed)
  exact ⟨v, vm₁, B, X₁.warmed, X', hpost, fun target h => hstep₁ _ fun acts => by rw [doInvoke_state]; exact hsteps.trans h⟩
abbrev vx_CVW (R : Room) (s : State) (args : Array Value) (own C : String) (index : Nat) (y : MethodName) (bytes : ByteArray) (maxL : Nat) (ret : Option FieldType) (hh : List (Nat × Nat × Nat × Nat)) (ws : List Cond) (rm : Room) (mc ms n : Nat) : Prop :=
  (rm.cells = mc ∧ rm.slots = ms ∧ rm.frames + 1 ≤ R.frames ∧ 8 + (maxL + 11) + rm.locals ≤ R.locals ∧ (∀ w ∈ ws, ∀ (a' : Array Value) (U : State), s.WarmedH U.vm → w.before a' U = true) ∧ Cond.codeWith y bytes maxL ret hh ∈ ws) ∧
  (Cond.codeWith y bytes maxL ret hh).before args s = true ∧ (Cond.initialized y.cls).before args s = true ∧ (y.cls ≠ "java/lang/invoke/MethodHandle" ∧ y.cls ≠ "java/lang/invoke/VarHandle") ∧
  (∀ sig, parseMethodDescriptor y.desc = some sig → n = sig.parameters.length) ∧ (Cond.methodLink own index y).before args s = true ∧ (Cond.instanceMethod y).before args s = true ∧ (Cond.selects C y y).before args s = true
theorem vx_runVW {y : MethodName} {bytes cc : ByteArray} {maxL nL mc ms n index : Nat} {ret : Option FieldType} {hh : List (Nat × Nat × Nat × Nat)} {ws : List Cond} {rm : Room} {Pc : Array Value → State → Prop} {Qc : Array Value → State → Outcome → State → Prop} {free : Addr → Prop} {Ts : List Cond} {own C : String} {b : Addr} {As rest : List Value} {g : JFrame}
    (S : CallFix p m c cc nL s args Ts own) (hM : Met l y ws rm Pc Qc mc ms free) (cw : vx_CVW R s args own C index y bytes maxL ret hh ws rm mc ms n) (hp : PreV s H C b Pc As)
    (hg : g.method = m) (hn : As.length = n) (hsize : g.locals.size = nL) (hstack : g.stack = As.reverse ++ .ref b :: rest) (hW : 2 * g.monitorRoom + (rest.map fun v => v.category).sum ≤ 8) (hdg : decode cc g.pc = .ok (.invokevirtual index, 3)) (hf : cells + mc ≤ R.cells ∧ slots + ms ≤ R.slots) :
    va_Run p l e R s m args below meth c H locs cells slots mc ms g rest (Qc (Value.ref b :: As).toArray) free := by
  obtain ⟨⟨hrc, hrs, hfr, hlo, hws, hcw⟩, hcode, hini, hy, hlen, hl, hin, hse⟩ := cw
  have hK : Back l R p e below s args y 3 8 (PreOf R mc ms Pc) (PostOf Qc mc ms free) := va_backW (hh := hh) (bytes := bytes) (maxL := maxL) (ret := ret) hM hp.1 hrc hrs hfr hlo hws hcw (fun a' U hW => word_at hW (Or.inl (by first | rfl | simp [Cond.onTables, Cond.keeps, Cond.steady])) hini)
  obtain ⟨hx, hb, hml, ho, -⟩ := S
  obtain ⟨-, ⟨cellB, hcB, hoB, hclB⟩, hPc⟩ := hp
  intro T hT X
  obtain ⟨v, vm₁, ⟨U', l2, c2, s2⟩, hW₁, X', ⟨g', mk, t, L, e1, e2, hq, h1, hL, h2, h3⟩, st⟩ := vx_callVW X hx (C := C) (hh := hh) (bytes := bytes) (maxL := maxL) (ret := ret) ho hl hin hse hcode hy hK (by rw [hT]; exact hcB) hoB hclB hg (hsize.trans hml.symm) (argsL := As) (rest := rest) (fun sig h => hn.trans (hlen sig h)) hstack hW (by rw [hb]; exact hdg)
    (fun vm₁ hW₁ => ⟨hf.1, hf.2, hPc (T.setVm vm₁) hT hW₁⟩)
  dsimp only [Pt.U, Pt.locs, Pt.cells, Pt.slots] at X' e1 e2 h1 h2 h3 st
  subst h1; subst h2; subst h3
  exact ⟨v, (T.setVm vm₁).calling g' mk (Value.ref b :: As).toArray, t, U', L, hT, X', hL, e1, e2, hq, st⟩
section
variable {y : MethodName} {bytes cc : ByteArray} {maxL nL mc ms n index : Nat} {ret : Option FieldType} {ws : List Cond} {rm : Room} {Pc : Array Value → State → Prop} {Qc : Array Value → State → Outcome → State → Prop} {XC : String → State → State → Prop} {free : Addr → Prop} {Ts : List Cond} {own C : String} {b : Addr} {As rest : List Value} {g : JFrame}
theorem vx_runVX {hh : List (Nat × Nat × Nat × Nat)} (S : CallFix p m c cc nL s args Ts own) (hM : vx_Met l y ws rm Pc Qc XC mc ms free) (cw : vx_CVW R s args own C index y bytes maxL ret hh ws rm mc ms n) (hp : PreV s H C b Pc As)
    (hg : g.method = m) (hn : As.length = n) (hsize : g.locals.size = nL) (hstack : g.stack = As.reverse ++ .ref b :: rest) (hW : 2 * g.monitorRoom + (rest.map fun v => v.category).sum ≤ 8) (hdg : decode cc g.pc = .ok (.invokevirtual index, 3)) (hf : cells + mc ≤ R.cells ∧ slots + ms ≤ R.slots) :
    vx_Run p l e R s m args below meth c H locs cells slots mc ms g rest (Qc (Value.ref b :: As).toArray) XC free := by
  obtain ⟨⟨hrc, hrs, hfr, hlo, hws, hcw⟩, hcode, hini, hy, hlen, hl, hin, hse⟩ := cw
  have hK : vx_Back l R p e below s args y 3 8 (PreOf R mc ms Pc) (PostOf Qc mc ms free) (vx_Post XC mc ms free) := vx_backW (hh := hh) (bytes := bytes) (maxL := maxL) (ret := ret) hM hp.1 hrc hrs hfr hlo hws hcw (fun a' U hW => word_at hW (Or.inl (by first | rfl | simp [Cond.onTables, Cond.keeps, Cond.steady])) hini)
  obtain ⟨hx, hb, hml, ho, -⟩ := S
  obtain ⟨-, ⟨cellB, hcB, hoB, hclB⟩, hPc⟩ := hp
  intro T hT X
  rcases vx_callVX X hx (C := C) (hh := hh) (bytes := bytes) (maxL := maxL) (ret := ret) ho hl hin hse hcode hy hK (by rw [hT]; exact hcB) hoB hclB hg (hsize.trans hml.symm) (argsL := As) (rest := rest) (fun sig h => hn.trans (hlen sig h)) hstack hW (by rw [hb]; exact hdg)
    (fun vm₁ hW₁ => ⟨hf.1, hf.2, hPc (T.setVm vm₁) hT hW₁⟩) with ⟨v, vm₁, ⟨U', l2, c2, s2⟩, hW₁, X', ⟨g', mk, t, L, e1, e2, hq, h1, hL, h2, h3⟩, st⟩ | ⟨q, vm₁, ⟨U', l2, c2, s2⟩, hW₁, X', ⟨g', mk, t, L, E, ce, e1, e2, hq, hce, hcv, hcl, h1, hL, h2, h3⟩, st⟩
  · dsimp only [Pt.U, Pt.locs, Pt.cells, Pt.slots] at X' e1 e2 h1 h2 h3 st
    subst h1; subst h2; subst h3
    exact Or.inl ⟨v, (T.setVm vm₁).calling g' mk (Value.ref b :: As).toArray, t, U', L, hT, X', hL, e1, e2, hq, st⟩
  · dsimp only [Pt.U, Pt.locs, Pt.cells, Pt.slots] at X' e1 e2 h1 h2 h3 st hcl
    subst h1; subst h2; subst h3
    exact Or.inr ⟨q, (T.setVm vm₁).calling g' mk (Value.ref b :: As).toArray, t, U', L, E, ce, hT, X', hL, e1, e2, hq, hce, hcv, vx_cls hW₁ hcl, st⟩
theorem vx_runSX {hh : List (Nat × Nat × Nat × Nat)} (S : CallFix p m c cc nL s args Ts own) (hM : vx_Met l y ws rm Pc Qc XC mc ms free) (cw : vx_CSW R s args own index y bytes maxL ret hh ws rm mc ms n) (hp : PreS s H Pc As)
    (hg : g.method = m) (hn : As.length = n) (hsize : g.locals.size = nL) (hstack : g.stack = As.reverse ++ rest) (hW : 2 * g.monitorRoom + (rest.map fun v => v.category).sum ≤ 8) (hdg : decode cc g.pc = .ok (.invokestatic index, 3)) (hf : cells + mc ≤ R.cells ∧ slots + ms ≤ R.slots) :
    vx_Run p l e R s m args below meth c H locs cells slots mc ms g rest (Qc As.toArray) XC free := by
  obtain ⟨⟨hrc, hrs, hfr, hlo, hws, hcw⟩, hcode, hini, hy, hlen, hl, hstt⟩ := cw
  have hK : vx_Back l R p e below s args y 3 8 (PreOf R mc ms Pc) (PostOf Qc mc ms free) (vx_Post XC mc ms free) := vx_backW (hh := hh) (bytes := bytes) (maxL := maxL) (ret := ret) hM hp.1 hrc hrs hfr hlo hws hcw (fun a' U hW => word_at hW (Or.inl (by first | rfl | simp [Cond.onTables, Cond.keeps, Cond.steady])) hini)
  obtain ⟨hx, hb, hml, ho, -⟩ := S
  intro T hT X
  rcases vx_callSX X hx (hh := hh) (bytes := bytes) (maxL := maxL) (ret := ret) ho hl hstt hini hcode hy hK hg (hsize.trans hml.symm) (argsL := As) (rest := rest) (fun sig h => hn.trans (hlen sig h)) hstack hW (by rw [hb]; exact hdg)
    (fun vm₁ hW₁ => ⟨hf.1, hf.2, hp.2 (T.setVm vm₁) hT hW₁⟩) with ⟨v, vm₁, ⟨U', l2, c2, s2⟩, hW₁, X', ⟨g', mk, t, L, e1, e2, hq, h1, hL, h2, h3⟩, st⟩ | ⟨q, vm₁, ⟨U', l2, c2, s2⟩, hW₁, X', ⟨g', mk, t, L, E, ce, e1, e2, hq, hce, hcv, hcl, h1, hL, h2, h3⟩, st⟩
  · dsimp only [Pt.U, Pt.locs, Pt.cells, Pt.slots] at X' e1 e2 h1 h2 h3 st
    subst h1; subst h2; subst h3
    exact Or.inl ⟨v, (T.setVm vm₁).calling g' mk As.toArray, t, U', L, hT, X', hL, e1, e2, hq, st⟩
  · dsimp only [Pt.U, Pt.locs, Pt.cells, Pt.slots] at X' e1 e2 h1 h2 h3 st hcl
    subst h1; subst h2; subst h3
    exact Or.inr ⟨q, (T.setVm vm₁).calling g' mk As.toArray, t, U', L, E, ce, hT, X', hL, e1, e2, hq, hce, hcv, vx_cls hW₁ hcl, st⟩
end
end VXH
theorem vx_ofWH {l : Launch} {y : MethodName} {ws ws' : List Cond} {rm : Room} {Pc : Array Value → State → Prop} {Qc : Array Value → State → Outcome → State → Prop} {XC : String → State → State → Prop} {mc ms : Nat} {free : Addr → Prop} {cc : ByteArray} {maxL : Nat} {ret : Option FieldType} {hh : List (Nat × Nat × Nat × Nat)}
    (hy : plainName y.cls = true) (hw : ws = Cond.codeWith y cc maxL ret hh :: ws')
    (body : ∀ p e s m args below meth c s₁, BodyLoose p l y (headSpec ws rm) cc maxL ret e s m args below meth c s₁ → c.maxLocals = maxL → Pc args s →
      W p l e (headSpec ws rm).room s m args below meth c s.heap [] 0 0 (vx_MQ below Qc XC args s mc ms free) (entryFrame m args maxL)) : vx_Met l y ws rm Pc Qc XC mc ms free := by
  refine MetFree.of_bodyS (code := cc) (maxLocals := maxL) (ret := ret) hy ?_ ?_
  · intro args s m h hn
    obtain ⟨m9, meth, c, hn9, h1, h2, h3, h4, -, h5, h6, -⟩ := Cond.codeWith_spec (atoms_spec (ws := ws) h _ (by rw [hw]; exact List.mem_cons_self))
    cases hn.symm.trans hn9
    exact ⟨meth, c, h1, h2, h3, h4, h5, h6⟩
  · intro p e s m args below meth c s₁ B hml hP _
    have hh0 : s₁.heap = s.heap := by rw [B.state]; rfl
    obtain ⟨t, a1, o, b1, b2, b3⟩ := body p e s m args below meth c s₁ B hml hP s₁ hh0 (Stand.of_body B)
    exact ⟨t, o, a1, b1, b2, b3⟩
def dk_at (c : ByteArray) (p b : Nat) : Prop := (Reader.u1 : Decoder Nat).runAt c p = Except.ok (b, p + 1)
theorem dk_u1 {c : ByteArray} {p : Nat} (h : p < c.size) : (Reader.u1 : Decoder Nat).runAt c p = Except.ok (c[p].toNat, p + 1) := by
  have e : (Reader.u1 : Decoder Nat).runAt c p = (if h : p < c.size then (fun (_ : ByteArray) (_ : Nat) => (Except.ok (c[p].toNat, p + 1) : Except DecodeError (Nat × Nat))) else (fun _ _ => Except.error (DecodeError.truncated p))) c p := rfl
  rw [e, dif_pos h]
theorem dk_lst {c : ByteArray} {L : List UInt8} (hc : c.data.toList = L) {p : Nat} {b : UInt8} (hp : L[p]? = some b) : dk_at c p b.toNat := by
  subst hc
  obtain ⟨h, e⟩ := List.getElem?_eq_some_iff.mp hp
  have h' : p < c.size := h
  have e2 : c[p] = b := e
  unfold dk_at
  rw [dk_u1 h', e2]
theorem dk_bind {α β : Type} {r : Decoder α} {k : α → Decoder β} {c : ByteArray} {p s : Nat} {a : α} (h : r.runAt c p = Except.ok (a, s)) : (r >>= k).runAt c p = (k a).runAt c s := by
  show Except.bind (r.runAt c p) _ = _
  rw [h]
  rfl
theorem dk_map {α β : Type} {r : Decoder α} {f : α → β} {c : ByteArray} {p s : Nat} {a : α} (h : r.runAt c p = Except.ok (a, s)) : (f <$> r).runAt c p = Except.ok (f a, s) := by
  show Except.bind (r.runAt c p) _ = _
  rw [h]
  rfl
theorem dk_dec {c : ByteArray} {pc n s : Nat} {i : Instr} (h : (Decoder.instr pc).runAt c pc = Except.ok (i, s)) (e : s = pc + n) : decode c pc = Except.ok (i, n) := by
  subst e
  show Except.bind ((Decoder.instr pc).runAt c pc) _ = _
  rw [h]
  show Except.ok (i, pc + n - pc) = _
  rw [Nat.add_sub_cancel_left]
theorem dk_u2 {c : ByteArray} {p a b : Nat} (h : dk_at c p a) (h2 : dk_at c (p + 1) b) : (Reader.u2 : Decoder Nat).runAt c p = Except.ok (a * 256 + b, p + 1 + 1) := by
  delta Reader.u2
  refine (dk_bind h).trans ?_
  exact (dk_bind h2).trans rfl
def fk (c : ByteArray) (pc o k a : Nat) : Prop := dk_at c pc o ∧ (k = 1 → dk_at c (pc + 1) a) ∧ (k = 2 → dk_at c (pc + 1) (a / 256) ∧ dk_at c (pc + 1 + 1) (a % 256))
def fw_1 (a : Nat) : List UInt8 → Bool
  | y :: _ => Nat.beq y.toNat a
  | [] => false
def fw_2 (a b : Nat) : List UInt8 → Bool
  | y :: r => cond (Nat.beq y.toNat a) (fw_1 b r) false
  | [] => false
def fw_k (r : List UInt8) (a : Nat) : Nat → Bool
  | 0 => true
  | 1 => fw_1 a r
  | _ => fw_2 (a / 256) (a % 256) r
def fw_x (o k a : Nat) (f : List UInt8 → Bool) : List UInt8 → Bool
  | [] => false
  | x :: r => cond (Nat.beq x.toNat o) (cond (fw_k r a k) (f (x :: r)) false) false
def fw : List (Nat × Nat × Nat × Nat) → Nat → List UInt8 → Bool
  | [] => fun _ _ => true
  | q :: T => fun p L => cond (Nat.ble p q.1) (fw_x q.2.1 q.2.2.1 q.2.2.2 (fw T q.1) (L.drop (q.1 - p))) false
theorem fw_if {a b : Bool} (h : cond a b false = true) : a = true ∧ b = true := by
  cases a with
  | false => exact absurd (show false = true from h) (by decide)
  | true => exact ⟨rfl, h⟩
theorem fw_at {c : ByteArray} {p : Nat} {x : UInt8} {r : List UInt8} (h : c.data.toList.drop p = x :: r) : dk_at c p x.toNat ∧ c.data.toList.drop (p + 1) = r := by
  constructor
  · refine dk_lst rfl (p := p) (b := x) ?_
    have e : (c.data.toList.drop p)[0]? = some x := (congrArg (fun l : List UInt8 => l[0]?) h).trans rfl
    rw [List.getElem?_drop, Nat.add_zero] at e
    exact e
  · exact (List.tail_drop (l := c.data.toList) (i := p)).symm.trans (congrArg List.tail h)
theorem fw_n {x : UInt8} {o : Nat} (h : Nat.beq x.toNat o = true) : x.toNat = o := Nat.eq_of_beq_eq_true h
theorem fw_1e {c : ByteArray} {p a : Nat} {r : List UInt8} (h : c.data.toList.drop p = r) (e : fw_1 a r = true) : dk_at c p a := by
  cases r with
  | nil => exact absurd (show false = true from e) (by decide)
  | cons y r => rw [← fw_n (x := y) (o := a) e]; exact (fw_at h).1
theorem fw_2e {c : ByteArray} {p a b : Nat} {r : List UInt8} (h : c.data.toList.drop p = r) (e : fw_2 a b r = true) : dk_at c p a ∧ dk_at c (p + 1) b := by
  cases r with
  | nil => exact absurd (show false = true from e) (by decide)
  | cons y r =>
    obtain ⟨e1, e2⟩ := fw_if (a := Nat.beq y.toNat a) (b := fw_1 b r) e
    refine ⟨?_, fw_1e (fw_at h).2 e2⟩
    rw [← fw_n e1]
    exact (fw_at h).1
theorem fw_go {c : ByteArray} : ∀ (T : List (Nat × Nat × Nat × Nat)) (p : Nat) (L : List UInt8), c.data.toList.drop p = L → fw T p L = true → ∀ (j pc o k a : Nat), T[j]? = some (pc, o, k, a) → fk c pc o k a := by
  intro T
  induction T with
  | nil =>
    intro p L _ _ j pc o k a e
    simp at e
  | cons q T ih =>
    intro p L hL h j pc o k a e
    obtain ⟨h1, h2⟩ := fw_if (a := Nat.ble p q.1) (b := fw_x q.2.1 q.2.2.1 q.2.2.2 (fw T q.1) (L.drop (q.1 - p))) h
    have hp : p ≤ q.1 := Nat.le_of_ble_eq_true h1
    have hd : c.data.toList.drop q.1 = L.drop (q.1 - p) := by rw [← hL, List.drop_drop, Nat.add_sub_cancel' hp]
    generalize hM : L.drop (q.1 - p) = M at h2 hd
    cases M with
    | nil => exact absurd (show false = true from h2) (by decide)
    | cons x r =>
      obtain ⟨h3, h4⟩ := fw_if (a := Nat.beq x.toNat q.2.1) (b := cond (fw_k r q.2.2.2 q.2.2.1) (fw T q.1 (x :: r)) false) h2
      obtain ⟨h5, h6⟩ := fw_if (a := fw_k r q.2.2.2 q.2.2.1) (b := fw T q.1 (x :: r)) h4
      cases j with
      | zero =>
        have hq : q = (pc, o, k, a) := Option.some.inj e
        subst hq
        have h3' : x.toNat = o := fw_n h3
        have hd' : c.data.toList.drop pc = x :: r := hd
        have h5' : fw_k r a k = true := h5
        refine ⟨?_, ?_, ?_⟩
        · rw [← h3']; exact (fw_at hd').1
        · intro hk; subst hk; exact fw_1e (fw_at hd').2 h5'
        · intro hk; subst hk; exact fw_2e (fw_at hd').2 h5'
      | succ j => exact ih q.1 (x :: r) hd h6 j pc o k a e
theorem fw_get {c : ByteArray} {T : List (Nat × Nat × Nat × Nat)} (h : fw T 0 c.data.toList = true) (j : Nat) {pc o k a : Nat} (e : T[j]? = some (pc, o, k, a)) : fk c pc o k a := fw_go T 0 c.data.toList rfl h j pc o k a e
theorem fo_42 {c : ByteArray} {pc k a : Nat} (h : fk c pc 42 k a) : decode c pc = Except.ok (.aload_n 0, 1) := by
  refine dk_dec (s := pc + 1) ?_ rfl
  delta Decoder.instr
  exact (dk_bind h.1).trans rfl
theorem fo_26 {c : ByteArray} {pc k a : Nat} (h : fk c pc 26 k a) : decode c pc = Except.ok (.iload_n 0, 1) := by
  refine dk_dec (s := pc + 1) ?_ rfl
  delta Decoder.instr
  exact (dk_bind h.1).trans rfl
theorem fo_43 {c : ByteArray} {pc k a : Nat} (h : fk c pc 43 k a) : decode c pc = Except.ok (.aload_n 1, 1) := by
  refine dk_dec (s := pc + 1) ?_ rfl
  delta Decoder.instr
  exact (dk_bind h.1).trans rfl
theorem fo_27 {c : ByteArray} {pc k a : Nat} (h : fk c pc 27 k a) : decode c pc = Except.ok (.iload_n 1, 1) := by
  refine dk_dec (s := pc + 1) ?_ rfl
  delta Decoder.instr
  exact (dk_bind h.1).trans rfl
theorem fo_60 {c : ByteArray} {pc k a : Nat} (h : fk c pc 60 k a) : decode c pc = Except.ok (.istore_n 1, 1) := by
  refine dk_dec (s := pc + 1) ?_ rfl
  delta Decoder.instr
  exact (dk_bind h.1).trans rfl
theorem fo_76 {c : ByteArray} {pc k a : Nat} (h : fk c pc 76 k a) : decode c pc = Except.ok (.astore_n 1, 1) := by
  refine dk_dec (s := pc + 1) ?_ rfl
  delta Decoder.instr
  exact (dk_bind h.1).trans rfl
theorem fo_44 {c : ByteArray} {pc k a : Nat} (h : fk c pc 44 k a) : decode c pc = Except.ok (.aload_n 2, 1) := by
  refine dk_dec (s := pc + 1) ?_ rfl
  delta Decoder.instr
  exact (dk_bind h.1).trans rfl
theorem fo_28 {c : ByteArray} {pc k a : Nat} (h : fk c pc 28 k a) : decode c pc = Except.ok (.iload_n 2, 1) := by
  refine dk_dec (s := pc + 1) ?_ rfl
  delta Decoder.instr
  exact (dk_bind h.1).trans rfl
theorem fo_61 {c : ByteArray} {pc k a : Nat} (h : fk c pc 61 k a) : decode c pc = Except.ok (.istore_n 2, 1) := by
  refine dk_dec (s := pc + 1) ?_ rfl
  delta Decoder.instr
  exact (dk_bind h.1).trans rfl
theorem fo_77 {c : ByteArray} {pc k a : Nat} (h : fk c pc 77 k a) : decode c pc = Except.ok (.astore_n 2, 1) := by
  refine dk_dec (s := pc + 1) ?_ rfl
  delta Decoder.instr
  exact (dk_bind h.1).trans rfl
theorem fo_45 {c : ByteArray} {pc k a : Nat} (h : fk c pc 45 k a) : decode c pc = Except.ok (.aload_n 3, 1) := by
  refine dk_dec (s := pc + 1) ?_ rfl
  delta Decoder.instr
  exact (dk_bind h.1).trans rfl
theorem fo_29 {c : ByteArray} {pc k a : Nat} (h : fk c pc 29 k a) : decode c pc = Except.ok (.iload_n 3, 1) := by
  refine dk_dec (s := pc + 1) ?_ rfl
  delta Decoder.instr
  exact (dk_bind h.1).trans rfl
theorem fo_62 {c : ByteArray} {pc k a : Nat} (h : fk c pc 62 k a) : decode c pc = Except.ok (.istore_n 3, 1) := by
  refine dk_dec (s := pc + 1) ?_ rfl
  delta Decoder.instr
  exact (dk_bind h.1).trans rfl
theorem fo_78 {c : ByteArray} {pc k a : Nat} (h : fk c pc 78 k a) : decode c pc = Except.ok (.astore_n 3, 1) := by
  refine dk_dec (s := pc + 1) ?_ rfl
  delta Decoder.instr
  exact (dk_bind h.1).trans rfl
theorem fo_3 {c : ByteArray} {pc k a : Nat} (h : fk c pc 3 k a) : decode c pc = Except.ok (.iconst 0, 1) := by
  refine dk_dec (s := pc + 1) ?_ rfl
  delta Decoder.instr
  exact (dk_bind h.1).trans rfl
theorem fo_4 {c : ByteArray} {pc k a : Nat} (h : fk c pc 4 k a) : decode c pc = Except.ok (.iconst 1, 1) := by
  refine dk_dec (s := pc + 1) ?_ rfl
  delta Decoder.instr
  exact (dk_bind h.1).trans rfl
theorem fo_5 {c : ByteArray} {pc k a : Nat} (h : fk c pc 5 k a) : decode c pc = Except.ok (.iconst 2, 1) := by
  refine dk_dec (s := pc + 1) ?_ rfl
  delta Decoder.instr
  exact (dk_bind h.1).trans rfl
theorem fo_6 {c : ByteArray} {pc k a : Nat} (h : fk c pc 6 k a) : decode c pc = Except.ok (.iconst 3, 1) := by
  refine dk_dec (s := pc + 1) ?_ rfl
  delta Decoder.instr
  exact (dk_bind h.1).trans rfl
theorem fo_7 {c : ByteArray} {pc k a : Nat} (h : fk c pc 7 k a) : decode c pc = Except.ok (.iconst 4, 1) := by
  refine dk_dec (s := pc + 1) ?_ rfl
  delta Decoder.instr
  exact (dk_bind h.1).trans rfl
theorem fo_8 {c : ByteArray} {pc k a : Nat} (h : fk c pc 8 k a) : decode c pc = Except.ok (.iconst 5, 1) := by
  refine dk_dec (s := pc + 1) ?_ rfl
  delta Decoder.instr
  exact (dk_bind h.1).trans rfl
theorem fo_2 {c : ByteArray} {pc k a : Nat} (h : fk c pc 2 k a) : decode c pc = Except.ok (.iconst (-1), 1) := by
  refine dk_dec (s := pc + 1) ?_ rfl
  delta Decoder.instr
  exact (dk_bind h.1).trans rfl
theorem fo_46 {c : ByteArray} {pc k a : Nat} (h : fk c pc 46 k a) : decode c pc = Except.ok (.iaload, 1) := by
  refine dk_dec (s := pc + 1) ?_ rfl
  delta Decoder.instr
  exact (dk_bind h.1).trans rfl
theorem fo_96 {c : ByteArray} {pc k a : Nat} (h : fk c pc 96 k a) : decode c pc = Except.ok (.iadd, 1) := by
  refine dk_dec (s := pc + 1) ?_ rfl
  delta Decoder.instr
  exact (dk_bind h.1).trans rfl
theorem fo_172 {c : ByteArray} {pc k a : Nat} (h : fk c pc 172 k a) : decode c pc = Except.ok (.ireturn, 1) := by
  refine dk_dec (s := pc + 1) ?_ rfl
  delta Decoder.instr
  exact (dk_bind h.1).trans rfl
theorem fo_79 {c : ByteArray} {pc k a : Nat} (h : fk c pc 79 k a) : decode c pc = Except.ok (.iastore, 1) := by
  refine dk_dec (s := pc + 1) ?_ rfl
  delta Decoder.instr
  exact (dk_bind h.1).trans rfl
theorem fo_100 {c : ByteArray} {pc k a : Nat} (h : fk c pc 100 k a) : decode c pc = Except.ok (.isub, 1) := by
  refine dk_dec (s := pc + 1) ?_ rfl
  delta Decoder.instr
  exact (dk_bind h.1).trans rfl
theorem fo_104 {c : ByteArray} {pc k a : Nat} (h : fk c pc 104 k a) : decode c pc = Except.ok (.imul, 1) := by
  refine dk_dec (s := pc + 1) ?_ rfl
  delta Decoder.instr
  exact (dk_bind h.1).trans rfl
theorem fo_87 {c : ByteArray} {pc k a : Nat} (h : fk c pc 87 k a) : decode c pc = Except.ok (.pop, 1) := by
  refine dk_dec (s := pc + 1) ?_ rfl
  delta Decoder.instr
  exact (dk_bind h.1).trans rfl
theorem fo_177 {c : ByteArray} {pc k a : Nat} (h : fk c pc 177 k a) : decode c pc = Except.ok (.return_, 1) := by
  refine dk_dec (s := pc + 1) ?_ rfl
  delta Decoder.instr
  exact (dk_bind h.1).trans rfl
theorem fo_89 {c : ByteArray} {pc k a : Nat} (h : fk c pc 89 k a) : decode c pc = Except.ok (.dup, 1) := by
  refine dk_dec (s := pc + 1) ?_ rfl
  delta Decoder.instr
  exact (dk_bind h.1).trans rfl
theorem fo_92 {c : ByteArray} {pc k a : Nat} (h : fk c pc 92 k a) : decode c pc = Except.ok (.dup2, 1) := by
  refine dk_dec (s := pc + 1) ?_ rfl
  delta Decoder.instr
  exact (dk_bind h.1).trans rfl
theorem fo_108 {c : ByteArray} {pc k a : Nat} (h : fk c pc 108 k a) : decode c pc = Except.ok (.idiv, 1) := by
  refine dk_dec (s := pc + 1) ?_ rfl
  delta Decoder.instr
  exact (dk_bind h.1).trans rfl
theorem fo_122 {c : ByteArray} {pc k a : Nat} (h : fk c pc 122 k a) : decode c pc = Except.ok (.ishr, 1) := by
  refine dk_dec (s := pc + 1) ?_ rfl
  delta Decoder.instr
  exact (dk_bind h.1).trans rfl
theorem fo_126 {c : ByteArray} {pc k a : Nat} (h : fk c pc 126 k a) : decode c pc = Except.ok (.iand, 1) := by
  refine dk_dec (s := pc + 1) ?_ rfl
  delta Decoder.instr
  exact (dk_bind h.1).trans rfl
theorem fo_147 {c : ByteArray} {pc k a : Nat} (h : fk c pc 147 k a) : decode c pc = Except.ok (.i2s, 1) := by
  refine dk_dec (s := pc + 1) ?_ rfl
  delta Decoder.instr
  exact (dk_bind h.1).trans rfl
theorem fo_133 {c : ByteArray} {pc k a : Nat} (h : fk c pc 133 k a) : decode c pc = Except.ok (.i2l, 1) := by
  refine dk_dec (s := pc + 1) ?_ rfl
  delta Decoder.instr
  exact (dk_bind h.1).trans rfl
theorem fo_191 {c : ByteArray} {pc k a : Nat} (h : fk c pc 191 k a) : decode c pc = Except.ok (.athrow, 1) := by
  refine dk_dec (s := pc + 1) ?_ rfl
  delta Decoder.instr
  exact (dk_bind h.1).trans rfl
theorem fo_176 {c : ByteArray} {pc k a : Nat} (h : fk c pc 176 k a) : decode c pc = Except.ok (.areturn, 1) := by
  refine dk_dec (s := pc + 1) ?_ rfl
  delta Decoder.instr
  exact (dk_bind h.1).trans rfl
theorem fo_190 {c : ByteArray} {pc k a : Nat} (h : fk c pc 190 k a) : decode c pc = Except.ok (.arraylength, 1) := by
  refine dk_dec (s := pc + 1) ?_ rfl
  delta Decoder.instr
  exact (dk_bind h.1).trans rfl
theorem fo_80 {c : ByteArray} {pc k a : Nat} (h : fk c pc 80 k a) : decode c pc = Except.ok (.lastore, 1) := by
  refine dk_dec (s := pc + 1) ?_ rfl
  delta Decoder.instr
  exact (dk_bind h.1).trans rfl
theorem fo_21 {c : ByteArray} {pc a : Nat} (h : fk c pc 21 1 a) : decode c pc = Except.ok (.iload a, 2) := by
  refine dk_dec (s := pc + 1 + 1) ?_ rfl
  delta Decoder.instr
  refine (dk_bind h.1).trans ?_
  exact (dk_bind (r := (Reader.u1 : Decoder Nat)) (k := fun y => pure (Instr.iload y)) (h.2.1 rfl)).trans rfl
theorem fo_54 {c : ByteArray} {pc a : Nat} (h : fk c pc 54 1 a) : decode c pc = Except.ok (.istore a, 2) := by
  refine dk_dec (s := pc + 1 + 1) ?_ rfl
  delta Decoder.instr
  refine (dk_bind h.1).trans ?_
  exact (dk_bind (r := (Reader.u1 : Decoder Nat)) (k := fun y => pure (Instr.istore y)) (h.2.1 rfl)).trans rfl
theorem fo_25 {c : ByteArray} {pc a : Nat} (h : fk c pc 25 1 a) : decode c pc = Except.ok (.aload a, 2) := by
  refine dk_dec (s := pc + 1 + 1) ?_ rfl
  delta Decoder.instr
  refine (dk_bind h.1).trans ?_
  exact (dk_bind (r := (Reader.u1 : Decoder Nat)) (k := fun y => pure (Instr.aload y)) (h.2.1 rfl)).trans rfl
theorem fo_58 {c : ByteArray} {pc a : Nat} (h : fk c pc 58 1 a) : decode c pc = Except.ok (.astore a, 2) := by
  refine dk_dec (s := pc + 1 + 1) ?_ rfl
  delta Decoder.instr
  refine (dk_bind h.1).trans ?_
  exact (dk_bind (r := (Reader.u1 : Decoder Nat)) (k := fun y => pure (Instr.astore y)) (h.2.1 rfl)).trans rfl
theorem fo_18 {c : ByteArray} {pc a : Nat} (h : fk c pc 18 1 a) : decode c pc = Except.ok (.ldc a, 2) := by
  refine dk_dec (s := pc + 1 + 1) ?_ rfl
  delta Decoder.instr
  refine (dk_bind h.1).trans ?_
  exact (dk_bind (r := (Reader.u1 : Decoder Nat)) (k := fun y => pure (Instr.ldc y)) (h.2.1 rfl)).trans rfl
theorem fo_180 {c : ByteArray} {pc a : Nat} (h : fk c pc 180 2 a) : decode c pc = Except.ok (.getfield a, 3) := by
  have e : a / 256 * 256 + a % 256 = a := by omega
  have q := dk_u2 (h.2.2 rfl).1 (h.2.2 rfl).2
  rw [e] at q
  refine dk_dec (s := pc + 1 + 1 + 1) ?_ rfl
  delta Decoder.instr
  refine (dk_bind h.1).trans ?_
  exact (dk_bind (r := (Reader.u2 : Decoder Nat)) (k := fun y => pure (Instr.getfield y)) q).trans rfl
theorem fo_181 {c : ByteArray} {pc a : Nat} (h : fk c pc 181 2 a) : decode c pc = Except.ok (.putfield a, 3) := by
  have e : a / 256 * 256 + a % 256 = a := by omega
  have q := dk_u2 (h.2.2 rfl).1 (h.2.2 rfl).2
  rw [e] at q
  refine dk_dec (s := pc + 1 + 1 + 1) ?_ rfl
  delta Decoder.instr
  refine (dk_bind h.1).trans ?_
  exact (dk_bind (r := (Reader.u2 : Decoder Nat)) (k := fun y => pure (Instr.putfield y)) q).trans rfl
theorem fo_182 {c : ByteArray} {pc a : Nat} (h : fk c pc 182 2 a) : decode c pc = Except.ok (.invokevirtual a, 3) := by
  have e : a / 256 * 256 + a % 256 = a := by omega
  have q := dk_u2 (h.2.2 rfl).1 (h.2.2 rfl).2
  rw [e] at q
  refine dk_dec (s := pc + 1 + 1 + 1) ?_ rfl
  delta Decoder.instr
  refine (dk_bind h.1).trans ?_
  exact (dk_bind (r := (Reader.u2 : Decoder Nat)) (k := fun y => pure (Instr.invokevirtual y)) q).trans rfl
theorem fo_183 {c : ByteArray} {pc a : Nat} (h : fk c pc 183 2 a) : decode c pc = Except.ok (.invokespecial a, 3) := by
  have e : a / 256 * 256 + a % 256 = a := by omega
  have q := dk_u2 (h.2.2 rfl).1 (h.2.2 rfl).2
  rw [e] at q
  refine dk_dec (s := pc + 1 + 1 + 1) ?_ rfl
  delta Decoder.instr
  refine (dk_bind h.1).trans ?_
  exact (dk_bind (r := (Reader.u2 : Decoder Nat)) (k := fun y => pure (Instr.invokespecial y)) q).trans rfl
theorem fo_184 {c : ByteArray} {pc a : Nat} (h : fk c pc 184 2 a) : decode c pc = Except.ok (.invokestatic a, 3) := by
  have e : a / 256 * 256 + a % 256 = a := by omega
  have q := dk_u2 (h.2.2 rfl).1 (h.2.2 rfl).2
  rw [e] at q
  refine dk_dec (s := pc + 1 + 1 + 1) ?_ rfl
  delta Decoder.instr
  refine (dk_bind h.1).trans ?_
  exact (dk_bind (r := (Reader.u2 : Decoder Nat)) (k := fun y => pure (Instr.invokestatic y)) q).trans rfl
theorem fo_187 {c : ByteArray} {pc a : Nat} (h : fk c pc 187 2 a) : decode c pc = Except.ok (.new a, 3) := by
  have e : a / 256 * 256 + a % 256 = a := by omega
  have q := dk_u2 (h.2.2 rfl).1 (h.2.2 rfl).2
  rw [e] at q
  refine dk_dec (s := pc + 1 + 1 + 1) ?_ rfl
  delta Decoder.instr
  refine (dk_bind h.1).trans ?_
  exact (dk_bind (r := (Reader.u2 : Decoder Nat)) (k := fun y => pure (Instr.new y)) q).trans rfl
theorem fo_17 {c : ByteArray} {pc a : Nat} {v : Int} (h : fk c pc 17 2 a) (hv : Reader.signed 16 a = v) : decode c pc = Except.ok (.sipush v, 3) := by
  subst hv
  have e : a / 256 * 256 + a % 256 = a := by omega
  have q := dk_u2 (h.2.2 rfl).1 (h.2.2 rfl).2
  rw [e] at q
  have q2 : (Reader.s2 : Decoder Int).runAt c (pc + 1) = Except.ok (Reader.signed 16 a, pc + 1 + 1 + 1) := by
    delta Reader.s2
    exact dk_map q
  refine dk_dec (s := pc + 1 + 1 + 1) ?_ rfl
  delta Decoder.instr
  refine (dk_bind h.1).trans ?_
  exact (dk_bind (r := (Reader.s2 : Decoder Int)) (k := fun y => pure (Instr.sipush y)) q2).trans rfl
theorem fo_167 {c : ByteArray} {pc a : Nat} {v : Int} (h : fk c pc 167 2 a) (hv : Reader.signed 16 a = v) : decode c pc = Except.ok (.goto v, 3) := by
  subst hv
  have e : a / 256 * 256 + a % 256 = a := by omega
  have q := dk_u2 (h.2.2 rfl).1 (h.2.2 rfl).2
  rw [e] at q
  have q2 : (Reader.s2 : Decoder Int).runAt c (pc + 1) = Except.ok (Reader.signed 16 a, pc + 1 + 1 + 1) := by
    delta Reader.s2
    exact dk_map q
  refine dk_dec (s := pc + 1 + 1 + 1) ?_ rfl
  delta Decoder.instr
  refine (dk_bind h.1).trans ?_
  exact (dk_bind (r := (Reader.s2 : Decoder Int)) (k := fun y => pure (Instr.goto y)) q2).trans rfl
theorem fo_153 {c : ByteArray} {pc a : Nat} {v : Int} (h : fk c pc 153 2 a) (hv : Reader.signed 16 a = v) : decode c pc = Except.ok (.ifCond .eq v, 3) := by
  subst hv
  have e : a / 256 * 256 + a % 256 = a := by omega
  have q := dk_u2 (h.2.2 rfl).1 (h.2.2 rfl).2
  rw [e] at q
  have q2 : (Reader.s2 : Decoder Int).runAt c (pc + 1) = Except.ok (Reader.signed 16 a, pc + 1 + 1 + 1) := by
    delta Reader.s2
    exact dk_map q
  refine dk_dec (s := pc + 1 + 1 + 1) ?_ rfl
  delta Decoder.instr
  refine (dk_bind h.1).trans ?_
  exact (dk_bind (r := (Reader.s2 : Decoder Int)) (k := fun y => pure (Instr.ifCond .eq y)) q2).trans rfl
theorem fo_159 {c : ByteArray} {pc a : Nat} {v : Int} (h : fk c pc 159 2 a) (hv : Reader.signed 16 a = v) : decode c pc = Except.ok (.if_icmp .eq v, 3) := by
  subst hv
  have e : a / 256 * 256 + a % 256 = a := by omega
  have q := dk_u2 (h.2.2 rfl).1 (h.2.2 rfl).2
  rw [e] at q
  have q2 : (Reader.s2 : Decoder Int).runAt c (pc + 1) = Except.ok (Reader.signed 16 a, pc + 1 + 1 + 1) := by
    delta Reader.s2
    exact dk_map q
  refine dk_dec (s := pc + 1 + 1 + 1) ?_ rfl
  delta Decoder.instr
  refine (dk_bind h.1).trans ?_
  exact (dk_bind (r := (Reader.s2 : Decoder Int)) (k := fun y => pure (Instr.if_icmp .eq y)) q2).trans rfl
theorem fo_154 {c : ByteArray} {pc a : Nat} {v : Int} (h : fk c pc 154 2 a) (hv : Reader.signed 16 a = v) : decode c pc = Except.ok (.ifCond .ne v, 3) := by
  subst hv
  have e : a / 256 * 256 + a % 256 = a := by omega
  have q := dk_u2 (h.2.2 rfl).1 (h.2.2 rfl).2
  rw [e] at q
  have q2 : (Reader.s2 : Decoder Int).runAt c (pc + 1) = Except.ok (Reader.signed 16 a, pc + 1 + 1 + 1) := by
    delta Reader.s2
    exact dk_map q
  refine dk_dec (s := pc + 1 + 1 + 1) ?_ rfl
  delta Decoder.instr
  refine (dk_bind h.1).trans ?_
  exact (dk_bind (r := (Reader.s2 : Decoder Int)) (k := fun y => pure (Instr.ifCond .ne y)) q2).trans rfl
theorem fo_160 {c : ByteArray} {pc a : Nat} {v : Int} (h : fk c pc 160 2 a) (hv : Reader.signed 16 a = v) : decode c pc = Except.ok (.if_icmp .ne v, 3) := by
  subst hv
  have e : a / 256 * 256 + a % 256 = a := by omega
  have q := dk_u2 (h.2.2 rfl).1 (h.2.2 rfl).2
  rw [e] at q
  have q2 : (Reader.s2 : Decoder Int).runAt c (pc + 1) = Except.ok (Reader.signed 16 a, pc + 1 + 1 + 1) := by
    delta Reader.s2
    exact dk_map q
  refine dk_dec (s := pc + 1 + 1 + 1) ?_ rfl
  delta Decoder.instr
  refine (dk_bind h.1).trans ?_
  exact (dk_bind (r := (Reader.s2 : Decoder Int)) (k := fun y => pure (Instr.if_icmp .ne y)) q2).trans rfl
theorem fo_155 {c : ByteArray} {pc a : Nat} {v : Int} (h : fk c pc 155 2 a) (hv : Reader.signed 16 a = v) : decode c pc = Except.ok (.ifCond .lt v, 3) := by
  subst hv
  have e : a / 256 * 256 + a % 256 = a := by omega
  have q := dk_u2 (h.2.2 rfl).1 (h.2.2 rfl).2
  rw [e] at q
  have q2 : (Reader.s2 : Decoder Int).runAt c (pc + 1) = Except.ok (Reader.signed 16 a, pc + 1 + 1 + 1) := by
    delta Reader.s2
    exact dk_map q
  refine dk_dec (s := pc + 1 + 1 + 1) ?_ rfl
  delta Decoder.instr
  refine (dk_bind h.1).trans ?_
  exact (dk_bind (r := (Reader.s2 : Decoder Int)) (k := fun y => pure (Instr.ifCond .lt y)) q2).trans rfl
theorem fo_161 {c : ByteArray} {pc a : Nat} {v : Int} (h : fk c pc 161 2 a) (hv : Reader.signed 16 a = v) : decode c pc = Except.ok (.if_icmp .lt v, 3) := by
  subst hv
  have e : a / 256 * 256 + a % 256 = a := by omega
  have q := dk_u2 (h.2.2 rfl).1 (h.2.2 rfl).2
  rw [e] at q
  have q2 : (Reader.s2 : Decoder Int).runAt c (pc + 1) = Except.ok (Reader.signed 16 a, pc + 1 + 1 + 1) := by
    delta Reader.s2
    exact dk_map q
  refine dk_dec (s := pc + 1 + 1 + 1) ?_ rfl
  delta Decoder.instr
  refine (dk_bind h.1).trans ?_
  exact (dk_bind (r := (Reader.s2 : Decoder Int)) (k := fun y => pure (Instr.if_icmp .lt y)) q2).trans rfl
theorem fo_156 {c : ByteArray} {pc a : Nat} {v : Int} (h : fk c pc 156 2 a) (hv : Reader.signed 16 a = v) : decode c pc = Except.ok (.ifCond .ge v, 3) := by
  subst hv
  have e : a / 256 * 256 + a % 256 = a := by omega
  have q := dk_u2 (h.2.2 rfl).1 (h.2.2 rfl).2
  rw [e] at q
  have q2 : (Reader.s2 : Decoder Int).runAt c (pc + 1) = Except.ok (Reader.signed 16 a, pc + 1 + 1 + 1) := by
    delta Reader.s2
    exact dk_map q
  refine dk_dec (s := pc + 1 + 1 + 1) ?_ rfl
  delta Decoder.instr
  refine (dk_bind h.1).trans ?_
  exact (dk_bind (r := (Reader.s2 : Decoder Int)) (k := fun y => pure (Instr.ifCond .ge y)) q2).trans rfl
theorem fo_162 {c : ByteArray} {pc a : Nat} {v : Int} (h : fk c pc 162 2 a) (hv : Reader.signed 16 a = v) : decode c pc = Except.ok (.if_icmp .ge v, 3) := by
  subst hv
  have e : a / 256 * 256 + a % 256 = a := by omega
  have q := dk_u2 (h.2.2 rfl).1 (h.2.2 rfl).2
  rw [e] at q
  have q2 : (Reader.s2 : Decoder Int).runAt c (pc + 1) = Except.ok (Reader.signed 16 a, pc + 1 + 1 + 1) := by
    delta Reader.s2
    exact dk_map q
  refine dk_dec (s := pc + 1 + 1 + 1) ?_ rfl
  delta Decoder.instr
  refine (dk_bind h.1).trans ?_
  exact (dk_bind (r := (Reader.s2 : Decoder Int)) (k := fun y => pure (Instr.if_icmp .ge y)) q2).trans rfl
theorem fo_157 {c : ByteArray} {pc a : Nat} {v : Int} (h : fk c pc 157 2 a) (hv : Reader.signed 16 a = v) : decode c pc = Except.ok (.ifCond .gt v, 3) := by
  subst hv
  have e : a / 256 * 256 + a % 256 = a := by omega
  have q := dk_u2 (h.2.2 rfl).1 (h.2.2 rfl).2
  rw [e] at q
  have q2 : (Reader.s2 : Decoder Int).runAt c (pc + 1) = Except.ok (Reader.signed 16 a, pc + 1 + 1 + 1) := by
    delta Reader.s2
    exact dk_map q
  refine dk_dec (s := pc + 1 + 1 + 1) ?_ rfl
  delta Decoder.instr
  refine (dk_bind h.1).trans ?_
  exact (dk_bind (r := (Reader.s2 : Decoder Int)) (k := fun y => pure (Instr.ifCond .gt y)) q2).trans rfl
theorem fo_163 {c : ByteArray} {pc a : Nat} {v : Int} (h : fk c pc 163 2 a) (hv : Reader.signed 16 a = v) : decode c pc = Except.ok (.if_icmp .gt v, 3) := by
  subst hv
  have e : a / 256 * 256 + a % 256 = a := by omega
  have q := dk_u2 (h.2.2 rfl).1 (h.2.2 rfl).2
  rw [e] at q
  have q2 : (Reader.s2 : Decoder Int).runAt c (pc + 1) = Except.ok (Reader.signed 16 a, pc + 1 + 1 + 1) := by
    delta Reader.s2
    exact dk_map q
  refine dk_dec (s := pc + 1 + 1 + 1) ?_ rfl
  delta Decoder.instr
  refine (dk_bind h.1).trans ?_
  exact (dk_bind (r := (Reader.s2 : Decoder Int)) (k := fun y => pure (Instr.if_icmp .gt y)) q2).trans rfl
theorem fo_158 {c : ByteArray} {pc a : Nat} {v : Int} (h : fk c pc 158 2 a) (hv : Reader.signed 16 a = v) : decode c pc = Except.ok (.ifCond .le v, 3) := by
  subst hv
  have e : a / 256 * 256 + a % 256 = a := by omega
  have q := dk_u2 (h.2.2 rfl).1 (h.2.2 rfl).2
  rw [e] at q
  have q2 : (Reader.s2 : Decoder Int).runAt c (pc + 1) = Except.ok (Reader.signed 16 a, pc + 1 + 1 + 1) := by
    delta Reader.s2
    exact dk_map q
  refine dk_dec (s := pc + 1 + 1 + 1) ?_ rfl
  delta Decoder.instr
  refine (dk_bind h.1).trans ?_
  exact (dk_bind (r := (Reader.s2 : Decoder Int)) (k := fun y => pure (Instr.ifCond .le y)) q2).trans rfl
theorem fo_164 {c : ByteArray} {pc a : Nat} {v : Int} (h : fk c pc 164 2 a) (hv : Reader.signed 16 a = v) : decode c pc = Except.ok (.if_icmp .le v, 3) := by
  subst hv
  have e : a / 256 * 256 + a % 256 = a := by omega
  have q := dk_u2 (h.2.2 rfl).1 (h.2.2 rfl).2
  rw [e] at q
  have q2 : (Reader.s2 : Decoder Int).runAt c (pc + 1) = Except.ok (Reader.signed 16 a, pc + 1 + 1 + 1) := by
    delta Reader.s2
    exact dk_map q
  refine dk_dec (s := pc + 1 + 1 + 1) ?_ rfl
  delta Decoder.instr
  refine (dk_bind h.1).trans ?_
  exact (dk_bind (r := (Reader.s2 : Decoder Int)) (k := fun y => pure (Instr.if_icmp .le y)) q2).trans rfl
theorem fo_16 {c : ByteArray} {pc a : Nat} {v : Int} (h : fk c pc 16 1 a) (hv : Reader.signed 8 a = v) : decode c pc = Except.ok (.bipush v, 2) := by
  subst hv
  have q2 : (Reader.s1 : Decoder Int).runAt c (pc + 1) = Except.ok (Reader.signed 8 a, pc + 1 + 1) := by
    delta Reader.s1
    exact dk_map (h.2.1 rfl)
  refine dk_dec (s := pc + 1 + 1) ?_ rfl
  delta Decoder.instr
  refine (dk_bind h.1).trans ?_
  exact (dk_bind (r := (Reader.s1 : Decoder Int)) (k := fun y => pure (Instr.bipush y)) q2).trans rfl
theorem fo_132 {c : ByteArray} {pc a n : Nat} {v : Int} (h : fk c pc 132 2 a) (hn : a / 256 = n) (hv : Reader.signed 8 (a % 256) = v) : decode c pc = Except.ok (.iinc n v, 3) := by
  subst hn
  subst hv
  have q2 : (Reader.s1 : Decoder Int).runAt c (pc + 1 + 1) = Except.ok (Reader.signed 8 (a % 256), pc + 1 + 1 + 1) := by
    delta Reader.s1
    exact dk_map (h.2.2 rfl).2
  refine dk_dec (s := pc + 1 + 1 + 1) ?_ rfl
  delta Decoder.instr
  refine (dk_bind h.1).trans ?_
  refine (dk_bind (r := (Reader.u1 : Decoder Nat)) (k := fun y => (Reader.s1 : Decoder Int) >>= fun z => pure (Instr.iinc y z)) (h.2.2 rfl).1).trans ?_
  exact (dk_bind (r := (Reader.s1 : Decoder Int)) (k := fun z => pure (Instr.iinc (a / 256) z)) q2).trans rfl
theorem fo_188 {c : ByteArray} {pc : Nat} (h : fk c pc 188 1 10) : decode c pc = Except.ok (.newarray .int, 2) := by
  refine dk_dec (s := pc + 1 + 1) ?_ rfl
  delta Decoder.instr
  refine (dk_bind h.1).trans ?_
  show (Decoder.newarray pc).runAt c (pc + 1) = _
  delta Decoder.newarray
  exact (dk_bind (h.2.1 rfl)).trans rfl
def gk_all (big : List Cond) : List (List Cond × List Nat) → Prop
  | [] => True
  | x :: t => (∀ w ∈ x.1, w ∈ big) ∧ gk_all big t
theorem gk_n {big : List Cond} : gk_all big [] := trivial
theorem gk_c {big r : List Cond} {ps : List Nat} {t : List (List Cond × List Nat)} (h : ∀ w ∈ r, w ∈ big) (ht : gk_all big t) : gk_all big ((r, ps) :: t) := ⟨h, ht⟩
theorem gk_mem {big : List Cond} : ∀ (L : List (List Cond × List Nat)), gk_all big L → ∀ w ∈ L.flatMap (fun x => x.2.filterMap (fun i => x.1[i]?)), w ∈ big := by
  intro L
  induction L with
  | nil => intro _ w hw; exact absurd hw (by simp)
  | cons x t ih =>
    intro h w hw
    rcases List.mem_flatMap.mp hw with ⟨y, hy, hw⟩
    obtain ⟨i, -, hi⟩ := List.mem_filterMap.mp hw
    have hm : w ∈ y.1 := by first | exact List.mem_of_getElem? hi | exact List.getElem?_mem hi
    rcases List.mem_cons.mp hy with e | hy
    · rw [e] at hm; exact h.1 w hm
    · exact ih h.2 w (List.mem_flatMap.mpr ⟨y, hy, hw⟩)
theorem goodIn_k {big : List Cond} (ws : List Cond) (L : List (List Cond × List Nat)) (hL : gk_all big L) (hp : ws = L.flatMap (fun x => x.2.filterMap (fun i => x.1[i]?))) (h : ws.all goodWord = true) : GoodIn big ws := fun w hw => ⟨gk_mem L hL w (hp ▸ hw), good_of_word (List.all_eq_true.mp h w hw)⟩
def gm_go : List Bool → List Cond → List Cond → List Cond
  | [], _, k => k
  | _ :: _, [], k => k
  | true :: m, c :: r, k => c :: gm_go m r k
  | false :: m, _ :: r, k => gm_go m r k
def gm_run : List (List Cond × List Bool) → List Cond
  | [] => []
  | x :: t => gm_go x.2 x.1 (gm_run t)
def gm_all (big : List Cond) : List (List Cond × List Bool) → Prop
  | [] => True
  | x :: t => (∀ w ∈ x.1, w ∈ big) ∧ gm_all big t
theorem gm_n {big : List Cond} : gm_all big [] := trivial
theorem gm_c {big r : List Cond} {m : List Bool} {t : List (List Cond × List Bool)} (h : ∀ w ∈ r, w ∈ big) (ht : gm_all big t) : gm_all big ((r, m) :: t) := ⟨h, ht⟩
theorem gm_mem1 : ∀ (m : List Bool) (r k : List Cond) (w : Cond), w ∈ gm_go m r k → w ∈ r ∨ w ∈ k
  | [], _, _, _, h => Or.inr h
  | true :: _, [], _, _, h => Or.inr h
  | false :: _, [], _, _, h => Or.inr h
  | true :: m, c :: r, k, w, h => by
    have h : w ∈ c :: gm_go m r k := h
    rcases List.mem_cons.mp h with e | h
    · exact Or.inl (List.mem_cons.mpr (Or.inl e))
    · rcases gm_mem1 m r k w h with h | h
      · exact Or.inl (List.mem_cons_of_mem _ h)
      · exact Or.inr h
  | false :: m, c :: r, k, w, h => by
    have h : w ∈ gm_go m r k := h
    rcases gm_mem1 m r k w h with h | h
    · exact Or.inl (List.mem_cons_of_mem _ h)
    · exact Or.inr h
theorem gm_mem {big : List Cond} : ∀ (L : List (List Cond × List Bool)), gm_all big L → ∀ w ∈ gm_run L, w ∈ big
  | [], _, w, hw => by
    have hw : w ∈ ([] : List Cond) := hw
    cases hw
  | x :: t, h, w, hw => by
    have h : (∀ w ∈ x.1, w ∈ big) ∧ gm_all big t := h
    have hw : w ∈ gm_go x.2 x.1 (gm_run t) := hw
    rcases gm_mem1 x.2 x.1 (gm_run t) w hw with h1 | h1
    · exact h.1 w h1
    · exact gm_mem t h.2 w h1
theorem goodIn_m {big : List Cond} (ws : List Cond) (L : List (List Cond × List Bool)) (hL : gm_all big L) (hp : ws = gm_run L) (h : ws.all goodWord = true) : GoodIn big ws := fun w hw => ⟨gm_mem L hL w (hp ▸ hw), good_of_word (List.all_eq_true.mp h w hw)⟩

def RX0 : String := "MajorityIndex$Row"
def TX0 : u_T := fun k => match k with
  | 0 => ("MajorityIndex$Row", "cell", "[I", true)
  | _ => ("MajorityIndex$Row", "length", "I", false)
def tyX0 : Nat → FieldType := fun k => match k with
  | 0 => .array .int
  | _ => .int
def RX1 : String := "MajorityIndex$Tally"
def TX1 : u_T := fun k => match k with
  | 0 => ("MajorityIndex$Tally", "kind", "[I", true)
  | 1 => ("MajorityIndex$Tally", "often", "[I", true)
  | 2 => ("MajorityIndex$Tally", "taken", "I", false)
  | _ => ("MajorityIndex$Tally", "most", "I", false)
def tyX1 : Nat → FieldType := fun k => match k with
  | 0 => .array .int
  | 1 => .array .int
  | 2 => .int
  | _ => .int
def RX2 : String := "MajorityIndex$Tree"
def TX2 : u_T := fun k => match k with
  | 0 => ("MajorityIndex$Tree", "row", "LMajorityIndex$Row;", true)
  | 1 => ("MajorityIndex$Tree", "joined", "LMajorityIndex$Votes;", true)
  | 2 => ("MajorityIndex$Tree", "from", "[I", true)
  | 3 => ("MajorityIndex$Tree", "to", "[I", true)
  | 4 => ("MajorityIndex$Tree", "size", "[I", true)
  | 5 => ("MajorityIndex$Tree", "lossOf", "[I", true)
  | 6 => ("MajorityIndex$Tree", "lessBy", "[I", true)
  | 7 => ("MajorityIndex$Tree", "value", "[I", true)
  | 8 => ("MajorityIndex$Tree", "number", "[I", true)
  | 9 => ("MajorityIndex$Tree", "nodes", "I", false)
  | _ => ("MajorityIndex$Tree", "slotsHere", "I", false)
def tyX2 : Nat → FieldType := fun k => match k with
  | 0 => .object "MajorityIndex$Row"
  | 1 => .object "MajorityIndex$Votes"
  | 2 => .array .int
  | 3 => .array .int
  | 4 => .array .int
  | 5 => .array .int
  | 6 => .array .int
  | 7 => .array .int
  | 8 => .array .int
  | 9 => .int
  | _ => .int
def RX3 : String := "MajorityIndex$Votes"
def TX3 : u_T := fun k => match k with
  | 0 => ("MajorityIndex$Votes", "value", "[I", true)
  | 1 => ("MajorityIndex$Votes", "number", "[I", true)
  | 2 => ("MajorityIndex$Votes", "size", "I", false)
  | 3 => ("MajorityIndex$Votes", "lost", "I", false)
  | _ => ("MajorityIndex$Votes", "lessBy", "I", false)
def tyX3 : Nat → FieldType := fun k => match k with
  | 0 => .array .int
  | 1 => .array .int
  | 2 => .int
  | 3 => .int
  | _ => .int
def RX4 : String := "MajorityIndex"
def TX4 : u_T := fun k => match k with
  | 0 => ("MajorityIndex", "row", "LMajorityIndex$Row;", true)
  | 1 => ("MajorityIndex", "tree", "LMajorityIndex$Tree;", true)
  | 2 => ("MajorityIndex", "tally", "LMajorityIndex$Tally;", true)
  | 3 => ("MajorityIndex", "votes", "LMajorityIndex$Votes;", true)
  | 4 => ("MajorityIndex", "otherVotes", "LMajorityIndex$Votes;", true)
  | 5 => ("MajorityIndex", "wins", "[I", true)
  | 6 => ("MajorityIndex", "fewest", "[I", true)
  | 7 => ("MajorityIndex", "slotsNow", "I", false)
  | _ => ("MajorityIndex", "treeIsOld", "Z", false)
def tyX4 : Nat → FieldType := fun k => match k with
  | 0 => .object "MajorityIndex$Row"
  | 1 => .object "MajorityIndex$Tree"
  | 2 => .object "MajorityIndex$Tally"
  | 3 => .object "MajorityIndex$Votes"
  | 4 => .object "MajorityIndex$Votes"
  | 5 => .array .int
  | 6 => .array .int
  | 7 => .int
  | _ => .boolean
def RX5 : String := "MajorityIndexModel"
def TX5 : u_T := fun k => match k with
  | 0 => ("MajorityIndexModel", "row", "[I", true)
  | 1 => ("MajorityIndexModel", "n", "I", false)
  | 2 => ("MajorityIndexModel", "slots", "I", false)
  | 3 => ("MajorityIndexModel", "thrown", "I", false)
  | 4 => ("MajorityIndexModel", "many", "[I", true)
  | 5 => ("MajorityIndexModel", "loss", "[I", true)
  | 6 => ("MajorityIndexModel", "less", "[I", true)
  | 7 => ("MajorityIndexModel", "voteValue", "[I", true)
  | 8 => ("MajorityIndexModel", "voteNumber", "[I", true)
  | 9 => ("MajorityIndexModel", "allValue", "[I", true)
  | 10 => ("MajorityIndexModel", "allNumber", "[I", true)
  | 11 => ("MajorityIndexModel", "allMany", "I", false)
  | 12 => ("MajorityIndexModel", "nodeL", "[I", true)
  | 13 => ("MajorityIndexModel", "nodeR", "[I", true)
  | 14 => ("MajorityIndexModel", "nodes", "I", false)
  | 15 => ("MajorityIndexModel", "part", "[I", true)
  | 16 => ("MajorityIndexModel", "partMany", "I", false)
  | 17 => ("MajorityIndexModel", "wasMany", "[I", true)
  | 18 => ("MajorityIndexModel", "wasLoss", "[I", true)
  | 19 => ("MajorityIndexModel", "wasValue", "[I", true)
  | 20 => ("MajorityIndexModel", "wasNumber", "[I", true)
  | 21 => ("MajorityIndexModel", "path", "[I", true)
  | 22 => ("MajorityIndexModel", "pathMany", "I", false)
  | 23 => ("MajorityIndexModel", "heavyValue", "[I", true)
  | 24 => ("MajorityIndexModel", "heavyTimes", "[I", true)
  | 25 => ("MajorityIndexModel", "heavyMany", "I", false)
  | 26 => ("MajorityIndexModel", "fewest", "[I", true)
  | 27 => ("MajorityIndexModel", "which", "[I", true)
  | 28 => ("MajorityIndexModel", "met", "[I", true)
  | _ => ("MajorityIndexModel", "mostMet", "I", false)
def tyX5 : Nat → FieldType := fun k => match k with
  | 0 => .array .int
  | 1 => .int
  | 2 => .int
  | 3 => .int
  | 4 => .array .int
  | 5 => .array .int
  | 6 => .array .int
  | 7 => .array .int
  | 8 => .array .int
  | 9 => .array .int
  | 10 => .array .int
  | 11 => .int
  | 12 => .array .int
  | 13 => .array .int
  | 14 => .int
  | 15 => .array .int
  | 16 => .int
  | 17 => .array .int
  | 18 => .array .int
  | 19 => .array .int
  | 20 => .array .int
  | 21 => .array .int
  | 22 => .int
  | 23 => .array .int
  | 24 => .array .int
  | 25 => .int
  | 26 => .array .int
  | 27 => .array .int
  | 28 => .array .int
  | _ => .int
abbrev vwCl : List vw_C := [(RX0, TX0, 2), (RX1, TX1, 4), (RX2, TX2, 11), (RX3, TX3, 5), (RX4, TX4, 9), (RX5, TX5, 30)]


theorem kc_lt {a b : Int32} (h : a < b) : a.toInt < b.toInt := Int32.lt_iff_toInt_lt.mp h
theorem kc_le {a b : Int32} (h : a ≤ b) : a.toInt ≤ b.toInt := Int32.le_iff_toInt_le.mp h
theorem kc_nlt {a b : Int32} (h : ¬ a < b) : b.toInt ≤ a.toInt := Int.not_lt.mp (fun q => h (Int32.lt_iff_toInt_lt.mpr q))
theorem kc_nle {a b : Int32} (h : ¬ a ≤ b) : b.toInt < a.toInt := Int.not_le.mp (fun q => h (Int32.le_iff_toInt_le.mpr q))
theorem kc_eq {a b : Int32} (h : a = b) : a.toInt = b.toInt := congrArg Int32.toInt h
theorem kc_ne {a b : Int32} (h : ¬ a = b) : ¬ a.toInt = b.toInt := fun q => h (Int32.toInt_inj.mp q)
theorem ki_in {i : Int32} {n : Nat} (h0 : 0 ≤ i.toInt) (h1 : i.toInt < (n : Int)) : vp_in i n := by
  have hz : (0 : Int32).toInt = 0 := by decide
  rintro (h | h)
  · have := Int32.lt_iff_toInt_lt.mp h
    rw [hz] at this
    omega
  · have h2 : i.toNatClampNeg = i.toInt.toNat := rfl
    omega
theorem ki_cA {D : va_G} {cl : List vw_C} {tys : List (ClassId × FieldType)} {s : State} {c1 c2 : ClassId} (h : va_K D cl tys s) (i j : Nat) (hi : tys[i]? = some (c1, .int)) (hj : tys[j]? = some (c2, .int)) : c2 = c1 := by
  have h1 : s.vm.findClass ("[" ++ (FieldType.int).toString) = some c1 := (h.2 i _ hi).2
  have h2 : s.vm.findClass ("[" ++ (FieldType.int).toString) = some c2 := (h.2 j _ hj).2
  exact Option.some.inj (h2.symm.trans h1)
theorem ki_zi (cA : ClassId) (n : Nat) : vp_cell cA (n, .inl (fun _ => 0)) = arrV cA n (fun _ => defaultValue .int) := rfl
theorem ki_zl (cA : ClassId) (n : Nat) : vp_cell cA (n, .inr (.inl (fun _ => 0))) = arrV cA n (fun _ => defaultValue .long) := rfl
theorem ki_ofRun {p : Program} {l : Launch} {e : Env} {R : Room} {s : State} {m : MethodId} {args : Array Value} {below : List Frame} {meth : Method} {c : Code} {H : Heap} {locs : List Loc} {cells slots mc ms : Nat} {g : JFrame} {rest : List Value} {Qa : State → Outcome → State → Prop} {free : Addr → Prop} (h : va_Run p l e R s m args below meth c H locs cells slots mc ms g rest Qa free) : CallRun p l e R s m args below meth c H locs cells slots mc ms g rest Qa free := by
  intro T hT X
  obtain ⟨v, st₀, t, T', L, h0, X', hL, e1, -, h2, st⟩ := h T hT X
  exact ⟨v, st₀, t, T', L, h0, X', hL, e1, h2, st⟩
theorem ki_inl {i : Int32} {n : Nat} (h : ¬ (i < 0 ∨ n ≤ i.toNatClampNeg)) : vp_in i n := h
theorem ki_z0 : ∀ j, j < 2 → defaultValue (tyX0 j) = vp_V [.null, .int 0] j := by
  intro j hj
  rcases (show j = 0 ∨ j = 1 by omega) with rfl | rfl <;> rfl
theorem ki_z1 : ∀ j, j < 4 → defaultValue (tyX1 j) = vp_V [.null, .null, .int 0, .int 0] j := by
  intro j hj
  rcases (show j = 0 ∨ j = 1 ∨ j = 2 ∨ j = 3 by omega) with rfl | rfl | rfl | rfl <;> rfl
theorem ki_z2 : ∀ j, j < 11 → defaultValue (tyX2 j) = vp_V [.null, .null, .null, .null, .null, .null, .null, .null, .null, .int 0, .int 0] j := by
  intro j hj
  rcases (show j = 0 ∨ j = 1 ∨ j = 2 ∨ j = 3 ∨ j = 4 ∨ j = 5 ∨ j = 6 ∨ j = 7 ∨ j = 8 ∨ j = 9 ∨ j = 10 by omega) with rfl | rfl | rfl | rfl | rfl | rfl | rfl | rfl | rfl | rfl | rfl <;> rfl
theorem ki_z3 : ∀ j, j < 5 → defaultValue (tyX3 j) = vp_V [.null, .null, .int 0, .int 0, .int 0] j := by
  intro j hj
  rcases (show j = 0 ∨ j = 1 ∨ j = 2 ∨ j = 3 ∨ j = 4 by omega) with rfl | rfl | rfl | rfl | rfl <;> rfl
theorem ki_z4 : ∀ j, j < 9 → defaultValue (tyX4 j) = vp_V [.null, .null, .null, .null, .null, .null, .null, .int 0, .int 0] j := by
  intro j hj
  rcases (show j = 0 ∨ j = 1 ∨ j = 2 ∨ j = 3 ∨ j = 4 ∨ j = 5 ∨ j = 6 ∨ j = 7 ∨ j = 8 by omega) with rfl | rfl | rfl | rfl | rfl | rfl | rfl | rfl | rfl <;> rfl
theorem ki_z5 : ∀ j, j < 30 → defaultValue (tyX5 j) = vp_V [.null, .int 0, .int 0, .int 0, .null, .null, .null, .null, .null, .null, .null, .int 0, .null, .null, .int 0, .null, .int 0, .null, .null, .null, .null, .null, .int 0, .null, .null, .int 0, .null, .null, .null, .int 0] j := by
  intro j hj
  rcases (show j = 0 ∨ j = 1 ∨ j = 2 ∨ j = 3 ∨ j = 4 ∨ j = 5 ∨ j = 6 ∨ j = 7 ∨ j = 8 ∨ j = 9 ∨ j = 10 ∨ j = 11 ∨ j = 12 ∨ j = 13 ∨ j = 14 ∨ j = 15 ∨ j = 16 ∨ j = 17 ∨ j = 18 ∨ j = 19 ∨ j = 20 ∨ j = 21 ∨ j = 22 ∨ j = 23 ∨ j = 24 ∨ j = 25 ∨ j = 26 ∨ j = 27 ∨ j = 28 ∨ j = 29 by omega) with rfl | rfl | rfl | rfl | rfl | rfl | rfl | rfl | rfl | rfl | rfl | rfl | rfl | rfl | rfl | rfl | rfl | rfl | rfl | rfl | rfl | rfl | rfl | rfl | rfl | rfl | rfl | rfl | rfl | rfl <;> rfl
theorem ki_add {x y z : Int32} {a b : Int} (e : z = x + y) (ha : x.toInt = a) (hb : y.toInt = b) (h1 : -2147483648 ≤ a + b) (h2 : a + b ≤ 2147483647) : z.toInt = a + b := by
  subst e; subst ha; subst hb
  rw [Int32.toInt_add]
  exact Int.bmod_eq_of_le (by omega) (by omega)
theorem ki_sub {x y z : Int32} {a b : Int} (e : z = x - y) (ha : x.toInt = a) (hb : y.toInt = b) (h1 : -2147483648 ≤ a - b) (h2 : a - b ≤ 2147483647) : z.toInt = a - b := by
  subst e; subst ha; subst hb
  rw [Int32.toInt_sub]
  exact Int.bmod_eq_of_le (by omega) (by omega)
theorem ki_mul {x y z : Int32} {a b : Int} (e : z = x * y) (ha : x.toInt = a) (hb : y.toInt = b) (h1 : -2147483648 ≤ a * b) (h2 : a * b ≤ 2147483647) : z.toInt = a * b := by
  subst e; subst ha; subst hb
  rw [Int32.toInt_mul]
  exact Int.bmod_eq_of_le (by omega) (by omega)
theorem ki_div2 {x z : Int32} {a : Int} (e : z = x / 2) (ha : x.toInt = a) (h0 : 0 ≤ a) : z.toInt = a / 2 := by
  subst e; subst ha
  rw [Int32.toInt_div_of_ne_right _ _ (by decide), show (2 : Int32).toInt = 2 from by decide]
  exact Int.tdiv_eq_ediv_of_nonneg h0
theorem ki_nat (x : Int32) {a : Int} (ha : x.toInt = a) (h0 : 0 ≤ a) : (x.toNatClampNeg : Int) = a := by
  subst ha
  have h2 : x.toNatClampNeg = x.toInt.toNat := rfl
  omega
theorem ki_ne0 {x : Int32} (h : ¬ x.toInt = 0) : ¬ x = 0 := fun e => h (by rw [e]; decide)
theorem ki_rng (x : Int32) : -2147483648 ≤ x.toInt ∧ x.toInt ≤ 2147483647 := ⟨x.le_toInt, Int.le_of_lt_add_one x.toInt_lt⟩
theorem ki_nateq {x y : Int32} (h : x.toInt = y.toInt) : x.toNatClampNeg = y.toNatClampNeg := by
  have h1 : x.toNatClampNeg = x.toInt.toNat := rfl
  have h2 : y.toNatClampNeg = y.toInt.toNat := rfl
  omega
theorem ki_max {x y z : Int32} {a b : Int} (e : z = if x < y then y else x) (ha : x.toInt = a) (hb : y.toInt = b) : (a ≤ b ∧ z.toInt = b) ∨ (b < a ∧ z.toInt = a) := by
  subst e; subst ha; subst hb
  split
  · rename_i h
    exact Or.inl ⟨by have := kc_lt h; omega, rfl⟩
  · rename_i h
    have := kc_nlt h
    rcases Int.lt_or_eq_of_le this with h2 | h2
    · exact Or.inr ⟨h2, rfl⟩
    · exact Or.inl ⟨by omega, by omega⟩
theorem ki_min {x y z : Int32} {a b : Int} (e : z = if y < x then y else x) (ha : x.toInt = a) (hb : y.toInt = b) : (a ≤ b ∧ z.toInt = a) ∨ (b < a ∧ z.toInt = b) := by
  subst e; subst ha; subst hb
  split
  · rename_i h
    exact Or.inr ⟨kc_lt h, rfl⟩
  · rename_i h
    exact Or.inl ⟨kc_nlt h, rfl⟩
theorem ki_shr16 (x : Int32) : -32768 ≤ (x >>> (16 &&& 31)).toInt ∧ (x >>> (16 &&& 31)).toInt ≤ 32767 := by
  have h := pk_shr x (16 &&& 31) 16 (by decide)
  rw [h, Int.shiftRight_eq_div_pow]
  have := ki_rng x
  omega
theorem ki_i2s (x : Int32) : -32768 ≤ x.toInt16.toInt32.toInt ∧ x.toInt16.toInt32.toInt ≤ 32767 := by
  rw [Int16.toInt_toInt32]
  have h1 := x.toInt16.le_toInt
  have h2 := x.toInt16.toInt_lt
  exact ⟨h1, by omega⟩
abbrev kx_a (a : Nat) (c : ClassId) (n : Nat) (f : Nat → Int32) : Nat × va_E := (a, .inl (c, n, .inl f))
abbrev kx_0 (a : Nat) (x0 : Nat) (x1 : Int32) : Nat × va_E := (a, .inr (0, [.ref x0, .int x1]))
abbrev kx_1 (a : Nat) (x0 : Nat) (x1 : Nat) (x2 : Int32) (x3 : Int32) : Nat × va_E := (a, .inr (1, [.ref x0, .ref x1, .int x2, .int x3]))
abbrev kx_2 (a : Nat) (x0 : Nat) (x1 : Nat) (x2 : Nat) (x3 : Nat) (x4 : Nat) (x5 : Nat) (x6 : Nat) (x7 : Nat) (x8 : Nat) (x9 : Int32) (x10 : Int32) : Nat × va_E := (a, .inr (2, [.ref x0, .ref x1, .ref x2, .ref x3, .ref x4, .ref x5, .ref x6, .ref x7, .ref x8, .int x9, .int x10]))
abbrev kx_3 (a : Nat) (x0 : Nat) (x1 : Nat) (x2 : Int32) (x3 : Int32) (x4 : Int32) : Nat × va_E := (a, .inr (3, [.ref x0, .ref x1, .int x2, .int x3, .int x4]))
abbrev kx_4 (a : Nat) (x0 : Nat) (x1 : Nat) (x2 : Nat) (x3 : Nat) (x4 : Nat) (x5 : Nat) (x6 : Nat) (x7 : Int32) (x8 : Int32) : Nat × va_E := (a, .inr (4, [.ref x0, .ref x1, .ref x2, .ref x3, .ref x4, .ref x5, .ref x6, .int x7, .int x8]))
abbrev kx_5 (a : Nat) (x0 : Nat) (x1 : Int32) (x2 : Int32) (x3 : Int32) (x4 : Nat) (x5 : Nat) (x6 : Nat) (x7 : Nat) (x8 : Nat) (x9 : Nat) (x10 : Nat) (x11 : Int32) (x12 : Nat) (x13 : Nat) (x14 : Int32) (x15 : Nat) (x16 : Int32) (x17 : Nat) (x18 : Nat) (x19 : Nat) (x20 : Nat) (x21 : Nat) (x22 : Int32) (x23 : Nat) (x24 : Nat) (x25 : Int32) (x26 : Nat) (x27 : Nat) (x28 : Nat) (x29 : Int32) : Nat × va_E := (a, .inr (5, [.ref x0, .int x1, .int x2, .int x3, .ref x4, .ref x5, .ref x6, .ref x7, .ref x8, .ref x9, .ref x10, .int x11, .ref x12, .ref x13, .int x14, .ref x15, .int x16, .ref x17, .ref x18, .ref x19, .ref x20, .ref x21, .int x22, .ref x23, .ref x24, .int x25, .ref x26, .ref x27, .ref x28, .int x29]))
theorem kx_rc0 {s : State} {H : Heap} {D : va_G} {a q0 : Nat} {fs : List Value} {ws : va_W} {tys : List (ClassId × FieldType)} (hK : va_K D vwCl tys s) (hP : va_P D vwCl ws H) (he : ws[q0]? = some (a, .inr (0, fs))) : ∃ cell : Cell, H[a]? = some cell ∧ cell.vm.isStatics = false ∧ s.vm.findClass RX0 = some cell.cls := va_recv hK hP (ci := 0) (q0 := q0) rfl he
theorem kx_rc1 {s : State} {H : Heap} {D : va_G} {a q0 : Nat} {fs : List Value} {ws : va_W} {tys : List (ClassId × FieldType)} (hK : va_K D vwCl tys s) (hP : va_P D vwCl ws H) (he : ws[q0]? = some (a, .inr (1, fs))) : ∃ cell : Cell, H[a]? = some cell ∧ cell.vm.isStatics = false ∧ s.vm.findClass RX1 = some cell.cls := va_recv hK hP (ci := 1) (q0 := q0) rfl he
theorem kx_rc2 {s : State} {H : Heap} {D : va_G} {a q0 : Nat} {fs : List Value} {ws : va_W} {tys : List (ClassId × FieldType)} (hK : va_K D vwCl tys s) (hP : va_P D vwCl ws H) (he : ws[q0]? = some (a, .inr (2, fs))) : ∃ cell : Cell, H[a]? = some cell ∧ cell.vm.isStatics = false ∧ s.vm.findClass RX2 = some cell.cls := va_recv hK hP (ci := 2) (q0 := q0) rfl he
theorem kx_rc3 {s : State} {H : Heap} {D : va_G} {a q0 : Nat} {fs : List Value} {ws : va_W} {tys : List (ClassId × FieldType)} (hK : va_K D vwCl tys s) (hP : va_P D vwCl ws H) (he : ws[q0]? = some (a, .inr (3, fs))) : ∃ cell : Cell, H[a]? = some cell ∧ cell.vm.isStatics = false ∧ s.vm.findClass RX3 = some cell.cls := va_recv hK hP (ci := 3) (q0 := q0) rfl he
theorem kx_rc4 {s : State} {H : Heap} {D : va_G} {a q0 : Nat} {fs : List Value} {ws : va_W} {tys : List (ClassId × FieldType)} (hK : va_K D vwCl tys s) (hP : va_P D vwCl ws H) (he : ws[q0]? = some (a, .inr (4, fs))) : ∃ cell : Cell, H[a]? = some cell ∧ cell.vm.isStatics = false ∧ s.vm.findClass RX4 = some cell.cls := va_recv hK hP (ci := 4) (q0 := q0) rfl he
theorem kx_rc5 {s : State} {H : Heap} {D : va_G} {a q0 : Nat} {fs : List Value} {ws : va_W} {tys : List (ClassId × FieldType)} (hK : va_K D vwCl tys s) (hP : va_P D vwCl ws H) (he : ws[q0]? = some (a, .inr (5, fs))) : ∃ cell : Cell, H[a]? = some cell ∧ cell.vm.isStatics = false ∧ s.vm.findClass RX5 = some cell.cls := va_recv hK hP (ci := 5) (q0 := q0) rfl he
theorem kx_free {A0 : Nat → Prop} {ws : va_W} {H0 H : Heap} {locs : List Loc} (hD : va_D A0 ws) (hS : va_S A0 H0 H locs) (hA : ∀ q, H0.size ≤ q → A0 q) : ∀ q, va_A ws H.size q → A0 q := by
  intro q h
  rcases h with ⟨k, e, h⟩ | h
  · exact hD.2 k (q, e) h
  · exact hA q (Nat.le_trans hS.1 h)
theorem kx_fm {α β : Type} {f : α → Option β} : ∀ {is : List α} {ws : List β}, is.map f = ws.map some → is.filterMap f = ws
  | [], [], _ => rfl
  | [], w :: ws, h => by
    have h' : ([] : List (Option β)) = some w :: ws.map some := h
    cases h'
  | a :: is, [], h => by
    have h' : f a :: is.map f = ([] : List (Option β)) := h
    cases h'
  | a :: is, w :: ws, h => by
    have h' : f a :: is.map f = some w :: ws.map some := h
    injection h' with h1 h2
    rw [List.filterMap_cons_some h1, kx_fm h2]
theorem kx_some {β : Type} : ∀ {a b : List β}, a.map some = b.map some → a = b
  | [], [], _ => rfl
  | [], w :: ws, h => by
    have h' : ([] : List (Option β)) = some w :: ws.map some := h
    cases h'
  | a :: is, [], h => by
    have h' : some a :: is.map some = ([] : List (Option β)) := h
    cases h'
  | a :: is, w :: ws, h => by
    have h' : some a :: is.map some = some w :: ws.map some := h
    injection h' with h1 h2
    rw [Option.some.inj h1, kx_some h2]
theorem kx_split {β : Type} : ∀ {L : List (Option β)} {w1 w2 : List β}, L ++ w1.map some = w2.map some → ∃ wr : List β, L = wr.map some ∧ w2 = wr ++ w1
  | [], w1, w2, h => ⟨[], rfl, (kx_some (a := w1) (b := w2) h).symm⟩
  | x :: L, w1, [], h => by
    have h' : x :: (L ++ w1.map some) = ([] : List (Option β)) := h
    cases h'
  | x :: L, w1, w :: w2, h => by
    have h' : x :: (L ++ w1.map some) = some w :: w2.map some := h
    injection h' with h1 h2
    obtain ⟨wr, e1, e2⟩ := kx_split h2
    exact ⟨w :: wr, by rw [h1, e1]; rfl, by rw [e2]; rfl⟩
theorem kx_pre {A0 : Nat → Prop} {D : va_G} {cl : List vw_C} {ws wc : va_W} {H0 H : Heap} {locs : List Loc} (hP : va_P D cl ws H) (hD : va_D A0 ws) (hS : va_S A0 H0 H locs) (hA : ∀ q, H0.size ≤ q → A0 q) (isC : List Nat) (hn : va_nd isC = true) (hC : isC.map (fun i => ws[i]?) = wc.map some) : va_P D cl wc H ∧ va_D A0 wc ∧ (∀ q, va_A wc H.size q → A0 q) ∧ isC.map (fun i => ws[i]?) = wc.map some := ⟨hP.sub isC (kx_fm hC), hD.sub isC hn hC, va_free hD hS hA isC hC, hC⟩
theorem kx_sub {A0 : Nat → Prop} {D : va_G} {cl : List vw_C} {ws w2 : va_W} {H : Heap} (hP : va_P D cl ws H) (hD : va_D A0 ws) (is : List Nat) (hn : va_nd is = true) (hC : is.map (fun i => ws[i]?) = w2.map some) : va_P D cl w2 H ∧ va_D A0 w2 := ⟨hP.sub is (kx_fm hC), hD.sub is hn hC⟩
theorem kx_re {A0 : Nat → Prop} {D : va_G} {cl : List vw_C} {ws w2 : va_W} {H : Heap} (hP : va_P D cl ws H) (hD : va_D A0 ws) (e : ws = w2) : va_P D cl w2 H ∧ va_D A0 w2 := by
  subst e
  exact ⟨hP, hD⟩
theorem kx_join {A0 : Nat → Prop} {D : va_G} {cl : List vw_C} {ws wc w1 w2 : va_W} {H H1 : Heap} (hP : va_P D cl ws H) (hD : va_D A0 ws) (hP1 : va_P D cl w1 H1) (hD1 : va_D (va_A wc H.size) w1) (hk : ∀ q : Nat, q < H.size → ¬ va_A wc H.size q → H1[q]? = H[q]?) (hF : ∀ q, va_A wc H.size q → A0 q) (isC isR : List Nat) (hC : isC.map (fun i => ws[i]?) = wc.map some) (hR : isR.map (fun i => ws[i]?) ++ w1.map some = w2.map some) (hn : va_nd isR = true) (hdis : ∀ i ∈ isR, i ∉ isC) : va_P D cl w2 H1 ∧ va_D A0 w2 := by
  obtain ⟨wr, e1, e2⟩ := kx_split hR
  subst e2
  exact va_join hP hD isC isR hC e1 hn hdis hk hF hP1 hD1
def kx_sel {α : Type} : List Bool → List α → List α
  | [], _ => []
  | _ :: _, [] => []
  | true :: m, c :: ws => c :: kx_sel m ws
  | false :: m, _ :: ws => kx_sel m ws
def kx_put {α : Type} : List Bool → List α → List α → List α
  | [], _, w1 => w1
  | _ :: _, [], w1 => w1
  | true :: m, _ :: ws, [] => kx_put m ws []
  | true :: m, _ :: ws, c :: w1 => c :: kx_put m ws w1
  | false :: m, x :: ws, w1 => x :: kx_put m ws w1
def kx_ix {α : Type} : List Bool → List α → Nat → List Nat
  | [], _, _ => []
  | _ :: _, [], _ => []
  | true :: m, _ :: ws, n => n :: kx_ix m ws (n + 1)
  | false :: m, _ :: ws, n => kx_ix m ws (n + 1)
theorem kx_ixge {α : Type} : ∀ (m : List Bool) (ws : List α) (n i : Nat), i ∈ kx_ix m ws n → n ≤ i
  | [], _, n, i, h => by
    have h : i ∈ ([] : List Nat) := h
    cases h
  | true :: _, [], n, i, h => by
    have h : i ∈ ([] : List Nat) := h
    cases h
  | false :: _, [], n, i, h => by
    have h : i ∈ ([] : List Nat) := h
    cases h
  | true :: m, x :: ws, n, i, h => by
    have h : i ∈ n :: kx_ix m ws (n + 1) := h
    rcases List.mem_cons.mp h with e | h
    · omega
    · have := kx_ixge m ws (n + 1) i h
      omega
  | false :: m, x :: ws, n, i, h => by
    have h : i ∈ kx_ix m ws (n + 1) := h
    have := kx_ixge m ws (n + 1) i h
    omega
theorem kx_ixnd {α : Type} : ∀ (m : List Bool) (ws : List α) (n : Nat), va_nd (kx_ix m ws n) = true
  | [], _, _ => rfl
  | true :: _, [], _ => rfl
  | false :: _, [], _ => rfl
  | true :: m, x :: ws, n => by
    show (decide (n ∉ kx_ix m ws (n + 1)) && va_nd (kx_ix m ws (n + 1))) = true
    rw [kx_ixnd m ws (n + 1), Bool.and_true, decide_eq_true_eq]
    intro h
    have := kx_ixge m ws (n + 1) n h
    omega
  | false :: m, x :: ws, n => kx_ixnd m ws (n + 1)
theorem kx_ixm {α : Type} : ∀ (m : List Bool) (ws : List α) (n : Nat) (W : List α), (∀ j : Nat, W[n + j]? = ws[j]?) → (kx_ix m ws n).map (fun i => W[i]?) = (kx_sel m ws).map some
  | [], _, _, _, _ => rfl
  | true :: _, [], _, _, _ => rfl
  | false :: _, [], _, _, _ => rfl
  | true :: m, x :: ws, n, W, h => by
    show W[n]? :: (kx_ix m ws (n + 1)).map (fun i => W[i]?) = some x :: (kx_sel m ws).map some
    have h0 : W[n]? = some x := h 0
    rw [h0, kx_ixm m ws (n + 1) W (fun j => by rw [Nat.add_assoc, Nat.add_comm 1 j]; exact h (j + 1))]
  | false :: m, x :: ws, n, W, h => by
    show (kx_ix m ws (n + 1)).map (fun i => W[i]?) = (kx_sel m ws).map some
    exact kx_ixm m ws (n + 1) W (fun j => by rw [Nat.add_assoc, Nat.add_comm 1 j]; exact h (j + 1))
theorem kx_ixdis {α : Type} : ∀ (m : List Bool) (ws : List α) (n : Nat), ∀ i ∈ kx_ix (m.map not) ws n, i ∉ kx_ix m ws n
  | [], _, _, i, h => by
    have h : i ∈ ([] : List Nat) := h
    cases h
  | true :: _, [], _, i, h => by
    have h : i ∈ ([] : List Nat) := h
    cases h
  | false :: _, [], _, i, h => by
    have h : i ∈ ([] : List Nat) := h
    cases h
  | true :: m, x :: ws, n, i, h => by
    have h : i ∈ kx_ix (m.map not) ws (n + 1) := h
    intro h2
    have h2 : i ∈ n :: kx_ix m ws (n + 1) := h2
    rcases List.mem_cons.mp h2 with e | h2
    · have := kx_ixge (m.map not) ws (n + 1) i h
      omega
    · exact kx_ixdis m ws (n + 1) i h h2
  | false :: m, x :: ws, n, i, h => by
    have h : i ∈ n :: kx_ix (m.map not) ws (n + 1) := h
    intro h2
    have h2 : i ∈ kx_ix m ws (n + 1) := h2
    rcases List.mem_cons.mp h with e | h
    · have := kx_ixge m ws (n + 1) i h2
      omega
    · exact kx_ixdis m ws (n + 1) i h h2
theorem kx_perm {α : Type} : ∀ (m : List Bool) (ws w1 : List α), List.Perm (kx_put m ws w1) (kx_sel (m.map not) ws ++ w1)
  | [], _, w1 => List.Perm.refl w1
  | true :: _, [], w1 => List.Perm.refl w1
  | false :: _, [], w1 => List.Perm.refl w1
  | true :: m, x :: ws, [] => kx_perm m ws []
  | true :: m, x :: ws, c :: w1 => by
    show List.Perm (c :: kx_put m ws w1) (kx_sel (m.map not) ws ++ c :: w1)
    exact (List.Perm.cons c (kx_perm m ws w1)).trans List.perm_middle.symm
  | false :: m, x :: ws, [] => List.Perm.cons x (kx_perm m ws [])
  | false :: m, x :: ws, c :: w1 => List.Perm.cons x (kx_perm m ws (c :: w1))
theorem kx_permP {D : va_G} {cl : List vw_C} {w w2 : va_W} {H : Heap} (h : va_P D cl w H) (p : List.Perm w2 w) : va_P D cl w2 H := by
  intro k q hk
  obtain ⟨i, hi⟩ := List.getElem?_of_mem (p.mem_iff.mp (List.mem_of_getElem? hk))
  exact h i q hi
theorem kx_permD {A : Nat → Prop} {w w2 : va_W} (h : va_D A w) (p : List.Perm w2 w) : va_D A w2 := by
  have a : w.Pairwise (fun x y => x.1 ≠ y.1) := by
    rw [List.pairwise_iff_getElem]
    intro i j hi hj hij e
    have := h.1 i j w[i] w[j] (List.getElem?_eq_getElem hi) (List.getElem?_eq_getElem hj) e
    omega
  have b : w2.Pairwise (fun x y => x.1 ≠ y.1) := (List.Perm.pairwise_iff (fun h9 => Ne.symm h9) p).mpr a
  rw [List.pairwise_iff_getElem] at b
  refine ⟨fun i j x y hi hj e => ?_, fun k q hk => ?_⟩
  · obtain ⟨hi1, hi2⟩ := List.getElem?_eq_some_iff.mp hi
    obtain ⟨hj1, hj2⟩ := List.getElem?_eq_some_iff.mp hj
    rcases Nat.lt_trichotomy i j with g | g | g
    · exact absurd (show w2[i].1 = w2[j].1 by rw [hi2, hj2]; exact e) (b i j hi1 hj1 g)
    · exact g
    · exact absurd (show w2[j].1 = w2[i].1 by rw [hi2, hj2]; exact e.symm) (b j i hj1 hi1 g)
  · obtain ⟨i, hi⟩ := List.getElem?_of_mem (p.mem_iff.mp (List.mem_of_getElem? hk))
    exact h.2 i q hi
theorem kx_selP {D : va_G} {cl : List vw_C} {ws ws' : va_W} {H : Heap} (hP : va_P D cl ws H) (m : List Bool) (hC : kx_sel m ws = ws') : va_P D cl ws' H := by
  subst hC
  exact hP.sub (kx_ix m ws 0) (kx_fm (kx_ixm m ws 0 ws (fun j => by rw [Nat.zero_add])))
theorem kx_preM {A0 : Nat → Prop} {D : va_G} {cl : List vw_C} {ws wc : va_W} {H0 H : Heap} {locs : List Loc} (hP : va_P D cl ws H) (hD : va_D A0 ws) (hS : va_S A0 H0 H locs) (hA : ∀ q, H0.size ≤ q → A0 q) (m : List Bool) (hC : kx_sel m ws = wc) : va_P D cl wc H ∧ va_D A0 wc ∧ (∀ q, va_A wc H.size q → A0 q) ∧ kx_sel m ws = wc := by
  subst hC
  have e := kx_ixm m ws 0 ws (fun j => by rw [Nat.zero_add])
  exact ⟨hP.sub (kx_ix m ws 0) (kx_fm e), hD.sub (kx_ix m ws 0) (kx_ixnd m ws 0) e, va_free hD hS hA (kx_ix m ws 0) e, rfl⟩
theorem kx_joinM {A0 : Nat → Prop} {D : va_G} {cl : List vw_C} {ws wc w1 w2 : va_W} {H H1 : Heap} (hP : va_P D cl ws H) (hD : va_D A0 ws) (hP1 : va_P D cl w1 H1) (hD1 : va_D (va_A wc H.size) w1) (hk : ∀ q : Nat, q < H.size → ¬ va_A wc H.size q → H1[q]? = H[q]?) (hF : ∀ q, va_A wc H.size q → A0 q) (m : List Bool) (hC : kx_sel m ws = wc) (h2 : kx_put m ws w1 = w2) : va_P D cl w2 H1 ∧ va_D A0 w2 := by
  subst hC
  subst h2
  have e := kx_ixm m ws 0 ws (fun j => by rw [Nat.zero_add])
  have e2 := kx_ixm (m.map not) ws 0 ws (fun j => by rw [Nat.zero_add])
  obtain ⟨a, b⟩ := va_join hP hD (kx_ix m ws 0) (kx_ix (m.map not) ws 0) e e2 (kx_ixnd _ _ _) (kx_ixdis m ws 0) hk hF hP1 hD1
  exact ⟨kx_permP a (kx_perm m ws w1), kx_permD b (kx_perm m ws w1)⟩
def kx_MQ (l : Launch) (D : va_G) (y : MethodName) (ws : List Cond) (rm : Room) (As : List Value) (Ws : va_W) (K : List (ClassId × FieldType)) (sz : Nat) (QQ : (Nat → Prop) → Array Value → State → Outcome → State → Prop) : Prop :=
  Met l y ws rm (va_Pc As (fun U => U.heap.size = sz ∧ va_P D vwCl Ws U.heap ∧ va_K D vwCl K U ∧ va_D (fun _ => True) Ws)) (QQ (va_A Ws sz)) 0 0 (va_A Ws sz)
theorem kx_un {l : Launch} {D : va_G} {y : MethodName} {ws : List Cond} {rm : Room} {As : List Value} {Ws : va_W} {K : List (ClassId × FieldType)} {sz : Nat} {QQ : (Nat → Prop) → Array Value → State → Outcome → State → Prop} (h : kx_MQ l D y ws rm As Ws K sz QQ) : Met l y ws rm (va_Pc As (fun U => U.heap.size = sz ∧ va_P D vwCl Ws U.heap ∧ va_K D vwCl K U ∧ va_D (fun _ => True) Ws)) (QQ (va_A Ws sz)) 0 0 (va_A Ws sz) := h
theorem kx_stQ {l : Launch} {D : va_G} {y : MethodName} {ws ws' : List Cond} {rm : Room} {As : List Value} {Ws : va_W} {K : List (ClassId × FieldType)} {sz : Nat} {QQ : (Nat → Prop) → Array Value → State → Outcome → State → Prop} {cc : ByteArray} {maxL : Nat} {ret : Option FieldType} (hy : plainName y.cls = true) (hw : ws = Cond.code y cc maxL ret :: ws') (hn : (lg_sl As).length ≤ maxL)
    (body : ∀ (p : Program) (e : Env) (s : State) (m : MethodId) (below : List Frame) (meth : Method) (c : Code) (A : Nat → Prop) (ls : Array Slot), p.tables.exec = Jvm.exec → c.code = cc → meth.sig.returnType = ret → meth.locks = false → (∀ w ∈ ws, w.before As.toArray s = true) → s.vm.findClass y.cls = some m.cls → c.maxLocals = maxL → (∀ q : Nat, s.heap.size ≤ q → A q) → va_S A s.heap s.heap [] → va_P D vwCl Ws s.heap → va_K D vwCl K s → va_D A Ws → lv_has ls maxL (lv_args 0 As) → W p l e (headSpec ws rm).room s m As.toArray below meth c s.heap [] 0 0 (MQ below (QQ A) As.toArray s 0 0 A) (F0 m 0 ls [])) : kx_MQ l D y ws rm As Ws K sz QQ := by
  unfold kx_MQ
  refine Met.ofW (cc := cc) (maxL := maxL) (ret := ret) hy hw ?_
  intro p e s m args below meth c s₁ B hml hv
  obtain ⟨rfl, hsz, hP, hK, hD0⟩ := hv
  subst hsz
  rw [lg_entry_eq]
  exact body p e s m below meth c (va_A Ws s.heap.size) _ B.exec B.bytes B.returns B.notSynchronized (atoms_spec (ws := ws) B.pre) (findClass_of_methodNamed B.named) hml (fun q h => Or.inr h) va_S.rf hP hK hD0.self (lv_entry As hn)
theorem kx_stS {l : Launch} {D : va_G} {y : MethodName} {ws ws' : List Cond} {rm : Room} {As : List Value} {Ws : va_W} {K : List (ClassId × FieldType)} {Q : Array Value → State → Outcome → State → Prop} {cc : ByteArray} {maxL : Nat} {ret : Option FieldType} (hy : plainName y.cls = true) (hw : ws = Cond.code y cc maxL ret :: ws') (hn : (lg_sl As).length ≤ maxL)
    (body : ∀ (p : Program) (e : Env) (s : State) (m : MethodId) (below : List Frame) (meth : Method) (c : Code) (ls : Array Slot), p.tables.exec = Jvm.exec → c.code = cc → meth.sig.returnType = ret → meth.locks = false → (∀ w ∈ ws, w.before As.toArray s = true) → s.vm.findClass y.cls = some m.cls → c.maxLocals = maxL → va_P D vwCl Ws s.heap → va_K D vwCl K s → lv_has ls maxL (lv_args 0 As) → W p l e (headSpec ws rm).room s m As.toArray below meth c s.heap [] 0 0 (MQ below Q As.toArray s 0 0 (fun _ => False)) (F0 m 0 ls [])) : Met l y ws rm (va_Pc As (fun U => va_P D vwCl Ws U.heap ∧ va_K D vwCl K U)) Q 0 0 (fun _ => False) := by
  refine Met.ofW (cc := cc) (maxL := maxL) (ret := ret) hy hw ?_
  intro p e s m args below meth c s₁ B hml hv
  obtain ⟨rfl, hP, hK⟩ := hv
  rw [lg_entry_eq]
  exact body p e s m below meth c _ B.exec B.bytes B.returns B.notSynchronized (atoms_spec (ws := ws) B.pre) (findClass_of_methodNamed B.named) hml hP hK (lv_entry As hn)


theorem om_dv {x y : Int} (h : y = x / 2) : 2 * y ≤ x ∧ x ≤ 2 * y + 1 := by omega
theorem om_ln {k n : Nat} {x : Int} (h : (k : Int) = x) (h2 : x < ((n : Nat) : Int)) : k < n := by omega
theorem om_mu {a b : Int} {n : Nat} (hn : b.toNat < n + 1) (h1 : a + 1 ≤ b) (h2 : 0 < b) : a.toNat < n := by omega
theorem om_0 {x0 : Int} {x1 : Int} (h0 : 0 ≤ x0) (h1 : x0 ≤ x1) : 0 ≤ x1 := by omega
theorem om_1 {x0 : Int} {x1 : Int} (h0 : x0 ≤ 160) (h1 : x1 < x0) : x1 < ((160 : Nat) : Int) := by omega
theorem om_2 {x0 : Int} {x1 : Int} (h0 : 0 ≤ x0) (h1 : x0 ≤ x1) : - 2147483648 ≤ x1 + 1 := by omega
theorem om_3 {x0 : Int} {x1 : Int} (h0 : x0 ≤ 160) (h1 : x1 < x0) : x1 + 1 ≤ 2147483647 := by omega
theorem om_4 {x0 : Int} {x1 : Int} {x2 : Int} (h0 : x0 ≤ x1) (h1 : x2 = x1 + 1) : x0 ≤ x2 := by omega
theorem om_5 {x0 : Int} {x1 : Int} {x2 : Int} (h0 : x0 = x1 + 1) : ( x2 - x0 ) + 1 ≤ x2 - x1 := by omega
theorem om_6 {x0 : Int} {x1 : Int} (h0 : x0 < x1) : 0 < x1 - x0 := by omega
theorem om_7 {x0 : Int}  : x0 ≤ x0 := by omega
theorem om_8 {x0 : Int} (h0 : x0 < 0) : x0 < 0 := by omega
theorem om_9 {x0 : Int} {x1 : Int} (h0 : x0 ≤ x1) : x0 ≤ x1 := by omega
theorem om_10 {x0 : Int} (h0 : 0 ≤ x0) : 0 ≤ x0 := by omega
theorem om_11 {x0 : Int} {x1 : Int} (h0 : x0 < x1) : x0 < x1 := by omega
theorem om_12 {x0 : Int} (h0 : x0 < 160) : x0 < ((160 : Nat) : Int) := by omega
theorem om_13 {x0 : Int} (h0 : 0 ≤ x0) : - 2147483648 ≤ x0 + 1 := by omega
theorem om_14 {x0 : Int} (h0 : x0 < 160) : x0 + 1 ≤ 2147483647 := by omega
theorem om_15 {x0 : Int} {x1 : Int} (h0 : x0 ≤ x1) (h1 : x1 < 160) : x0 < ((160 : Nat) : Int) := by omega
theorem om_16 {x0 : Int} {x1 : Int} (h0 : x0 ≤ x1) (h1 : 0 ≤ x0) : - 2147483648 ≤ x1 + 1 := by omega
theorem om_17 {x0 : Int} {x1 : Int} (h0 : 0 ≤ x0) (h1 : x0 < x1) : - 2147483648 ≤ x1 - 1 := by omega
theorem om_18 {x0 : Int} {x1 : Int} (h0 : x0 < 160) (h1 : x1 ≤ x0) : x1 - 1 ≤ 2147483647 := by omega
theorem om_19 {x0 : Int} {x1 : Int} {x2 : Int} (h0 : 0 ≤ x0) (h1 : x0 < x1) (h2 : x2 = x1 - 1) : 0 ≤ x2 := by omega
theorem om_20 {x0 : Int} {x1 : Int} {x2 : Int} (h0 : x0 < 160) (h1 : x1 ≤ x0) (h2 : x2 = x1 - 1) : x2 < ((160 : Nat) : Int) := by omega
theorem om_21 {x0 : Int} {x1 : Int} (h0 : 0 ≤ x0) (h1 : x0 < x1) : 0 ≤ x1 := by omega
theorem om_22 {x0 : Int} {x1 : Int} (h0 : x0 < 160) (h1 : x1 ≤ x0) : x1 < ((160 : Nat) : Int) := by omega
theorem om_23 {x0 : Int} {x1 : Int} (h0 : 0 ≤ x0) (h1 : x0 < x1) : - 2147483648 ≤ x1 + ( - 1 ) := by omega
theorem om_24 {x0 : Int} {x1 : Int} (h0 : x0 < 160) (h1 : x1 ≤ x0) : x1 + ( - 1 ) ≤ 2147483647 := by omega
theorem om_25 {x0 : Int} {x1 : Int} {x2 : Int} (h0 : x0 < x1) (h1 : x2 = x1 + ( - 1 )) : x0 ≤ x2 := by omega
theorem om_26 {x0 : Int} {x1 : Int} {x2 : Int} (h0 : x0 ≤ x1) (h1 : x2 = x0 + ( - 1 )) : x2 ≤ x1 := by omega
theorem om_27 {x0 : Int} {x1 : Int} (h0 : x0 = x1 + ( - 1 )) : ( x0 ) + 1 ≤ x1 := by omega
theorem om_28 {x0 : Int} {x1 : Int} (h0 : 0 ≤ x0) (h1 : x0 < x1) : 0 < x1 := by omega
theorem om_29  : ((0 : Int) : Int) ≤ 1 := by omega
theorem om_30 {x0 : Int} (h0 : x0 < 12) : x0 < ((12 : Nat) : Int) := by omega
theorem om_31 {x0 : Int} (h0 : x0 ≤ 12) : x0 + 1 ≤ 2147483647 := by omega
theorem om_32 {x0 : Int} {x1 : Int} (h0 : x0 ≤ 12) (h1 : x1 < x0) : x1 < ((12 : Nat) : Int) := by omega
theorem om_33 {x0 : Int} {x1 : Int} (h0 : x0 ≤ 12) (h1 : x1 < x0) : x1 + 1 ≤ 2147483647 := by omega
theorem om_34 {x0 : Int} {x1 : Int} (h0 : 0 ≤ x0) (h1 : x1 = x0 + 1) : 0 ≤ x1 := by omega
theorem om_35  : (0 : Int) ≤ 0 := by omega
theorem om_36 {x0 : Int} {x1 : Int} {x2 : Int} {x3 : Int} (h0 : x0 = x1) (h1 : x2 = x3) (h2 : x2 < x0) : x3 < x1 := by omega
theorem om_37 {x0 : Int} {x1 : Int} {x2 : Int} {x3 : Int} {x4 : Int} {x5 : Int} (h0 : x0 = x1) (h1 : x2 = x3) (h2 : x0 ≤ x2) (h3 : x4 = x1) (h4 : x5 = x3) (h5 : x4 = x5) : x1 = x3 := by omega
theorem om_38 {x0 : Int} {x1 : Int} {x2 : Int} {x3 : Int} (h0 : x0 = x1) (h1 : x2 = x3) (h2 : x2 ≤ x0) : x3 ≤ x1 := by omega
theorem om_39 {x0 : Int} {x1 : Int} {x2 : Int} {x3 : Int} (h0 : x0 = x1) (h1 : x2 = x3) (h2 : x0 < x2) : x1 < x3 := by omega
theorem om_40 {x0 : Int} (h0 : 1 ≤ x0) : - 2147483648 ≤ x0 + 1 := by omega
theorem om_41 {x0 : Int} {x1 : Int} (h0 : 1 ≤ x0) (h1 : x1 = x0 + 1) : 1 ≤ x1 := by omega
theorem om_42 {x0 : Int} (h0 : 0 < x0) : - 2147483648 ≤ x0 - 1 := by omega
theorem om_43 {x0 : Int} {x1 : Int} {x2 : Int} (h0 : x0 ≤ 12) (h1 : x1 < x0) (h2 : x2 ≤ x1) : x2 - 1 ≤ 2147483647 := by omega
theorem om_44 {x0 : Int} {x1 : Int} {x2 : Int} (h0 : x0 ≤ 12) (h1 : x1 < x0) (h2 : x2 ≤ x1) : x2 < 12 := by omega
theorem om_45 {x0 : Int} {x1 : Int} (h0 : 0 < x0) (h1 : x1 = x0 - 1) : 0 ≤ x1 := by omega
theorem om_46 {x0 : Int} {x1 : Int} {x2 : Int} {x3 : Int} (h0 : x0 ≤ 12) (h1 : x1 < x0) (h2 : x2 ≤ x1) (h3 : x3 = x2 - 1) : x3 < 12 := by omega
theorem om_47 {x0 : Int} (h0 : 0 < x0) : - 2147483648 ≤ x0 + ( - 1 ) := by omega
theorem om_48 {x0 : Int} {x1 : Int} {x2 : Int} (h0 : x0 ≤ 12) (h1 : x1 < x0) (h2 : x2 ≤ x1) : x2 + ( - 1 ) ≤ 2147483647 := by omega
theorem om_49 {x0 : Int} {x1 : Int} (h0 : 0 < x0) (h1 : x1 = x0 + ( - 1 )) : 0 ≤ x1 := by omega
theorem om_50 {x0 : Int} (h0 : 0 < x0) : 0 < x0 := by omega
theorem om_51 {x0 : Int} (h0 : 1 ≤ x0) : 0 ≤ x0 := by omega
theorem om_52  : (1 : Int) ≤ 1 := by omega
theorem om_53 {x0 : Int} {x1 : Int} (h0 : x0 ≤ 12) (h1 : x1 ≤ x0) : x1 + 1 ≤ 2147483647 := by omega
theorem om_54 {x0 : Int} {x1 : Int} {x2 : Int} (h0 : x0 < x1) (h1 : x2 = x0 + 1) : x2 ≤ x1 := by omega
theorem om_55 {x0 : Int} {x1 : Int} {x2 : Int} (h0 : x0 ≤ 12) (h1 : x1 ≤ x2) (h2 : x2 ≤ x0) : x1 + 1 ≤ 2147483647 := by omega
theorem om_56 {x0 : Int} {x1 : Int} {x2 : Int} {x3 : Int} (h0 : x0 ≤ x1) (h1 : x2 = x0 + 1) (h2 : x3 = x1 + 1) : x2 ≤ x3 := by omega
theorem om_57 {x0 : Int} {x1 : Int} {x2 : Int} (h0 : x0 ≤ 12) (h1 : x1 ≤ x2) (h2 : x2 ≤ x0) : x1 ≤ 12 := by omega
theorem om_58 {x0 : Int} {x1 : Int} (h0 : x0 ≤ 12) (h1 : x1 < x0) : x1 < 12 := by omega
theorem om_59 {x0 : Int} {x1 : Int} {x2 : Int} (h0 : x0 ≤ 12) (h1 : x1 ≤ x2) (h2 : x2 < x0) : x1 < 12 := by omega
theorem om_60 {x0 : Int} (h0 : x0 ≤ 12) : x0 ≤ 12 := by omega
theorem om_61 {x0 : Int} (h0 : x0 < 319) : x0 < ((319 : Nat) : Int) := by omega
theorem om_62 {x0 : Int} {x1 : Int} {x2 : Int} {x3 : Int} (h0 : 0 ≤ x0) (h1 : x0 < x1) (h2 : x2 = x0) (h3 : x3 = x1) : - 2147483648 ≤ x2 + x3 := by omega
theorem om_63 {x0 : Int} {x1 : Int} {x2 : Int} {x3 : Int} (h0 : x0 < x1) (h1 : x1 ≤ 160) (h2 : x2 = x0) (h3 : x3 = x1) : x2 + x3 ≤ 2147483647 := by omega
theorem om_64 {x0 : Int} {x1 : Int} {x2 : Int} {x3 : Int} {x4 : Int} (h0 : 0 ≤ x0) (h1 : x0 < x1) (h2 : x2 = x0) (h3 : x3 = x1) (h4 : x4 = x2 + x3) : 0 ≤ x4 := by omega
theorem om_65 {x0 : Int} {x1 : Int} {x2 : Int} {x3 : Int} {x4 : Int} {x5 : Int} {x6 : Int} (h0 : x0 < x1) (h1 : x2 = x0) (h2 : x3 = x1) (h3 : x4 = x2 + x3) (h4 : x4 ≤ 2 * x5 + 1) (h5 : x6 = x0) : - 2147483648 ≤ x5 - x6 := by omega
theorem om_66 {x0 : Int} {x1 : Int} {x2 : Int} {x3 : Int} {x4 : Int} {x5 : Int} {x6 : Int} (h0 : 0 ≤ x0) (h1 : x1 ≤ 160) (h2 : x2 = x0) (h3 : x3 = x1) (h4 : x4 = x2 + x3) (h5 : 2 * x5 ≤ x4) (h6 : x6 = x0) : x5 - x6 ≤ 2147483647 := by omega
theorem om_67 {x0 : Int} {x1 : Int} {x2 : Int} {x3 : Int} {x4 : Int} {x5 : Int} {x6 : Int} {x7 : Int} (h0 : x0 < x1) (h1 : x2 = x0) (h2 : x3 = x1) (h3 : x4 = x2 + x3) (h4 : x4 ≤ 2 * x5 + 1) (h5 : x6 = x0) (h6 : x7 = x5 - x6) : - 2147483648 ≤ 2 * x7 := by omega
theorem om_68 {x0 : Int} {x1 : Int} {x2 : Int} {x3 : Int} {x4 : Int} {x5 : Int} {x6 : Int} {x7 : Int} (h0 : 0 ≤ x0) (h1 : x1 ≤ 160) (h2 : x2 = x0) (h3 : x3 = x1) (h4 : x4 = x2 + x3) (h5 : 2 * x5 ≤ x4) (h6 : x6 = x0) (h7 : x7 = x5 - x6) : 2 * x7 ≤ 2147483647 := by omega
theorem om_69 {x0 : Int} {x1 : Int} {x2 : Int} {x3 : Int} (h0 : 0 ≤ x0) (h1 : x0 + 2 ≤ x1) (h2 : x2 = x0) (h3 : x3 = x1) : - 2147483648 ≤ x2 + x3 := by omega
theorem om_70 {x0 : Int} {x1 : Int} {x2 : Int} {x3 : Int} (h0 : x0 + 2 ≤ x1) (h1 : x1 ≤ 160) (h2 : x2 = x0) (h3 : x3 = x1) : x2 + x3 ≤ 2147483647 := by omega
theorem om_71 {x0 : Int} {x1 : Int} {x2 : Int} {x3 : Int} {x4 : Int} (h0 : 0 ≤ x0) (h1 : x0 + 2 ≤ x1) (h2 : x2 = x0) (h3 : x3 = x1) (h4 : x4 = x2 + x3) : 0 ≤ x4 := by omega
theorem om_72 {x0 : Int} {x1 : Int} (h0 : x0 + 2 ≤ x1) : x0 < x1 := by omega
theorem om_73 {x0 : Int} (h0 : x0 < 319) : x0 + 1 ≤ 2147483647 := by omega
theorem om_74 {x0 : Int} {x1 : Int} {x2 : Int} {x3 : Int} (h0 : x0 < 319) (h1 : x1 + 2 ≤ x2) (h2 : x0 + 2 * ( x2 - x1 ) - 1 ≤ 319) (h3 : x3 = x0 + 1) : x3 < ((319 : Nat) : Int) := by omega
theorem om_75 {x0 : Int} (h0 : 0 ≤ x0) : - 2147483648 ≤ 2 * x0 := by omega
theorem om_76 {x0 : Int} (h0 : x0 ≤ 160) : 2 * x0 ≤ 2147483647 := by omega
theorem om_77 {x0 : Int} {x1 : Int} (h0 : 0 ≤ x0) (h1 : x1 = 2 * x0) : - 2147483648 ≤ x1 - 1 := by omega
theorem om_78 {x0 : Int} {x1 : Int} (h0 : x0 ≤ 160) (h1 : x1 = 2 * x0) : x1 - 1 ≤ 2147483647 := by omega
theorem om_79 {x0 : Int} {x1 : Int} {x2 : Int} {x3 : Int} (h0 : x0 ≤ 160) (h1 : x1 = 2 * x0) (h2 : x2 = x1 - 1) (h3 : x3 < x2) : x3 < ((319 : Nat) : Int) := by omega
theorem om_81 {x0 : Int} {x1 : Int} {x2 : Int} {x3 : Int} (h0 : x0 ≤ 160) (h1 : x1 = 2 * x0) (h2 : x2 = x1 - 1) (h3 : x3 < x2) : x3 < 319 := by omega
theorem om_82 {x0 : Int} {x1 : Int} {x2 : Int} {x3 : Int} {x4 : Int} (h0 : x0 = x1) (h1 : x2 = x3) (h2 : x4 = x0 - x2) (h3 : 1 < x4) : x3 + 2 ≤ x1 := by omega
theorem om_83 {x0 : Int} {x1 : Int} (h0 : x0 < 160) (h1 : x1 < x0) : x1 < ((160 : Nat) : Int) := by omega
theorem om_84 {x0 : Int} {x1 : Int} (h0 : x0 < 160) (h1 : x1 < x0) : x1 + 1 ≤ 2147483647 := by omega
theorem om_85 {x0 : Int} {x1 : Int} (h0 : x0 < x1) (h1 : x1 ≤ 160) : x0 < ((160 : Nat) : Int) := by omega
theorem om_86 {x0 : Int} {x1 : Int} (h0 : x0 < x1) (h1 : 0 ≤ x0) : - 2147483648 ≤ x1 - 1 := by omega
theorem om_87 {x0 : Int} (h0 : x0 ≤ 160) : x0 - 1 ≤ 2147483647 := by omega
theorem om_88 {x0 : Int} {x1 : Int} (h0 : x0 ≤ 160) (h1 : x1 ≤ x0 - 1) : x1 + 1 ≤ 2147483647 := by omega
theorem om_89 {x0 : Int} {x1 : Int} {x2 : Int} (h0 : 0 ≤ x0) (h1 : x0 ≤ x1) (h2 : x2 = x1 + 1) : 0 ≤ x2 := by omega
theorem om_90 {x0 : Int} {x1 : Int} {x2 : Int} {x3 : Int} (h0 : x0 ≤ 160) (h1 : x1 = x0 - 1) (h2 : x2 < x1) (h3 : x3 = x2 + 1) : x3 < ((160 : Nat) : Int) := by omega
theorem om_91 {x0 : Int} {x1 : Int} (h0 : x0 ≤ 160) (h1 : x1 ≤ x0 - 1) : x1 < ((160 : Nat) : Int) := by omega
theorem om_92 {x0 : Int} {x1 : Int} {x2 : Int} {x3 : Int} (h0 : x0 = x1 - 1) (h1 : x2 < x0) (h2 : x3 = x2 + 1) : x3 ≤ x1 - 1 := by omega
theorem om_93 {x0 : Int} {x1 : Int} (h0 : x0 ≤ x1 - 1) : 0 < x1 - x0 := by omega
theorem om_94 {x0 : Int} {x1 : Int} (h0 : x0 < x1) : x0 ≤ x1 - 1 := by omega
theorem om_95 {x0 : Int} (h0 : 0 ≤ x0) : - 2147483648 ≤ x0 * 6 := by omega
theorem om_96 {x0 : Int} (h0 : x0 < 319) : x0 * 6 ≤ 2147483647 := by omega
theorem om_97 {x0 : Int} {x1 : Int} {x2 : Int} (h0 : 0 ≤ x0) (h1 : x1 = x0 * 6) (h2 : 0 ≤ x2) : - 2147483648 ≤ x1 + x2 := by omega
theorem om_98 {x0 : Int} {x1 : Int} {x2 : Int} {x3 : Int} {x4 : Int} (h0 : x0 < 319) (h1 : x1 = x0 * 6) (h2 : x2 = x3) (h3 : x3 ≤ 6) (h4 : x4 < x2) : x1 + x4 ≤ 2147483647 := by omega
theorem om_99 {x0 : Int} {x1 : Int} {x2 : Int} {x3 : Int} (h0 : 0 ≤ x0) (h1 : x1 = x0 * 6) (h2 : 0 ≤ x2) (h3 : x3 = x1 + x2) : 0 ≤ x3 := by omega
theorem om_100 {x0 : Int} {x1 : Int} {x2 : Int} {x3 : Int} {x4 : Int} {x5 : Int} (h0 : x0 < 319) (h1 : x1 = x0 * 6) (h2 : x2 = x3) (h3 : x3 ≤ 6) (h4 : x4 < x2) (h5 : x5 = x1 + x4) : x5 < ((1914 : Nat) : Int) := by omega
theorem om_101 {x0 : Int} {x1 : Int} {x2 : Int} (h0 : x0 = x1) (h1 : x1 ≤ 6) (h2 : x2 < x0) : x2 + 1 ≤ 2147483647 := by omega
theorem om_102 {x0 : Int} {x1 : Int} (h0 : x0 = x1 + 1) : ( 6 - x0 ) + 1 ≤ 6 - x1 := by omega
theorem om_103 {x0 : Int} {x1 : Int} {x2 : Int} (h0 : x0 = x1) (h1 : x1 ≤ 6) (h2 : x2 < x0) : 0 < 6 - x2 := by omega
theorem om_104  : (0 : Int) ≤ 12 := by omega
theorem om_105 {x0 : Int} {x1 : Int} {x2 : Int} (h0 : x0 < 319) (h1 : x1 = x0 * 6) (h2 : x2 < 6) : x1 + x2 ≤ 2147483647 := by omega
theorem om_106 {x0 : Int} {x1 : Int} {x2 : Int} {x3 : Int} (h0 : x0 < 319) (h1 : x1 = x0 * 6) (h2 : x2 < 6) (h3 : x3 = x1 + x2) : x3 < ((1914 : Nat) : Int) := by omega
theorem om_107 {x0 : Int} (h0 : x0 < 6) : x0 < ((12 : Nat) : Int) := by omega
theorem om_108 {x0 : Int} (h0 : x0 < 6) : x0 + 1 ≤ 2147483647 := by omega
theorem om_109 {x0 : Int} (h0 : x0 < 6) : 0 < 6 - x0 := by omega
theorem om_110 {x0 : Int} {x1 : Int} (h0 : x0 < x1) (h1 : x1 ≤ 319) : x0 < ((319 : Nat) : Int) := by omega
theorem om_111 {x0 : Int} {x1 : Int} (h0 : x0 < x1) (h1 : x1 ≤ 319) : x0 + 1 ≤ 2147483647 := by omega
theorem om_112 {x0 : Int} {x1 : Int} (h0 : x0 < x1) (h1 : x1 ≤ 319) : x0 < 319 := by omega
theorem om_113 {x0 : Int} (h0 : 0 ≤ x0) : - 2147483648 ≤ x0 - 1 := by omega
theorem om_114 {x0 : Int} (h0 : x0 ≤ 319) : x0 - 1 ≤ 2147483647 := by omega
theorem om_115 {x0 : Int} {x1 : Int} (h0 : x0 ≤ 319) (h1 : x1 < x0) : x1 < ((319 : Nat) : Int) := by omega
theorem om_116 {x0 : Int} (h0 : 0 ≤ x0) : - 2147483648 ≤ x0 + ( - 1 ) := by omega
theorem om_117 {x0 : Int} {x1 : Int} (h0 : x0 ≤ 319) (h1 : x1 < x0) : x1 + ( - 1 ) ≤ 2147483647 := by omega
theorem om_118 {x0 : Int} {x1 : Int} {x2 : Int} (h0 : x0 < x1) (h1 : x2 = x0 + ( - 1 )) : x2 < x1 := by omega
theorem om_119 {x0 : Int} {x1 : Int} (h0 : 0 ≤ x0) (h1 : x1 = x0 + ( - 1 )) : - 1 ≤ x1 := by omega
theorem om_120 {x0 : Int} {x1 : Int} (h0 : x0 = x1 + ( - 1 )) : ( x0 + 1 ) + 1 ≤ x1 + 1 := by omega
theorem om_121 {x0 : Int} (h0 : 0 ≤ x0) : 0 < x0 + 1 := by omega
theorem om_122 {x0 : Int} {x1 : Int} (h0 : x0 ≤ 319) (h1 : x1 < x0) : x1 < 319 := by omega
theorem om_123 {x0 : Int} {x1 : Int} (h0 : x0 = x1 - 1) : x0 < x1 := by omega
theorem om_124 {x0 : Int} {x1 : Int} (h0 : 0 ≤ x0) (h1 : x1 = x0 - 1) : - 1 ≤ x1 := by omega
theorem om_125 {x0 : Int} {x1 : Int} (h0 : x0 ≤ 319) (h1 : x1 < x0) : x1 + 1 ≤ 2147483647 := by omega
theorem om_126 {x0 : Int} {x1 : Int} {x2 : Int} (h0 : x0 = x1) (h1 : x2 < x0) : x2 < x1 := by omega
theorem om_127 {x0 : Int} {x1 : Int} {x2 : Int} (h0 : x0 = x1) (h1 : x0 = x2) : x1 = x2 := by omega
theorem om_128 {x0 : Int} {x1 : Int} {x2 : Int} (h0 : x0 = x1) (h1 : x0 ≤ x2) : x1 ≤ x2 := by omega
theorem om_129 {x0 : Int} {x1 : Int} (h0 : x0 ≤ 12) (h1 : x1 ≤ x0) : x1 ≤ 12 := by omega
theorem om_130 {x0 : Int} (h0 : 1 < x0) : 0 ≤ x0 := by omega
theorem om_131 {x0 : Int} {x1 : Int} (h0 : 1 < x0) (h1 : 2 * x1 ≤ x0) : - 2147483648 ≤ x0 - x1 := by omega
theorem om_132 {x0 : Int} {x1 : Int} (h0 : x0 ≤ 160) (h1 : x0 ≤ 2 * x1 + 1) : x0 - x1 ≤ 2147483647 := by omega
theorem om_133 {x0 : Int} {x1 : Int} {x2 : Int} (h0 : 1 < x0) (h1 : 2 * x1 ≤ x0) (h2 : x2 = x0 - x1) : 0 ≤ x2 := by omega
theorem om_134 {x0 : Int} {x1 : Int} {x2 : Int} (h0 : x0 ≤ 160) (h1 : x0 ≤ 2 * x1 + 1) (h2 : x2 = x0 - x1) : x2 ≤ 160 := by omega
theorem om_136 {x0 : Int} (h0 : x0 ≤ 160) : x0 ≤ 160 := by omega
theorem om_137 {x0 : Int} {x1 : Int} (h0 : x0 = x1 + 1) : ( 160 - x0 ) + 1 ≤ 160 - x1 := by omega
theorem om_138 {x0 : Int} (h0 : x0 < 160) : 0 < 160 - x0 := by omega
theorem om_139 {x0 : Int} (h0 : x0 < 161) : x0 < ((161 : Nat) : Int) := by omega
theorem om_140 {x0 : Int} (h0 : x0 < 161) : x0 + 1 ≤ 2147483647 := by omega
theorem om_141 {x0 : Int} {x1 : Int} (h0 : x0 = x1 + 1) : ( 161 - x0 ) + 1 ≤ 161 - x1 := by omega
theorem om_142 {x0 : Int} (h0 : x0 < 161) : 0 < 161 - x0 := by omega
theorem om_143 {x0 : Int} {x1 : Int} (h0 : x0 ≤ 160) (h1 : x1 < x0) : x1 < 160 := by omega
theorem om_144 {x0 : Int} {x1 : Int} (h0 : x0 = x1) (h1 : 0 ≤ x1) : 0 ≤ x0 := by omega
theorem om_145 {x0 : Int} (h0 : x0 < ( - 32768 )) : x0 < - 32768 := by omega
theorem om_146 {x0 : Int} (h0 : 32767 < x0) : 32767 < x0 := by omega
theorem om_147 {x0 : Int} (h0 : ( - 32768 ) ≤ x0) : - 32768 ≤ x0 := by omega
theorem om_148 {x0 : Int} (h0 : x0 ≤ 32767) : x0 ≤ 32767 := by omega
theorem om_149 {x0 : Int} (h0 : x0 < 1) : x0 < 1 := by omega
theorem om_150 {x0 : Int} (h0 : 999 < x0) : 999 < x0 := by omega
theorem om_151 {x0 : Int} (h0 : 1 ≤ x0) : 1 ≤ x0 := by omega
theorem om_152 {x0 : Int} (h0 : x0 ≤ 999) : x0 ≤ 999 := by omega
theorem om_153 {x0 : Int} (h0 : 0 ≤ x0) : - 2147483648 ≤ x0 + 4 := by omega
theorem om_154 {x0 : Int} (h0 : x0 ≤ 160) : x0 + 4 ≤ 2147483647 := by omega
theorem om_155 {x0 : Int} {x1 : Int} (h0 : x0 ≤ 160) (h1 : x1 = x0 + 4) (h2 : x1 ≤ 160) : x0 < 160 := by omega
theorem om_156 {x0 : Int} {x1 : Int} {x2 : Int} (h0 : x0 ≤ 160) (h1 : x1 = x0 + 4) (h2 : x1 ≤ 160) (h3 : x2 = x0 + 1) : x2 < 160 := by omega
theorem om_157 {x0 : Int} {x1 : Int} {x2 : Int} (h0 : 0 ≤ x0) (h1 : x1 = x0 + 1) (h2 : x2 = x1 + 1) : 0 ≤ x2 := by omega
theorem om_158 {x0 : Int} {x1 : Int} {x2 : Int} {x3 : Int} (h0 : x0 ≤ 160) (h1 : x1 = x0 + 4) (h2 : x1 ≤ 160) (h3 : x2 = x0 + 1) (h4 : x3 = x2 + 1) : x3 < 160 := by omega
theorem om_159 {x0 : Int} {x1 : Int} {x2 : Int} {x3 : Int} (h0 : 0 ≤ x0) (h1 : x1 = x0 + 1) (h2 : x2 = x1 + 1) (h3 : x3 = x2 + 1) : 0 ≤ x3 := by omega
theorem om_160 {x0 : Int} {x1 : Int} {x2 : Int} {x3 : Int} {x4 : Int} (h0 : x0 = x1 + 4) (h1 : x0 ≤ 160) (h2 : x2 = x1 + 1) (h3 : x3 = x2 + 1) (h4 : x4 = x3 + 1) : x4 < 160 := by omega
theorem om_161 {x0 : Int} (h0 : x0 = 0) : ¬ x0 < 0 := by omega
theorem om_162 {x0 : Int} (h0 : x0 = 0) : ¬ 2 < x0 := by omega
theorem om_163 {x0 : Int} (h0 : x0 = 1) : ¬ x0 < 0 := by omega
theorem om_164 {x0 : Int} (h0 : x0 = 1) : ¬ 2 < x0 := by omega
theorem om_165 {x0 : Int} (h0 : x0 = 2) : ¬ x0 < 0 := by omega
theorem om_166 {x0 : Int} (h0 : x0 = 2) : ¬ 2 < x0 := by omega
theorem om_167 {x0 : Int} {x1 : Int} (h0 : x0 ≤ 160) (h1 : x1 ≤ x0) : x1 ≤ 160 := by omega
theorem om_168 {x0 : Int} {x1 : Int} (h0 : x0 < x1) : - 2147483648 ≤ x1 - x0 := by omega
theorem om_169 {x0 : Int} {x1 : Int} {x2 : Int} (h0 : x0 ≤ 160) (h1 : 0 ≤ x1) (h2 : x2 ≤ x0) : x2 - x1 ≤ 2147483647 := by omega
theorem om_170 {x0 : Int} {x1 : Int} {x2 : Int} (h0 : x0 ≤ 160) (h1 : x1 < x2) (h2 : x2 ≤ x0) : x1 + 1 ≤ 2147483647 := by omega
theorem om_171 {x0 : Int} {x1 : Int} {x2 : Int} (h0 : x0 ≤ 160) (h1 : x1 ≤ x0) (h2 : x2 < x1) : x2 ≤ 160 := by omega
theorem om_172 {x0 : Int} {x1 : Int} {x2 : Int} (h0 : x0 ≤ 160) (h1 : x1 ≤ x0) (h2 : x2 < x1) : x2 + 1 ≤ 2147483647 := by omega
theorem om_173 {x0 : Int} {x1 : Int} (h0 : x0 = x1 + 1) : x1 ≤ x0 := by omega
theorem om_174 {x0 : Int} {x1 : Int} {x2 : Int} (h0 : x0 ≤ 160) (h1 : x1 < x2) (h2 : x2 ≤ x0) : x1 < ((161 : Nat) : Int) := by omega
theorem om_175 {x0 : Int} {x1 : Int} (h0 : x0 ≤ 160) (h1 : x1 ≤ x0) : x1 < ((161 : Nat) : Int) := by omega
theorem om_176 {x0 : Int} {x1 : Int} {x2 : Int} (h0 : 0 ≤ x0) (h1 : x0 ≤ x1) (h2 : x1 ≤ x2) : 0 ≤ x2 := by omega
theorem om_177 {x0 : Int} {x1 : Int} {x2 : Int} (h0 : x0 ≤ x1) (h1 : x2 < x0) : x2 < x1 := by omega
theorem om_178 {x0 : Int} {x1 : Int} {x2 : Int} (h0 : 0 ≤ x0) (h1 : x0 ≤ x1) (h2 : x1 ≤ x2) : - 2147483648 ≤ x2 + 1 := by omega
theorem om_179 {x0 : Int} {x1 : Int} {x2 : Int} {x3 : Int} (h0 : 0 ≤ x0) (h1 : x0 ≤ x1) (h2 : x1 ≤ x2) (h3 : x3 = x2 + 1) : 0 ≤ x3 := by omega
theorem om_180 {x0 : Int} {x1 : Int} {x2 : Int} {x3 : Int} (h0 : x0 ≤ 160) (h1 : x1 ≤ x0) (h2 : x2 < x1) (h3 : x3 = x2 + 1) : x3 < ((161 : Nat) : Int) := by omega
theorem om_181 {x0 : Int} {x1 : Int} {x2 : Int} (h0 : x0 ≤ 160) (h1 : x1 ≤ x0) (h2 : x2 < x1) : x2 < ((161 : Nat) : Int) := by omega
theorem om_182 {x0 : Int} (h0 : 1 ≤ x0) : - 2147483648 ≤ x0 - 1 := by omega
theorem om_183 {x0 : Int} {x1 : Int} (h0 : x0 ≤ 160) (h1 : x1 ≤ x0) : x1 - 1 ≤ 2147483647 := by omega
theorem om_184 {x0 : Int} {x1 : Int} (h0 : x0 ≤ x1) : - 2147483648 ≤ x1 - x0 := by omega
theorem om_185 {x0 : Int} {x1 : Int} {x2 : Int} (h0 : x0 ≤ 160) (h1 : 1 ≤ x1) (h2 : x2 < x0) : x2 - x1 ≤ 2147483647 := by omega
theorem om_186 {x0 : Int} {x1 : Int} {x2 : Int} (h0 : x0 ≤ x1) (h1 : x2 = x1 - x0) : 0 ≤ x2 := by omega
theorem om_187 {x0 : Int} {x1 : Int} {x2 : Int} {x3 : Int} (h0 : 1 ≤ x0) (h1 : x1 < x2) (h2 : x3 = x1 - x0) : x3 < x2 := by omega
theorem om_188 {x0 : Int} {x1 : Int} {x2 : Int} (h0 : x0 ≤ 160) (h1 : x1 < x0) (h2 : x2 = x1 + 1) : x2 ≤ 160 := by omega
theorem om_192 {x0 : Int} (h0 : x0 ≤ 160) : x0 + 1 ≤ 2147483647 := by omega
theorem om_193 {x0 : Int} (h0 : - 1 ≤ x0) : - 2147483648 ≤ x0 + ( - 1 ) := by omega
theorem om_198 {x0 : Int} {x1 : Int} {x2 : Int} {x3 : Int} (h0 : x0 = x1 + 1) (h1 : x2 = x3 + ( - 1 )) : ( x2 - x0 ) + 1 ≤ x3 - x1 := by omega
theorem om_200 {x0 : Int} {x1 : Int} {x2 : Int} (h0 : 0 ≤ x0) (h1 : x0 < x1) (h2 : x2 = x1 - 1) : - 1 ≤ x2 := by omega
theorem om_202 {x0 : Int} {x1 : Int} (h0 : x0 ≤ 160) (h1 : x1 < x0) : x1 ≤ 160 := by omega
theorem om_203 {x0 : Int} (h0 : x0 ≤ 6) : x0 + 1 ≤ 2147483647 := by omega
theorem om_204 {x0 : Int} {x1 : Int} (h0 : x0 = x1 + 1) : ( 7 - x0 ) + 1 ≤ 7 - x1 := by omega
theorem om_205 {x0 : Int} (h0 : x0 ≤ 6) : 0 < 7 - x0 := by omega
theorem om_206 {x0 : Int} {x1 : Int} {x2 : Int} (h0 : x0 ≤ 12) (h1 : x1 ≤ x0) (h2 : x2 < x1) : x2 < ((12 : Nat) : Int) := by omega
theorem om_207 {x0 : Int} {x1 : Int} {x2 : Int} (h0 : x0 ≤ 12) (h1 : x1 ≤ x0) (h2 : x2 < x1) : x2 + 1 ≤ 2147483647 := by omega
theorem om_208  : (0 : Int) < 319 := by omega
theorem om_209 {x0 : Int} {x1 : Int} {x2 : Int} (h0 : x0 ≤ 160) (h1 : x1 ≤ x0) (h2 : x2 < x1) : x2 < 160 := by omega
theorem om_210 {x0 : Int} (h0 : x0 = 0) : ¬ 6 < x0 := by omega
theorem om_211 {x0 : Int} (h0 : x0 = 1) : ¬ 6 < x0 := by omega
theorem om_212 {x0 : Int} (h0 : x0 = 2) : ¬ 6 < x0 := by omega
theorem om_213 {x0 : Int} (h0 : x0 = 3) : ¬ x0 < 0 := by omega
theorem om_214 {x0 : Int} (h0 : x0 = 3) : ¬ 6 < x0 := by omega
theorem om_215 {x0 : Int} (h0 : x0 = 4) : ¬ x0 < 0 := by omega
theorem om_216 {x0 : Int} (h0 : x0 = 4) : ¬ 6 < x0 := by omega
theorem om_217 {x0 : Int} (h0 : x0 = 5) : ¬ x0 < 0 := by omega
theorem om_218 {x0 : Int} (h0 : x0 = 5) : ¬ 6 < x0 := by omega
theorem om_219 {x0 : Int} (h0 : x0 = 6) : ¬ x0 < 0 := by omega
theorem om_220 {x0 : Int} (h0 : x0 = 6) : ¬ 6 < x0 := by omega
theorem om_221 {x0 : Int} {x1 : Int} {x2 : Int} (h0 : x0 = x1 - 1) (h1 : x2 ≤ x0) : x2 < x1 := by omega
theorem om_222 {x0 : Int} {x1 : Int} (h0 : x0 ≤ 160) (h1 : x1 = x0 + 4) (h2 : x1 ≤ 160) : x0 < ((160 : Nat) : Int) := by omega
theorem om_223 {x0 : Int} {x1 : Int} {x2 : Int} (h0 : x0 ≤ 160) (h1 : x1 = x0 + 4) (h2 : x1 ≤ 160) (h3 : x2 = x0 + 1) : x2 < ((160 : Nat) : Int) := by omega
theorem om_224 {x0 : Int} (h0 : 0 ≤ x0) : - 2147483648 ≤ x0 + 2 := by omega
theorem om_225 {x0 : Int} (h0 : x0 ≤ 160) : x0 + 2 ≤ 2147483647 := by omega
theorem om_226 {x0 : Int} {x1 : Int} (h0 : 0 ≤ x0) (h1 : x1 = x0 + 2) : 0 ≤ x1 := by omega
theorem om_227 {x0 : Int} {x1 : Int} {x2 : Int} (h0 : x0 ≤ 160) (h1 : x1 = x0 + 4) (h2 : x1 ≤ 160) (h3 : x2 = x0 + 2) : x2 < ((160 : Nat) : Int) := by omega
theorem om_228 {x0 : Int} (h0 : 0 ≤ x0) : - 2147483648 ≤ x0 + 3 := by omega
theorem om_229 {x0 : Int} (h0 : x0 ≤ 160) : x0 + 3 ≤ 2147483647 := by omega
theorem om_230 {x0 : Int} {x1 : Int} (h0 : 0 ≤ x0) (h1 : x1 = x0 + 3) : 0 ≤ x1 := by omega
theorem om_231 {x0 : Int} {x1 : Int} {x2 : Int} (h0 : x0 = x1 + 4) (h1 : x0 ≤ 160) (h2 : x2 = x1 + 3) : x2 < ((160 : Nat) : Int) := by omega
theorem om_232 {x0 : Int} {x1 : Int} {x2 : Int} (h0 : x0 ≤ 160) (h1 : x1 ≤ x0) (h2 : x2 = x1 - 1) : x2 < ((160 : Nat) : Int) := by omega
theorem om_233 {x0 : Int} {x1 : Int} (h0 : x0 ≤ 160) (h1 : x1 ≤ x0) : x1 + ( - 1 ) ≤ 2147483647 := by omega
theorem om_234 {x0 : Int} {x1 : Int} {x2 : Int} (h0 : x0 ≤ 160) (h1 : x1 = x0 - 1) (h2 : x2 ≤ x1) : x2 + 1 ≤ 2147483647 := by omega
theorem om_235 {x0 : Int} {x1 : Int} {x2 : Int} (h0 : x0 ≤ 160) (h1 : x1 = x0 - 1) (h2 : x2 ≤ x1) : x2 < ((160 : Nat) : Int) := by omega
theorem om_236 {x0 : Int} {x1 : Int} {x2 : Int} (h0 : x0 < x1) (h1 : x2 = x1 - 1) : x0 ≤ x2 := by omega
theorem om_237 {x0 : Int} {x1 : Int} (h0 : 1 ≤ x0) (h1 : x1 = x0 - 1) : 0 ≤ x1 := by omega
theorem om_238 {x0 : Int} {x1 : Int} (h0 : x0 ≤ 160) (h1 : x1 ≤ x0) : x1 + 1 ≤ 2147483647 := by omega
theorem om_239 {x0 : Int} {x1 : Int} {x2 : Int} (h0 : x0 = x1 + 1) : ( x2 + 1 - x0 ) + 1 ≤ x2 + 1 - x1 := by omega
theorem om_240 {x0 : Int} {x1 : Int} (h0 : x0 ≤ x1) : 0 < x1 + 1 - x0 := by omega
theorem om_241 {x0 : Int} {x1 : Int} (h0 : 0 ≤ x0) (h1 : x1 = x0 + 1) : 1 ≤ x1 := by omega
theorem om_242 {x0 : Int} (h0 : x0 < 12) : x0 + 1 ≤ 2147483647 := by omega
theorem om_243 {x0 : Int} {x1 : Int} (h0 : x0 < 12) (h1 : x1 < x0) : x1 < ((12 : Nat) : Int) := by omega
theorem om_244 {x0 : Int} {x1 : Int} (h0 : x0 < 12) (h1 : x1 < x0) : x1 + 1 ≤ 2147483647 := by omega
theorem om_245 {x0 : Int} {x1 : Int} {x2 : Int} {x3 : Int} (h0 : x0 = x1) (h1 : x2 = x3) (h2 : x0 = x2) : x1 = x3 := by omega
theorem om_246 {x0 : Int} (h0 : x0 < 324) : x0 < ((324 : Nat) : Int) := by omega
theorem om_247 {x0 : Int} (h0 : 0 ≤ x0) : - 2147483648 ≤ 6 * x0 := by omega
theorem om_248 {x0 : Int} (h0 : x0 < 324) : 6 * x0 ≤ 2147483647 := by omega
theorem om_249 {x0 : Int} {x1 : Int} (h0 : 0 ≤ x0) (h1 : x1 = 6 * x0) : 0 ≤ x1 := by omega
theorem om_250 {x0 : Int} {x1 : Int} (h0 : x0 < 324) (h1 : x1 = 6 * x0) : x1 < ((1944 : Nat) : Int) := by omega
theorem om_251 {x0 : Int} {x1 : Int} {x2 : Int} (h0 : 0 ≤ x0) (h1 : 0 ≤ x1) (h2 : x2 = 6 * x0) : - 2147483648 ≤ x2 + x1 := by omega
theorem om_252 {x0 : Int} {x1 : Int} {x2 : Int} {x3 : Int} {x4 : Int} (h0 : x0 < 324) (h1 : x1 = x2) (h2 : x2 ≤ 6) (h3 : x3 < x1) (h4 : x4 = 6 * x0) : x4 + x3 ≤ 2147483647 := by omega
theorem om_253 {x0 : Int} {x1 : Int} {x2 : Int} {x3 : Int} (h0 : 0 ≤ x0) (h1 : 0 ≤ x1) (h2 : x2 = 6 * x0) (h3 : x3 = x2 + x1) : 0 ≤ x3 := by omega
theorem om_254 {x0 : Int} {x1 : Int} {x2 : Int} {x3 : Int} {x4 : Int} {x5 : Int} (h0 : x0 < 324) (h1 : x1 = x2) (h2 : x2 ≤ 6) (h3 : x3 < x1) (h4 : x4 = 6 * x0) (h5 : x5 = x4 + x3) : x5 < ((1944 : Nat) : Int) := by omega
theorem om_255 {x0 : Int} {x1 : Int} (h0 : x0 ≤ 320) (h1 : x1 < x0) : x1 < ((320 : Nat) : Int) := by omega
theorem om_256 {x0 : Int} {x1 : Int} (h0 : x0 ≤ 320) (h1 : x1 < x0) : x1 + 1 ≤ 2147483647 := by omega
theorem om_258 {x0 : Int} {x1 : Int} {x2 : Int} {x3 : Int} (h0 : x0 < 324) (h1 : x1 < 6) (h2 : x2 = 6 * x0) (h3 : x3 = x2 + x1) : x3 < ((1944 : Nat) : Int) := by omega
theorem om_259 {x0 : Int} {x1 : Int} {x2 : Int} (h0 : x0 ≤ 160) (h1 : x1 ≤ x2) (h2 : x2 < x0) : x1 + 1 ≤ 2147483647 := by omega
theorem om_260 {x0 : Int} {x1 : Int} {x2 : Int} (h0 : x0 ≤ 160) (h1 : x1 < x0) (h2 : x2 < x1) : x2 < ((160 : Nat) : Int) := by omega
theorem om_261 {x0 : Int} {x1 : Int} {x2 : Int} (h0 : x0 ≤ 160) (h1 : x1 < x0) (h2 : x2 < x1) : x2 + 1 ≤ 2147483647 := by omega
theorem om_262 {x0 : Int} {x1 : Int} (h0 : 0 ≤ x0) (h1 : x0 ≤ x1) : - 2147483648 ≤ x1 + ( - 1 ) := by omega
theorem om_263 {x0 : Int} {x1 : Int} {x2 : Int} (h0 : x0 ≤ 160) (h1 : x1 ≤ x0) (h2 : x2 < x1) : x2 + ( - 1 ) ≤ 2147483647 := by omega
theorem om_264 {x0 : Int} {x1 : Int} {x2 : Int} (h0 : x0 ≤ x1) (h1 : x2 = x1 + ( - 1 )) : x0 - 1 ≤ x2 := by omega
theorem om_265 {x0 : Int} {x1 : Int} (h0 : 0 ≤ x0) (h1 : x0 ≤ x1) : 0 < x1 + 1 := by omega
theorem om_266 {x0 : Int} {x1 : Int} {x2 : Int} (h0 : x0 ≤ x1) (h1 : x2 ≤ x0) : x2 ≤ x1 := by omega
theorem om_267 {x0 : Int} {x1 : Int} {x2 : Int} (h0 : x0 ≤ 160) (h1 : x1 ≤ x0) (h2 : x2 ≤ x1) : x2 + 1 ≤ 2147483647 := by omega
theorem om_268 {x0 : Int} {x1 : Int} {x2 : Int} (h0 : x0 ≤ 160) (h1 : x1 ≤ x0) (h2 : x2 ≤ x1) : x2 < ((161 : Nat) : Int) := by omega
theorem om_269 {x0 : Int} {x1 : Int} {x2 : Int} (h0 : 0 ≤ x0) (h1 : x0 ≤ x1) (h2 : x2 = x1 + 1) : 1 ≤ x2 := by omega
theorem om_270 {x0 : Int} {x1 : Int} {x2 : Int} (h0 : x0 < x1) (h1 : x2 = x1 - 1) : x0 - 1 ≤ x2 := by omega
theorem om_271 {x0 : Int} {x1 : Int} {x2 : Int} (h0 : x0 ≤ 160) (h1 : x1 ≤ x0) (h2 : x2 = x1 - 1) : x2 ≤ 160 := by omega
theorem om_272 {x0 : Int} {x1 : Int} (h0 : 1 ≤ x0) (h1 : 0 ≤ x1) : - 2147483648 ≤ x1 + x0 := by omega
theorem om_273 {x0 : Int} {x1 : Int} {x2 : Int} (h0 : x0 ≤ 160) (h1 : x1 ≤ x0) (h2 : x2 ≤ x0) : x2 + x1 ≤ 2147483647 := by omega
theorem om_274 {x0 : Int} {x1 : Int} {x2 : Int} {x3 : Int} (h0 : x0 ≤ 160) (h1 : x1 = x2 + x3) (h2 : x1 ≤ x0) : x2 + x3 ≤ 2147483647 := by omega
theorem om_275 {x0 : Int} {x1 : Int} {x2 : Int} (h0 : 1 ≤ x0) (h1 : 0 ≤ x1) (h2 : x2 = x1 + x0) : - 2147483648 ≤ x2 - 1 := by omega
theorem om_276 {x0 : Int} {x1 : Int} {x2 : Int} {x3 : Int} {x4 : Int} (h0 : x0 ≤ 160) (h1 : x1 = x2 + x3) (h2 : x1 ≤ x0) (h3 : x4 = x2 + x3) : x4 - 1 ≤ 2147483647 := by omega
theorem om_277 {x0 : Int} {x1 : Int} {x2 : Int} {x3 : Int} (h0 : 1 ≤ x0) (h1 : 0 ≤ x1) (h2 : x2 = x1 + x0) (h3 : x3 = x2 - 1) : 0 ≤ x3 := by omega
theorem om_278 {x0 : Int} {x1 : Int} {x2 : Int} {x3 : Int} {x4 : Int} {x5 : Int} (h0 : x0 ≤ 160) (h1 : x1 = x2 + x3) (h2 : x1 ≤ x0) (h3 : x4 = x2 + x3) (h4 : x5 = x4 - 1) : x5 < ((160 : Nat) : Int) := by omega
theorem om_279 {x0 : Int} {x1 : Int} {x2 : Int} {x3 : Int} (h0 : x0 ≤ 160) (h1 : 1 ≤ x1) (h2 : x2 = x3 + x1) (h3 : x2 ≤ x0) : x3 < ((160 : Nat) : Int) := by omega
theorem om_280 {x0 : Int} {x1 : Int} {x2 : Int} {x3 : Int} {x4 : Int} (h0 : 1 ≤ x0) (h1 : x1 = x2 + x0) (h2 : x1 ≤ x3) (h3 : x4 = x2 + 1) : x4 ≤ x3 := by omega
theorem om_281 {x0 : Int} {x1 : Int} {x2 : Int} {x3 : Int} (h0 : 1 ≤ x0) (h1 : x1 = x2 + x0) (h2 : x1 ≤ x3) : 0 < x3 - x2 := by omega
theorem om_282 {x0 : Int} {x1 : Int} {x2 : Int} {x3 : Int} {x4 : Int} {x5 : Int} (h0 : x0 ≤ 160) (h1 : x1 = x2 + x3) (h2 : x1 ≤ x0) (h3 : x4 = x2 + x3) (h4 : x5 < x4) : x5 < ((160 : Nat) : Int) := by omega
theorem om_283 {x0 : Int} {x1 : Int} {x2 : Int} {x3 : Int} {x4 : Int} (h0 : x0 ≤ 160) (h1 : x1 = x2 + x3) (h2 : x1 ≤ x0) (h3 : x4 = x2 + x3) : x4 ≤ 160 := by omega
theorem om_284 {x0 : Int} {x1 : Int} {x2 : Int} {x3 : Int} {x4 : Int} (h0 : x0 ≤ 160) (h1 : x1 = x2 + x3) (h2 : x1 ≤ x0) (h3 : x4 ≤ x2 + x3) : x4 + 1 ≤ 2147483647 := by omega
theorem om_285 {x0 : Int} {x1 : Int} {x2 : Int} {x3 : Int} {x4 : Int} (h0 : x0 = x1 + x2) (h1 : x3 < x0) (h2 : x4 = x3 + 1) : x4 ≤ x1 + x2 := by omega
theorem om_286 {x0 : Int} {x1 : Int} {x2 : Int} {x3 : Int} (h0 : x0 = x1 + 1) : ( x2 + x3 - x0 ) + 1 ≤ x2 + x3 - x1 := by omega
theorem om_287 {x0 : Int} {x1 : Int} {x2 : Int} {x3 : Int} (h0 : x0 = x1 + x2) (h1 : x3 < x0) : 0 < x1 + x2 - x3 := by omega
theorem om_288 {x0 : Int} {x1 : Int} (h0 : 1 ≤ x0) : x1 ≤ x1 + x0 := by omega
theorem om_289 {x0 : Int} {x1 : Int} {x2 : Int} {x3 : Int} {x4 : Int} {x5 : Int} {x6 : Int} (h0 : x0 ≤ 160) (h1 : 0 ≤ x1) (h2 : x2 ≤ x0) (h3 : x3 = x4 + x5) (h4 : x6 = x2 - x1) (h5 : x3 ≤ x6) : x4 + x5 ≤ 2147483647 := by omega
theorem om_290 {x0 : Int} {x1 : Int} {x2 : Int} {x3 : Int} (h0 : x0 ≤ 160) (h1 : 0 ≤ x1) (h2 : x2 ≤ x0) (h3 : x3 ≤ x2 - x1 + 1) : x3 + 1 ≤ 2147483647 := by omega
theorem om_292 {x0 : Int} {x1 : Int} (h0 : x0 < x1) : 0 ≤ x1 - x0 + 1 := by omega
theorem om_293 {x0 : Int} {x1 : Int} {x2 : Int} (h0 : x0 ≤ 12) (h1 : x1 < x0) (h2 : x2 = x1 + 1) : x2 ≤ 12 := by omega
theorem om_294 {x0 : Int} {x1 : Int} {x2 : Int} (h0 : x0 ≤ 12) (h1 : x1 ≤ 12) (h2 : x1 < x2) (h3 : x2 < x0) : x1 < 12 := by omega
theorem om_295 {x0 : Int} {x1 : Int} {x2 : Int} (h0 : x0 ≤ 12) (h1 : x1 ≤ 12) (h2 : x1 < x2) (h3 : x2 < x0) : x1 < ((12 : Nat) : Int) := by omega
theorem om_296 {x0 : Int} {x1 : Int} (h0 : 0 ≤ x0) (h1 : x0 < x1) : - 2147483648 ≤ x1 + 1 := by omega
theorem om_297 {x0 : Int} (h0 : x0 ≤ 13) : x0 + 1 ≤ 2147483647 := by omega
theorem om_298 {x0 : Int} {x1 : Int} {x2 : Int} (h0 : x0 < x1) (h1 : x2 = x1 + 1) : x0 < x2 := by omega
theorem om_299 {x0 : Int} {x1 : Int} {x2 : Int} (h0 : x0 ≤ 12) (h1 : x1 ≤ 13) (h2 : x1 < x0) (h3 : x2 = x1 + 1) : x2 ≤ 13 := by omega
theorem om_300 {x0 : Int} {x1 : Int} {x2 : Int} (h0 : 0 ≤ x0) (h1 : x0 < x1) (h2 : x2 = x1 + 1) : 0 ≤ x2 := by omega
theorem om_301 {x0 : Int} {x1 : Int} (h0 : x0 = x1 + 1) : x1 < x0 := by omega
theorem om_302 {x0 : Int} {x1 : Int} (h0 : x0 ≤ 12) (h1 : x1 = x0 + 1) : x1 ≤ 13 := by omega
theorem om_303 {x0 : Int} {x1 : Int} {x2 : Int} {x3 : Int} (h0 : x0 ≤ 6) (h1 : x1 ≤ 6) (h2 : x2 ≤ x1) (h3 : x3 ≤ x0 + x2) : x3 ≤ 12 := by omega
theorem om_304 {x0 : Int} (h0 : x0 ≤ 322) : x0 < ((324 : Nat) : Int) := by omega
theorem om_305 {x0 : Int} {x1 : Int} {x2 : Int} (h0 : x0 ≤ 6) (h1 : x1 ≤ x0) (h2 : x2 < x1) : x2 < ((12 : Nat) : Int) := by omega
theorem om_306 {x0 : Int} (h0 : x0 ≤ 322) : 6 * x0 ≤ 2147483647 := by omega
theorem om_307 {x0 : Int} {x1 : Int} {x2 : Int} {x3 : Int} (h0 : x0 = x1) (h1 : x2 = x0 - 0) (h2 : 0 < x2) (h3 : x3 = x1) : - 2147483648 ≤ x3 - 0 := by omega
theorem om_308 {x0 : Int} {x1 : Int} {x2 : Int} (h0 : x0 ≤ 6) (h1 : x1 ≤ x0) (h2 : x2 < x1) : x2 + 1 ≤ 2147483647 := by omega
theorem om_309 {x0 : Int} (h0 : x0 ≤ 6) : x0 < ((12 : Nat) : Int) := by omega
theorem om_310 {x0 : Int} {x1 : Int} {x2 : Int} {x3 : Int} {x4 : Int} (h0 : x0 ≤ 6) (h1 : x1 ≤ 6) (h2 : x2 ≤ x1) (h3 : x3 ≤ x0 + x2) (h4 : x4 < x3) : x4 < ((12 : Nat) : Int) := by omega
theorem om_311 {x0 : Int} {x1 : Int} {x2 : Int} {x3 : Int} {x4 : Int} (h0 : x0 = x1) (h1 : x2 = x0 - x3) (h2 : 0 < x2) (h3 : x4 = x1) : - 2147483648 ≤ x4 - x3 := by omega
theorem om_312 {x0 : Int} {x1 : Int} {x2 : Int} {x3 : Int} {x4 : Int} (h0 : x0 ≤ 6) (h1 : x1 ≤ 6) (h2 : x2 ≤ x1) (h3 : x3 ≤ x0 + x2) (h4 : x4 < x3) : x4 + 1 ≤ 2147483647 := by omega
theorem om_313 {x0 : Int} {x1 : Int} {x2 : Int} {x3 : Int} (h0 : x0 < 324) (h1 : x1 ≤ 6) (h2 : x2 ≤ x1) (h3 : x3 = 6 * x0) : x3 + x2 ≤ 2147483647 := by omega
theorem om_314 {x0 : Int} {x1 : Int} {x2 : Int} {x3 : Int} {x4 : Int} {x5 : Int} (h0 : x0 < 324) (h1 : x1 ≤ 6) (h2 : x2 = x1) (h3 : x3 < x2) (h4 : x4 = 6 * x0) (h5 : x5 = x4 + x3) : x5 < ((1944 : Nat) : Int) := by omega
theorem om_315 {x0 : Int} {x1 : Int} {x2 : Int} {x3 : Int} {x4 : Int} (h0 : x0 ≤ 6) (h1 : x1 ≤ 6) (h2 : x2 ≤ x0 + x3) (h3 : x4 = x1) (h4 : x3 < x4) : x2 < 12 := by omega
theorem om_316 {x0 : Int} {x1 : Int} (h0 : x0 ≤ 6) (h1 : x1 ≤ x0) : x1 + 1 ≤ 2147483647 := by omega
theorem om_317 {x0 : Int} {x1 : Int} {x2 : Int} {x3 : Int} (h0 : x0 = x1) (h1 : x2 < x0) (h2 : x3 = x2 + 1) : x3 ≤ x1 := by omega
theorem om_318 {x0 : Int} {x1 : Int} {x2 : Int} {x3 : Int} {x4 : Int} (h0 : x0 ≤ x1 + x2) (h1 : x3 ≤ x0 + 1) (h2 : x4 = x2 + 1) : x3 ≤ x1 + x4 := by omega
theorem om_319 {x0 : Int} {x1 : Int} {x2 : Int} (h0 : 0 ≤ x0) (h1 : x1 = x2 + 1) : ( x0 - x1 ) + 1 ≤ x0 - x2 := by omega
theorem om_320 {x0 : Int} {x1 : Int} {x2 : Int} (h0 : x0 = x1) (h1 : x2 < x0) : 0 < x1 - x2 := by omega
theorem om_321 {x0 : Int} {x1 : Int} {x2 : Int} (h0 : x0 ≤ x1) (h1 : x2 ≤ x0) : x2 ≤ x1 + 0 := by omega
theorem om_322 {x0 : Int} {x1 : Int} {x2 : Int} (h0 : x0 ≤ 6) (h1 : x1 ≤ x0) (h2 : x2 ≤ x1) : x2 < 12 := by omega
theorem om_323 {x0 : Int} {x1 : Int} {x2 : Int} {x3 : Int} (h0 : x0 ≤ x1) (h1 : x2 ≤ x0 + 1) (h2 : x3 = x1 + 1) : x2 ≤ x3 := by omega
theorem om_324 {x0 : Int} {x1 : Int} {x2 : Int} (h0 : x0 < x1) (h1 : x2 + 2 * ( x1 - x0 ) - 1 ≤ 319) : x2 + 1 ≤ 2147483647 := by omega
theorem om_325 {x0 : Int} {x1 : Int} {x2 : Int} (h0 : x0 < x1) (h1 : x2 + 2 * ( x1 - x0 ) - 1 ≤ 319) : x2 < ((320 : Nat) : Int) := by omega
theorem om_326 {x0 : Int} {x1 : Int} (h0 : x0 - x1 ≤ 1) : x0 - x1 ≤ 2147483647 := by omega
theorem om_327 {x0 : Int} {x1 : Int} {x2 : Int} (h0 : x0 < x1) (h1 : x2 + 2 * ( x1 - x0 ) - 1 ≤ 319) : x2 < 324 := by omega
theorem om_328 {x0 : Int} {x1 : Int} {x2 : Int} {x3 : Int} (h0 : x0 < x1) (h1 : x1 - x0 ≤ 1) (h2 : x2 = x3 + 1) : x2 = x3 + 2 * ( x1 - x0 ) - 1 := by omega
theorem om_329 {x0 : Int} {x1 : Int} (h0 : x0 - x1 ≤ 2) : x0 - x1 ≤ 2147483647 := by omega
theorem om_330 {x0 : Int} {x1 : Int} (h0 : 0 ≤ x0) (h1 : x0 < x1) : - 2147483648 ≤ x0 + x1 := by omega
theorem om_331 {x0 : Int} {x1 : Int} (h0 : x0 < x1) (h1 : x1 ≤ 160) : x0 + x1 ≤ 2147483647 := by omega
theorem om_332 {x0 : Int} {x1 : Int} {x2 : Int} (h0 : 0 ≤ x0) (h1 : x0 < x1) (h2 : x2 = x0 + x1) : 0 ≤ x2 := by omega
theorem om_333 {x0 : Int} {x1 : Int} {x2 : Int} {x3 : Int} (h0 : x0 < x1) (h1 : x1 ≤ 160) (h2 : x2 = x0 + x1) (h3 : 2 * x3 ≤ x2) : x3 ≤ 160 := by omega
theorem om_334 {x0 : Int} {x1 : Int} {x2 : Int} {x3 : Int} {x4 : Int} {x5 : Int} (h0 : x0 < x1) (h1 : x2 + 2 * ( x1 - x0 ) - 1 ≤ 319) (h2 : x3 = x2 + 1) (h3 : x4 = x0 + x1) (h4 : 2 * x5 ≤ x4) : x3 + 2 * ( x5 - x0 ) - 1 ≤ 319 := by omega
theorem om_335 {x0 : Int} {x1 : Int} {x2 : Int} {x3 : Int} (h0 : x0 - x1 ≤ 2) (h1 : x2 = x1 + x0) (h2 : 2 * x3 ≤ x2) : x3 - x1 ≤ 1 := by omega
theorem om_336 {x0 : Int} {x1 : Int} {x2 : Int} {x3 : Int} (h0 : 0 ≤ x0) (h1 : x0 < x1) (h2 : x2 = x0 + x1) (h3 : x2 ≤ 2 * x3 + 1) : 0 ≤ x3 := by omega
theorem om_337 {x0 : Int} {x1 : Int} {x2 : Int} {x3 : Int} {x4 : Int} {x5 : Int} {x6 : Int} (h0 : x0 < x1) (h1 : 0 ≤ x2) (h2 : x3 = x2 + 1) (h3 : x4 = x0 + x1) (h4 : x4 ≤ 2 * x5 + 1) (h5 : x6 = x3 + 2 * ( x5 - x0 ) - 1) : 0 ≤ x6 := by omega
theorem om_338 {x0 : Int} {x1 : Int} {x2 : Int} {x3 : Int} {x4 : Int} {x5 : Int} (h0 : x0 + 2 * ( x1 - x2 ) - 1 ≤ 319) (h1 : x3 = x0 + 1) (h2 : x4 = x3 + 2 * ( x5 - x2 ) - 1) : x4 + 2 * ( x1 - x5 ) - 1 ≤ 319 := by omega
theorem om_339 {x0 : Int} {x1 : Int} {x2 : Int} (h0 : 0 ≤ x0) (h1 : x1 = x0 + 1) (h2 : x2 = x1) : 0 ≤ x2 := by omega
theorem om_340 {x0 : Int} {x1 : Int} {x2 : Int} {x3 : Int} {x4 : Int} (h0 : x0 < x1) (h1 : x2 + 2 * ( x1 - x0 ) - 1 ≤ 319) (h2 : x3 = x2 + 1) (h3 : x4 = x3) : x4 < 324 := by omega
theorem om_341 {x0 : Int} {x1 : Int} {x2 : Int} {x3 : Int} {x4 : Int} {x5 : Int} {x6 : Int} {x7 : Int} (h0 : x0 < x1) (h1 : 0 ≤ x2) (h2 : x3 = x2 + 1) (h3 : x4 = x0 + x1) (h4 : x4 ≤ 2 * x5 + 1) (h5 : x6 = x3 + 2 * ( x5 - x0 ) - 1) (h6 : x7 = x6) : 0 ≤ x7 := by omega
theorem om_342 {x0 : Int} {x1 : Int} {x2 : Int} {x3 : Int} {x4 : Int} {x5 : Int} {x6 : Int} {x7 : Int} (h0 : x0 < x1) (h1 : x2 + 2 * ( x1 - x0 ) - 1 ≤ 319) (h2 : x3 = x2 + 1) (h3 : x4 = x0 + x1) (h4 : 2 * x5 ≤ x4) (h5 : x6 = x3 + 2 * ( x5 - x0 ) - 1) (h6 : x7 = x6) : x7 < 324 := by omega
theorem om_343 {x0 : Int} {x1 : Int} {x2 : Int} (h0 : x0 < x1) (h1 : x2 + 2 * ( x1 - x0 ) - 1 ≤ 319) : x2 ≤ 322 := by omega
theorem om_344 {x0 : Int} (h0 : x0 ≤ 6) : x0 ≤ 6 := by omega
theorem om_345 {x0 : Int} {x1 : Int} {x2 : Int} {x3 : Int} {x4 : Int} {x5 : Int} {x6 : Int} (h0 : x0 = x1 + 1) (h1 : x2 = x0 + 2 * ( x3 - x4 ) - 1) (h2 : x5 = x2 + 2 * ( x6 - x3 ) - 1) : x5 = x1 + 2 * ( x6 - x4 ) - 1 := by omega
theorem om_346 {x0 : Int} {x1 : Int} (h0 : x0 ≤ 6) (h1 : x1 ≤ x0) : x1 ≤ 6 := by omega
theorem om_347 {x0 : Int} {x1 : Int} {x2 : Int} {x3 : Int} {x4 : Int} (h0 : x0 < x1) (h1 : x2 = x3 + 1) (h2 : x4 = x1 - x0) (h3 : x4 = 1) : x2 = x3 + 2 * ( x1 - x0 ) - 1 := by omega
theorem om_348 {x0 : Int} {x1 : Int} (h0 : x0 - x1 ≤ 4) : x0 - x1 ≤ 2147483647 := by omega
theorem om_349 {x0 : Int} {x1 : Int} {x2 : Int} {x3 : Int} (h0 : x0 - x1 ≤ 4) (h1 : x2 = x1 + x0) (h2 : 2 * x3 ≤ x2) : x3 - x1 ≤ 2 := by omega
theorem om_350 {x0 : Int} {x1 : Int} (h0 : x0 - x1 ≤ 8) : x0 - x1 ≤ 2147483647 := by omega
theorem om_351 {x0 : Int} {x1 : Int} {x2 : Int} {x3 : Int} (h0 : x0 - x1 ≤ 8) (h1 : x2 = x1 + x0) (h2 : 2 * x3 ≤ x2) : x3 - x1 ≤ 4 := by omega
theorem om_352 {x0 : Int} {x1 : Int} (h0 : x0 - x1 ≤ 16) : x0 - x1 ≤ 2147483647 := by omega
theorem om_353 {x0 : Int} {x1 : Int} {x2 : Int} {x3 : Int} (h0 : x0 - x1 ≤ 16) (h1 : x2 = x1 + x0) (h2 : 2 * x3 ≤ x2) : x3 - x1 ≤ 8 := by omega
theorem om_354 {x0 : Int} {x1 : Int} (h0 : x0 - x1 ≤ 32) : x0 - x1 ≤ 2147483647 := by omega
theorem om_355 {x0 : Int} {x1 : Int} {x2 : Int} {x3 : Int} (h0 : x0 - x1 ≤ 32) (h1 : x2 = x1 + x0) (h2 : 2 * x3 ≤ x2) : x3 - x1 ≤ 16 := by omega
theorem om_356 {x0 : Int} {x1 : Int} (h0 : x0 - x1 ≤ 64) : x0 - x1 ≤ 2147483647 := by omega
theorem om_357 {x0 : Int} {x1 : Int} {x2 : Int} {x3 : Int} (h0 : x0 - x1 ≤ 64) (h1 : x2 = x1 + x0) (h2 : 2 * x3 ≤ x2) : x3 - x1 ≤ 32 := by omega
theorem om_358 {x0 : Int} {x1 : Int} (h0 : x0 - x1 ≤ 128) : x0 - x1 ≤ 2147483647 := by omega
theorem om_359 {x0 : Int} {x1 : Int} {x2 : Int} {x3 : Int} (h0 : x0 - x1 ≤ 128) (h1 : x2 = x1 + x0) (h2 : 2 * x3 ≤ x2) : x3 - x1 ≤ 64 := by omega
theorem om_360 {x0 : Int} {x1 : Int} (h0 : x0 - x1 ≤ 256) : x0 - x1 ≤ 2147483647 := by omega
theorem om_361 {x0 : Int} {x1 : Int} {x2 : Int} {x3 : Int} (h0 : x0 - x1 ≤ 256) (h1 : x2 = x1 + x0) (h2 : 2 * x3 ≤ x2) : x3 - x1 ≤ 128 := by omega
theorem om_362 {x0 : Int} {x1 : Int} {x2 : Int} {x3 : Int} {x4 : Int} (h0 : 0 ≤ x0) (h1 : x0 + 2 * ( x1 - x2 ) - 1 ≤ 319) (h2 : x3 = x2 + x1) (h3 : x3 ≤ 2 * x4 + 1) : x1 - x4 ≤ 128 := by omega
theorem om_363 {x0 : Int} (h0 : x0 ≤ 160) : 0 + 2 * ( x0 - 0 ) - 1 ≤ 319 := by omega
theorem om_364 {x0 : Int} (h0 : x0 ≤ 160) : x0 - 0 ≤ 256 := by omega
theorem om_365 {x0 : Int} (h0 : 0 < x0) : 0 ≤ x0 := by omega
theorem om_366 {x0 : Int} {x1 : Int} {x2 : Int} (h0 : x0 < 324) (h1 : x1 ≤ 6) (h2 : x2 = 6 * x0) : x2 + x1 ≤ 2147483647 := by omega
theorem om_367 {x0 : Int} {x1 : Int} (h0 : x0 < 6) (h1 : x1 = x0 + 1) : x1 ≤ 6 := by omega
theorem om_368  : (0 : Int) ≤ 6 := by omega
theorem om_369 {x0 : Int} {x1 : Int} (h0 : x0 ≤ 319) (h1 : x1 ≤ x0) : x1 < ((320 : Nat) : Int) := by omega
theorem om_370 {x0 : Int} {x1 : Int} (h0 : x0 ≤ 319) (h1 : x1 ≤ x0) : x1 + 1 ≤ 2147483647 := by omega
theorem om_371 {x0 : Int} {x1 : Int} {x2 : Int} (h0 : x0 ≤ 319) (h1 : x1 ≤ x0) (h2 : x2 ≤ x1) : x2 < ((320 : Nat) : Int) := by omega
theorem om_372 {x0 : Int} {x1 : Int} {x2 : Int} (h0 : x0 ≤ 319) (h1 : x1 ≤ x0) (h2 : x2 ≤ x1) : x2 + 1 ≤ 2147483647 := by omega
theorem om_373  : (0 : Int) < ((320 : Nat) : Int) := by omega
theorem om_374 {x0 : Int} {x1 : Int} (h0 : x0 = x1) (h1 : x1 < 320) : x0 < 324 := by omega
theorem om_375  : (0 : Int) ≤ 320 := by omega
theorem om_376  : (320 : Int) < 324 := by omega
theorem om_377 {x0 : Int} {x1 : Int} (h0 : 1 ≤ x0) (h1 : x1 = x0 + 1) : 0 ≤ x1 := by omega
theorem om_378 {x0 : Int} (h0 : x0 ≤ 319) : x0 ≤ 320 := by omega
theorem om_379 {x0 : Int} {x1 : Int} (h0 : x0 = x1) (h1 : 0 ≤ x1) : - 2147483648 ≤ x0 - 1 := by omega
theorem om_380 {x0 : Int} {x1 : Int} (h0 : x0 = x1) (h1 : x1 ≤ 6) : x0 - 1 ≤ 2147483647 := by omega
theorem om_381 {x0 : Int} {x1 : Int} (h0 : x0 = x1) (h1 : 0 ≤ x1) : - 2147483648 ≤ x0 + 1 := by omega
theorem om_382 {x0 : Int} {x1 : Int} {x2 : Int} (h0 : x0 = x1) (h1 : x2 = x0 + 1) (h2 : 0 ≤ x1) : 0 ≤ x2 := by omega
theorem om_383 {x0 : Int} (h0 : x0 ≤ 9) : x0 - 1 ≤ 2147483647 := by omega
theorem om_384 {x0 : Int} {x1 : Int} {x2 : Int} (h0 : x0 ≤ 9) (h1 : x1 = x0 - 1) (h2 : x2 ≤ x1) : x2 < ((12 : Nat) : Int) := by omega
theorem om_385 {x0 : Int} {x1 : Int} {x2 : Int} (h0 : x0 < x1) (h1 : x2 = x1 - 1) : - 2147483648 ≤ x2 - x0 := by omega
theorem om_386 {x0 : Int} {x1 : Int} {x2 : Int} (h0 : x0 ≤ 9) (h1 : 0 ≤ x1) (h2 : x2 = x0 - 1) : x2 - x1 ≤ 2147483647 := by omega
theorem om_387 {x0 : Int} {x1 : Int} {x2 : Int} {x3 : Int} (h0 : x0 < x1) (h1 : x2 = x1 - 1) (h2 : x3 = x2 - x0) : 0 ≤ x3 := by omega
theorem om_388 {x0 : Int} {x1 : Int} {x2 : Int} {x3 : Int} (h0 : x0 ≤ 9) (h1 : 0 ≤ x1) (h2 : x2 = x0 - 1) (h3 : x3 = x2 - x1) : x3 < ((12 : Nat) : Int) := by omega
theorem om_389 {x0 : Int} {x1 : Int} (h0 : x0 ≤ 9) (h1 : x1 ≤ x0) : x1 + 1 ≤ 2147483647 := by omega
theorem om_390 {x0 : Int} {x1 : Int} (h0 : x0 ≤ 319) (h1 : x1 ≤ x0) : x1 - 1 ≤ 2147483647 := by omega
theorem om_391 {x0 : Int} {x1 : Int} {x2 : Int} {x3 : Int} (h0 : x0 ≤ 319) (h1 : x1 ≤ x0) (h2 : x2 = x1 - 1) (h3 : x3 ≤ x2) : x3 < ((320 : Nat) : Int) := by omega
theorem om_392 {x0 : Int} {x1 : Int} (h0 : x0 = x1) (h1 : x1 < 320) : x0 < ((320 : Nat) : Int) := by omega
theorem om_393  : (320 : Int) < ((324 : Nat) : Int) := by omega
theorem om_394 {x0 : Int} (h0 : 0 ≤ x0) : - 2147483648 ≤ 1920 + x0 := by omega
theorem om_395 {x0 : Int} {x1 : Int} {x2 : Int} {x3 : Int} (h0 : x0 = x1) (h1 : x1 ≤ 6) (h2 : x2 = x0 - 1) (h3 : x3 ≤ x2) : 1920 + x3 ≤ 2147483647 := by omega
theorem om_396 {x0 : Int} {x1 : Int} (h0 : 0 ≤ x0) (h1 : x1 = 1920 + x0) : 0 ≤ x1 := by omega
theorem om_397 {x0 : Int} {x1 : Int} {x2 : Int} {x3 : Int} {x4 : Int} (h0 : x0 = x1) (h1 : x1 ≤ 6) (h2 : x2 = x0 - 1) (h3 : x3 ≤ x2) (h4 : x4 = 1920 + x3) : x4 < ((1944 : Nat) : Int) := by omega
theorem om_398 {x0 : Int} {x1 : Int} {x2 : Int} (h0 : x0 = x1) (h1 : x1 ≤ 6) (h2 : x2 < x0) : 1920 + x2 ≤ 2147483647 := by omega
theorem om_399 {x0 : Int} {x1 : Int} {x2 : Int} {x3 : Int} (h0 : x0 = x1) (h1 : x1 ≤ 6) (h2 : x2 < x0) (h3 : x3 = 1920 + x2) : x3 < ((1944 : Nat) : Int) := by omega
theorem om_400 {x0 : Int} (h0 : x0 ≤ 0) : x0 < ((160 : Nat) : Int) := by omega
theorem om_401 {x0 : Int} {x1 : Int} {x2 : Int} {x3 : Int} (h0 : x0 ≤ x1) (h1 : x2 - x3 + x1 - x0 ≤ 160) : x2 - x3 ≤ 2147483647 := by omega
theorem om_402 {x0 : Int} {x1 : Int} {x2 : Int} {x3 : Int} {x4 : Int} (h0 : x0 ≤ x1) (h1 : 0 ≤ x2) (h2 : x2 ≤ x3) (h3 : x4 = x1 - x0) : - 2147483648 ≤ x4 + x3 := by omega
theorem om_403 {x0 : Int} {x1 : Int} {x2 : Int} {x3 : Int} {x4 : Int} (h0 : x0 ≤ x1) (h1 : x1 ≤ 160) (h2 : x2 - x3 + x1 - x0 ≤ 160) (h3 : x4 = x2 - x3) : x4 + x1 ≤ 2147483647 := by omega
theorem om_404 {x0 : Int} {x1 : Int} {x2 : Int} {x3 : Int} {x4 : Int} {x5 : Int} (h0 : x0 ≤ x1) (h1 : x2 ≤ x3) (h2 : x4 = x1 - x0) (h3 : x5 = x4 + x3) : - 2147483648 ≤ x5 - x2 := by omega
theorem om_405 {x0 : Int} {x1 : Int} {x2 : Int} {x3 : Int} {x4 : Int} {x5 : Int} (h0 : x0 - x1 + x2 - x3 ≤ 160) (h1 : x4 = x0 - x1) (h2 : x5 = x4 + x2) : x5 - x3 ≤ 2147483647 := by omega
theorem om_406 {x0 : Int} {x1 : Int} {x2 : Int} {x3 : Int} {x4 : Int} {x5 : Int} (h0 : x0 ≤ x1 - x2 + x3 - x4) (h1 : x5 = x3 + 1) : x0 ≤ x1 - x2 + x5 - x4 := by omega
theorem om_407 {x0 : Int} {x1 : Int} {x2 : Int} {x3 : Int} {x4 : Int} {x5 : Int} (h0 : x0 - x1 + x2 - x3 ≤ 160) (h1 : x4 ≤ x0 - x1 + x5 - x3) (h2 : x5 < x2) : x4 < 160 := by omega
theorem om_408 {x0 : Int} {x1 : Int} {x2 : Int} {x3 : Int} {x4 : Int} {x5 : Int} {x6 : Int} (h0 : x0 ≤ x1 - x2 + x3 - x4) (h1 : x5 = x0 + 1) (h2 : x6 = x3 + 1) : x5 ≤ x1 - x2 + x6 - x4 := by omega
theorem om_409 {x0 : Int} {x1 : Int} {x2 : Int} {x3 : Int} {x4 : Int} (h0 : x0 ≤ x1) (h1 : x2 ≤ x0 - x3) : x2 ≤ x1 - x3 + x4 - x4 := by omega
theorem om_410 {x0 : Int} {x1 : Int} {x2 : Int} {x3 : Int} (h0 : x0 ≤ x1 - x2) (h1 : x3 = x1 + 1) : x0 ≤ x3 - x2 := by omega
theorem om_411 {x0 : Int} {x1 : Int} {x2 : Int} {x3 : Int} {x4 : Int} {x5 : Int} (h0 : x0 ≤ x1) (h1 : x2 - x3 + x1 - x0 ≤ 160) (h2 : x4 ≤ x5 - x3) (h3 : x5 < x2) : x4 < 160 := by omega
theorem om_412 {x0 : Int} {x1 : Int} {x2 : Int} {x3 : Int} {x4 : Int} (h0 : x0 ≤ x1 - x2) (h1 : x3 = x0 + 1) (h2 : x4 = x1 + 1) : x3 ≤ x4 - x2 := by omega
theorem om_413 {x0 : Int}  : 0 ≤ x0 - x0 := by omega
theorem om_414 {x0 : Int} {x1 : Int} (h0 : x0 < x1) : x0 ≤ x1 := by omega
theorem om_415  : (0 : Int) ≤ 160 := by omega
theorem om_416 {x0 : Int} {x1 : Int} {x2 : Int} (h0 : x0 ≤ 160) (h1 : 0 ≤ x1) (h2 : x2 ≤ x0) : x2 - x1 + 0 - 0 ≤ 160 := by omega
theorem om_417 {x0 : Int} {x1 : Int} {x2 : Int} {x3 : Int} {x4 : Int} (h0 : x0 ≤ 160) (h1 : x1 ≤ x0) (h2 : 0 ≤ x2) (h3 : x3 ≤ x4) : x1 - x4 + x3 - x2 ≤ 160 := by omega
theorem om_418 {x0 : Int} {x1 : Int} {x2 : Int} {x3 : Int} {x4 : Int} (h0 : x0 ≤ 160) (h1 : 0 ≤ x1) (h2 : x2 ≤ x0) (h3 : x3 ≤ x4) : x3 - x1 + x2 - x4 ≤ 160 := by omega
theorem om_420 {x0 : Int} {x1 : Int} {x2 : Int} (h0 : x0 = x1 - x2) (h1 : x0 ≤ 64) : x1 - x2 + 0 - 0 ≤ 160 := by omega
theorem om_421 {x0 : Int} (h0 : x0 ≤ 7) : x0 + 1 ≤ 2147483647 := by omega
theorem om_422 {x0 : Int} {x1 : Int} (h0 : x0 ≤ 6) (h1 : x1 = x0 + 1) : x1 ≤ 7 := by omega
theorem om_423  : (1 : Int) ≤ 7 := by omega
theorem om_424 {x0 : Int} {x1 : Int} (h0 : x0 ≤ 319) (h1 : x1 < x0) : x1 < ((324 : Nat) : Int) := by omega
theorem om_425 {x0 : Int} {x1 : Int} (h0 : x0 ≤ 319) (h1 : x1 < x0) : x1 < ((320 : Nat) : Int) := by omega
theorem om_426 {x0 : Int} {x1 : Int} (h0 : x0 ≤ 319) (h1 : x1 < x0) : 6 * x1 ≤ 2147483647 := by omega
theorem om_427 {x0 : Int} {x1 : Int} {x2 : Int} {x3 : Int} {x4 : Int} {x5 : Int} (h0 : x0 ≤ 319) (h1 : x1 < x0) (h2 : x2 = x3) (h3 : x3 ≤ 6) (h4 : x4 < x2) (h5 : x5 = 6 * x1) : x5 + x4 ≤ 2147483647 := by omega
theorem om_428 {x0 : Int} {x1 : Int} {x2 : Int} {x3 : Int} {x4 : Int} {x5 : Int} {x6 : Int} (h0 : x0 ≤ 319) (h1 : x1 < x0) (h2 : x2 = x3) (h3 : x3 ≤ 6) (h4 : x4 < x2) (h5 : x5 = 6 * x1) (h6 : x6 = x5 + x4) : x6 < ((1944 : Nat) : Int) := by omega
theorem om_429 {x0 : Int} {x1 : Int} {x2 : Int} {x3 : Int} {x4 : Int} {x5 : Int} {x6 : Int} (h0 : x0 ≤ 319) (h1 : x1 < x0) (h2 : x2 = x3) (h3 : x3 ≤ 6) (h4 : x4 < x2) (h5 : x5 = 6 * x1) (h6 : x6 = x5 + x4) : x6 < ((1920 : Nat) : Int) := by omega
theorem om_430 {x0 : Int} {x1 : Int} {x2 : Int} (h0 : x0 ≤ 160) (h1 : x1 ≤ x0) (h2 : x2 < x1) : x2 < ((160 : Nat) : Int) := by omega
theorem om_431 {x0 : Int} {x1 : Int} {x2 : Int} (h0 : x0 < x1) (h1 : x2 = x1 - x0) : 0 ≤ x2 := by omega
theorem om_432 {x0 : Int} {x1 : Int} (h0 : 0 ≤ x0) (h1 : 0 ≤ x1) : - 2147483648 ≤ x0 + x1 := by omega
theorem om_433 {x0 : Int} {x1 : Int} {x2 : Int} {x3 : Int} (h0 : x0 ≤ 160) (h1 : x1 < x2) (h2 : x2 ≤ x0) (h3 : 2 * x3 ≤ x2 - x1) : x1 + x3 ≤ 2147483647 := by omega
theorem om_434 {x0 : Int} {x1 : Int} {x2 : Int} {x3 : Int} (h0 : 0 ≤ x0) (h1 : x0 < x1) (h2 : 2 * x2 ≤ x1 - x0) (h3 : x3 = x1 - 1) : - 2147483648 ≤ x3 - x2 := by omega
theorem om_435 {x0 : Int} {x1 : Int} {x2 : Int} {x3 : Int} (h0 : x0 ≤ 160) (h1 : x1 ≤ x0) (h2 : 0 ≤ x2) (h3 : x3 = x1 - 1) : x3 - x2 ≤ 2147483647 := by omega
theorem om_436 {x0 : Int} {x1 : Int} {x2 : Int} (h0 : 0 ≤ x0) (h1 : 0 ≤ x1) (h2 : x2 = x0 + x1) : 0 ≤ x2 := by omega
theorem om_437 {x0 : Int} {x1 : Int} {x2 : Int} {x3 : Int} {x4 : Int} {x5 : Int} {x6 : Int} (h0 : x0 ≤ 160) (h1 : x1 < x2) (h2 : x2 ≤ x0) (h3 : 2 * x3 ≤ x2 - x1) (h4 : x4 = x2 - x1) (h5 : 2 * x5 ≤ x4) (h6 : x3 < x5) (h7 : x6 = x1 + x3) : x6 < 160 := by omega
theorem om_438 {x0 : Int} {x1 : Int} {x2 : Int} {x3 : Int} {x4 : Int} {x5 : Int} {x6 : Int} (h0 : 0 ≤ x0) (h1 : x0 < x1) (h2 : 2 * x2 ≤ x1 - x0) (h3 : x3 = x1 - x0) (h4 : 2 * x4 ≤ x3) (h5 : x2 < x4) (h6 : x5 = x1 - 1) (h7 : x6 = x5 - x2) : 0 ≤ x6 := by omega
theorem om_439 {x0 : Int} {x1 : Int} {x2 : Int} {x3 : Int} {x4 : Int} (h0 : x0 ≤ 160) (h1 : x1 ≤ x0) (h2 : 0 ≤ x2) (h3 : x3 = x1 - 1) (h4 : x4 = x3 - x2) : x4 < 160 := by omega
theorem om_440 {x0 : Int} {x1 : Int} {x2 : Int} {x3 : Int} {x4 : Int} {x5 : Int} (h0 : x0 = x1 - x2) (h1 : 2 * x3 ≤ x0) (h2 : x4 < x3) (h3 : x5 = x4 + 1) : 2 * x5 ≤ x1 - x2 := by omega
theorem om_441 {x0 : Int} {x1 : Int} {x2 : Int} {x3 : Int} {x4 : Int} (h0 : x0 ≤ 160) (h1 : 0 ≤ x1) (h2 : x2 ≤ x0) (h3 : 2 * x3 ≤ x2 - x1) (h4 : x3 ≤ 160) (h5 : x4 = x3 + 1) : x4 ≤ 160 := by omega
theorem om_442 {x0 : Int} {x1 : Int} {x2 : Int} {x3 : Int} (h0 : x0 = x1 + 1) : ( x2 - x3 - 2 * x0 ) + 1 ≤ x2 - x3 - 2 * x1 := by omega
theorem om_443 {x0 : Int} {x1 : Int} {x2 : Int} {x3 : Int} {x4 : Int} (h0 : 2 * x0 ≤ x1 - x2) (h1 : x3 = x1 - x2) (h2 : 2 * x4 ≤ x3) (h3 : x0 < x4) : 0 < x1 - x2 - 2 * x0 := by omega
theorem om_444 {x0 : Int} {x1 : Int} (h0 : x0 < x1) : 2 * 0 ≤ x1 - x0 := by omega
theorem om_445 {x0 : Int} {x1 : Int} (h0 : 0 ≤ x0) (h1 : x1 ≤ 160) : x1 - x0 ≤ 2147483647 := by omega
theorem om_446  : (0 : Int) < 324 := by omega
theorem om_447 {x0 : Int} {x1 : Int} (h0 : 0 ≤ x0) (h1 : x0 ≤ x1) : - 2147483648 ≤ x0 + x1 := by omega
theorem om_448 {x0 : Int} {x1 : Int} (h0 : x0 ≤ x1) (h1 : x1 ≤ 160) : x0 + x1 ≤ 2147483647 := by omega
theorem om_449 {x0 : Int} {x1 : Int} {x2 : Int} (h0 : 0 ≤ x0) (h1 : x0 ≤ x1) (h2 : x2 = x0 + x1) : 0 ≤ x2 := by omega
theorem om_450 {x0 : Int} {x1 : Int} {x2 : Int} {x3 : Int} {x4 : Int} (h0 : x0 ≤ x1) (h1 : x2 = x1 - x0) (h2 : 2 ≤ x2) (h3 : x3 = x0 + x1) (h4 : x3 ≤ 2 * x4 + 1) : x0 ≤ x4 := by omega
theorem om_451 {x0 : Int} {x1 : Int} {x2 : Int} {x3 : Int} (h0 : x0 ≤ x1) (h1 : x1 ≤ 160) (h2 : x2 = x0 + x1) (h3 : 2 * x3 ≤ x2) : x3 ≤ 160 := by omega
theorem om_452 {x0 : Int} {x1 : Int} {x2 : Int} {x3 : Int} {x4 : Int} (h0 : 0 ≤ x0) (h1 : x0 ≤ x1) (h2 : x2 = x1 - x0) (h3 : 2 ≤ x2) (h4 : x3 = x0 + x1) (h5 : x3 ≤ 2 * x4 + 1) : 0 ≤ x4 := by omega
theorem om_453 {x0 : Int} {x1 : Int} {x2 : Int} {x3 : Int} (h0 : x0 ≤ x1) (h1 : x2 = x0 + x1) (h2 : 2 * x3 ≤ x2) : x3 ≤ x1 := by omega
theorem om_454 {x0 : Int} (h0 : 0 ≤ x0) : - 2147483648 ≤ 1 + x0 := by omega
theorem om_455 {x0 : Int} (h0 : x0 ≤ 1) : 1 + x0 ≤ 2147483647 := by omega
theorem om_456 {x0 : Int} (h0 : x0 ≤ 2) : 1 + x0 ≤ 2147483647 := by omega
theorem om_457 {x0 : Int} (h0 : x0 ≤ 3) : 1 + x0 ≤ 2147483647 := by omega
theorem om_458 {x0 : Int} (h0 : x0 ≤ 4) : 1 + x0 ≤ 2147483647 := by omega
theorem om_459 {x0 : Int} (h0 : x0 ≤ 5) : 1 + x0 ≤ 2147483647 := by omega
theorem om_460 {x0 : Int} (h0 : x0 ≤ 6) : 1 + x0 ≤ 2147483647 := by omega
theorem om_461 {x0 : Int} (h0 : x0 ≤ 7) : 1 + x0 ≤ 2147483647 := by omega
theorem om_462 {x0 : Int} {x1 : Int} {x2 : Int} {x3 : Int} (h0 : 0 ≤ x0) (h1 : x1 ≤ 160) (h2 : x1 - x0 ≤ 256) (h3 : x2 = x0 + x1) (h4 : x2 ≤ 2 * x3 + 1) : x1 - x3 ≤ 128 := by omega
theorem om_463 {x0 : Int} (h0 : x0 ≤ 8) : 1 + x0 ≤ 2147483647 := by omega
theorem om_464 {x0 : Int} {x1 : Int} {x2 : Int} {x3 : Int} {x4 : Int} (h0 : 0 ≤ x0) (h1 : x1 = x0 + 1) (h2 : x2 = x1 + 1) (h3 : x3 = x2 + 1) (h4 : x4 = x3 + 1) : 0 ≤ x4 := by omega
theorem om_465 {x0 : Int} {x1 : Int} {x2 : Int} {x3 : Int} {x4 : Int} (h0 : x0 ≤ 160) (h1 : x1 < x2) (h2 : x2 ≤ x0) (h3 : x3 + x4 = x1 + x2 - 1) (h4 : x3 < x4) : x3 < 160 := by omega
theorem om_466 {x0 : Int} {x1 : Int} {x2 : Int} {x3 : Int} (h0 : 0 ≤ x0) (h1 : x0 < x1) (h2 : x2 + x3 = x0 + x1 - 1) (h3 : - 1 ≤ x3) (h4 : x2 < x3) : 0 ≤ x3 := by omega
theorem om_467 {x0 : Int} {x1 : Int} {x2 : Int} {x3 : Int} {x4 : Int} (h0 : x0 ≤ 160) (h1 : x1 ≤ x0) (h2 : x2 ≤ x3) (h3 : x3 + x4 = x2 + x1 - 1) : x4 < 160 := by omega
theorem om_468 {x0 : Int} {x1 : Int} {x2 : Int} {x3 : Int} {x4 : Int} (h0 : x0 ≤ 160) (h1 : x1 < x2) (h2 : x2 ≤ x0) (h3 : x3 + x4 = x1 + x2 - 1) (h4 : x3 < x4) : x3 + 1 ≤ 2147483647 := by omega
theorem om_469 {x0 : Int} {x1 : Int} {x2 : Int} {x3 : Int} {x4 : Int} (h0 : x0 ≤ 160) (h1 : x1 ≤ x0) (h2 : x2 ≤ x3) (h3 : x3 + x4 = x2 + x1 - 1) : x4 + ( - 1 ) ≤ 2147483647 := by omega
theorem om_470 {x0 : Int} {x1 : Int} {x2 : Int} {x3 : Int} {x4 : Int} {x5 : Int} (h0 : x0 + x1 = x2 + x3 - 1) (h1 : x4 = x0 + 1) (h2 : x5 = x1 + ( - 1 )) : x4 + x5 = x2 + x3 - 1 := by omega
theorem om_471 {x0 : Int} {x1 : Int} {x2 : Int} {x3 : Int} (h0 : x0 < x1) (h1 : x2 = x0 + 1) (h2 : x3 = x1 + ( - 1 )) : x2 ≤ x3 + 1 := by omega
theorem om_472 {x0 : Int} {x1 : Int} {x2 : Int} {x3 : Int} {x4 : Int} (h0 : 0 ≤ x0) (h1 : x0 < x1) (h2 : x2 + x3 = x0 + x1 - 1) (h3 : - 1 ≤ x3) (h4 : x2 < x3) (h5 : x4 = x3 + ( - 1 )) : - 1 ≤ x4 := by omega
theorem om_473 {x0 : Int} {x1 : Int} {x2 : Int} (h0 : x0 = x1 - 1) : x2 + x0 = x2 + x1 - 1 := by omega
theorem om_474 {x0 : Int} {x1 : Int} {x2 : Int} (h0 : x0 < x1) (h1 : x2 = x1 - 1) : x0 ≤ x2 + 1 := by omega
theorem om_475 {x0 : Int} {x1 : Int} (h0 : x0 = x1) (h1 : 0 ≤ x0) : 0 ≤ x1 := by omega
theorem om_476 {x0 : Int} {x1 : Int} {x2 : Int} (h0 : x0 = x1) (h1 : x1 ≤ 6) (h2 : x2 < x0) : x2 < ((12 : Nat) : Int) := by omega
theorem om_496 {x0 : Int} {x1 : Int} (h0 : x0 ≤ 13) (h1 : x1 ≤ x0) : x1 - 1 ≤ 2147483647 := by omega
theorem om_497 {x0 : Int} {x1 : Int} {x2 : Int} {x3 : Int} (h0 : x0 ≤ 12) (h1 : x1 ≤ 13) (h2 : x1 < x0) (h3 : x2 ≤ x1) (h4 : x3 = x2 - 1) : x3 < 12 := by omega
theorem om_498 {x0 : Int} {x1 : Int} (h0 : x0 ≤ 13) (h1 : x1 ≤ x0) : x1 + ( - 1 ) ≤ 2147483647 := by omega
theorem om_499  : (1 : Int) ≤ 13 := by omega
theorem om_500 {x0 : Int} {x1 : Int} {x2 : Int} {x3 : Int} (h0 : x0 < 319) (h1 : x1 ≤ 6) (h2 : x2 = x0 * 6) (h3 : x3 ≤ x1) : x2 + x3 ≤ 2147483647 := by omega
theorem om_501 {x0 : Int} {x1 : Int} {x2 : Int} {x3 : Int} {x4 : Int} {x5 : Int} (h0 : x0 < 319) (h1 : x1 ≤ 6) (h2 : x2 = x0 * 6) (h3 : x3 = x1) (h4 : x4 < x3) (h5 : x5 = x2 + x4) : x5 < ((1914 : Nat) : Int) := by omega
theorem om_502 {x0 : Int}  : x0 ≤ x0 + 0 := by omega
theorem om_503  : (0 : Int) < 12 := by omega
theorem om_504 {x0 : Int} {x1 : Int} {x2 : Int} {x3 : Int} (h0 : x0 ≤ 160) (h1 : x1 = 2 * x0) (h2 : x2 = x1 - 1) (h3 : x3 ≤ x2) : x3 + 1 ≤ 2147483647 := by omega
theorem om_531 {x0 : Int} {x1 : Int} (h0 : x0 ≤ x1) (h1 : x1 ≤ 999) : x0 ≤ 999 := by omega
theorem om_558 {x0 : Int} {x1 : Int} (h0 : x0 ≤ 6) (h1 : x1 < x0) : x1 < ((12 : Nat) : Int) := by omega
theorem om_559 {x0 : Int} {x1 : Int} (h0 : x0 ≤ 6) (h1 : x1 ≤ x0) : x1 < ((12 : Nat) : Int) := by omega
theorem om_560 {x0 : Int} {x1 : Int} {x2 : Int} {x3 : Int} (h0 : x0 ≤ 6) (h1 : x1 ≤ 6) (h2 : x2 ≤ x0 + x3) (h3 : x3 < x1) : x2 < 12 := by omega
theorem om_561 {x0 : Int} {x1 : Int} {x2 : Int} {x3 : Int} (h0 : x0 < x1) (h1 : x2 - x3 + x1 - x0 ≤ 320) : x2 - x3 ≤ 2147483647 := by omega
theorem om_562 {x0 : Int} {x1 : Int} {x2 : Int} {x3 : Int} {x4 : Int} (h0 : x0 < x1) (h1 : 0 ≤ x2) (h2 : x2 < x3) (h3 : x4 = x1 - x0) : - 2147483648 ≤ x4 + x3 := by omega
theorem om_563 {x0 : Int} {x1 : Int} {x2 : Int} {x3 : Int} {x4 : Int} {x5 : Int} (h0 : x0 ≤ 160) (h1 : x1 ≤ x0) (h2 : x2 ≤ x0) (h3 : x1 - x3 + x2 - x4 ≤ 320) (h4 : x4 ≤ x3) (h5 : x5 = x1 - x3) : x5 + x2 ≤ 2147483647 := by omega
theorem om_564 {x0 : Int} {x1 : Int} {x2 : Int} {x3 : Int} {x4 : Int} {x5 : Int} (h0 : x0 < x1) (h1 : x2 < x3) (h2 : x4 = x1 - x0) (h3 : x5 = x4 + x3) : - 2147483648 ≤ x5 - x2 := by omega
theorem om_565 {x0 : Int} {x1 : Int} {x2 : Int} {x3 : Int} {x4 : Int} {x5 : Int} (h0 : x0 - x1 + x2 - x3 ≤ 320) (h1 : x4 = x0 - x1) (h2 : x5 = x4 + x2) : x5 - x3 ≤ 2147483647 := by omega
theorem om_566 {x0 : Int} {x1 : Int} {x2 : Int} {x3 : Int} {x4 : Int} {x5 : Int} (h0 : x0 ≤ 160) (h1 : x1 < x2) (h2 : x2 ≤ x0) (h3 : x3 - x4 + x2 - x1 ≤ 320) (h4 : x5 = x3 - x4) : x5 + x2 ≤ 2147483647 := by omega
theorem om_567 {x0 : Int} {x1 : Int} {x2 : Int} {x3 : Int} {x4 : Int} (h0 : x0 ≤ 160) (h1 : 0 ≤ x1) (h2 : x2 ≤ x0) (h3 : 0 ≤ x3) (h4 : x4 ≤ x0) : x2 - x1 + x4 - x3 ≤ 320 := by omega


abbrev wsX00 : List Cond := u_ws RX0 TX0 2
abbrev cX0_oftenIn : ByteArray := prog_2_method_8_code
def yX0_oftenIn : MethodName := ⟨RX0, "oftenIn", "(III)I"⟩
abbrev wsX50 : List Cond := u_ws RX5 TX5 30
abbrev cX5_times : ByteArray := prog_7_method_33_code
def yX5_times : MethodName := ⟨RX5, "times", "(III)I"⟩
def wsX0_oftenIn : List Cond := .code yX0_oftenIn cX0_oftenIn 6 (some .int) :: ([.fieldLink RX0 9 "MajorityIndex$Row" "cell" "[I"] ++ wsX00)
def wsX5_times : List Cond := .code yX5_times cX5_times 6 (some .int) :: ([.fieldLink RX5 7 "MajorityIndexModel" "row" "[I"] ++ wsX50)
def dt_cX0_oftenIn_0 : List (Nat × Nat × Nat × Nat) := [(0, 3, 0, 0), (1, 54, 1, 4), (3, 28, 0, 0), (4, 54, 1, 5), (6, 21, 1, 5), (8, 29, 0, 0), (9, 162, 2, 23), (12, 42, 0, 0), (13, 180, 2, 9), (16, 21, 1, 5), (18, 46, 0, 0), (19, 27, 0, 0), (20, 160, 2, 6), (23, 132, 2, 1025), (26, 132, 2, 1281), (29, 167, 2, 65513), (32, 21, 1, 4), (34, 172, 0, 0)]
theorem da_cX0_oftenIn_0 : fw dt_cX0_oftenIn_0 0 cX0_oftenIn.data.toList = true := by decide +kernel
theorem dX0_oftenIn_0 : decode cX0_oftenIn 0 = .ok (.iconst 0, 1) := fo_3 (fw_get da_cX0_oftenIn_0 0 rfl)
theorem dX0_oftenIn_1 : decode cX0_oftenIn 1 = .ok (.istore 4, 2) := fo_54 (fw_get da_cX0_oftenIn_0 1 rfl)
theorem dX0_oftenIn_3 : decode cX0_oftenIn 3 = .ok (.iload_n 2, 1) := fo_28 (fw_get da_cX0_oftenIn_0 2 rfl)
theorem dX0_oftenIn_4 : decode cX0_oftenIn 4 = .ok (.istore 5, 2) := fo_54 (fw_get da_cX0_oftenIn_0 3 rfl)
theorem dX0_oftenIn_6 : decode cX0_oftenIn 6 = .ok (.iload 5, 2) := fo_21 (fw_get da_cX0_oftenIn_0 4 rfl)
theorem dX0_oftenIn_8 : decode cX0_oftenIn 8 = .ok (.iload_n 3, 1) := fo_29 (fw_get da_cX0_oftenIn_0 5 rfl)
theorem dX0_oftenIn_9 : decode cX0_oftenIn 9 = .ok (.if_icmp .ge 23, 3) := fo_162 (fw_get da_cX0_oftenIn_0 6 rfl) (by decide +kernel)
theorem dX0_oftenIn_12 : decode cX0_oftenIn 12 = .ok (.aload_n 0, 1) := fo_42 (fw_get da_cX0_oftenIn_0 7 rfl)
theorem dX0_oftenIn_13 : decode cX0_oftenIn 13 = .ok (.getfield 9, 3) := fo_180 (fw_get da_cX0_oftenIn_0 8 rfl)
theorem dX0_oftenIn_16 : decode cX0_oftenIn 16 = .ok (.iload 5, 2) := fo_21 (fw_get da_cX0_oftenIn_0 9 rfl)
theorem dX0_oftenIn_18 : decode cX0_oftenIn 18 = .ok (.iaload, 1) := fo_46 (fw_get da_cX0_oftenIn_0 10 rfl)
theorem dX0_oftenIn_19 : decode cX0_oftenIn 19 = .ok (.iload_n 1, 1) := fo_27 (fw_get da_cX0_oftenIn_0 11 rfl)
theorem dX0_oftenIn_20 : decode cX0_oftenIn 20 = .ok (.if_icmp .ne 6, 3) := fo_160 (fw_get da_cX0_oftenIn_0 12 rfl) (by decide +kernel)
theorem dX0_oftenIn_23 : decode cX0_oftenIn 23 = .ok (.iinc 4 1, 3) := fo_132 (fw_get da_cX0_oftenIn_0 13 rfl) rfl (by decide +kernel)
theorem dX0_oftenIn_26 : decode cX0_oftenIn 26 = .ok (.iinc 5 1, 3) := fo_132 (fw_get da_cX0_oftenIn_0 14 rfl) rfl (by decide +kernel)
theorem dX0_oftenIn_29 : decode cX0_oftenIn 29 = .ok (.goto (-23), 3) := fo_167 (fw_get da_cX0_oftenIn_0 15 rfl) (by decide +kernel)
theorem dX0_oftenIn_32 : decode cX0_oftenIn 32 = .ok (.iload 4, 2) := fo_21 (fw_get da_cX0_oftenIn_0 16 rfl)
theorem dX0_oftenIn_34 : decode cX0_oftenIn 34 = .ok (.ireturn, 1) := fo_172 (fw_get da_cX0_oftenIn_0 17 rfl)
def dt_cX5_times_0 : List (Nat × Nat × Nat × Nat) := [(0, 3, 0, 0), (1, 54, 1, 4), (3, 28, 0, 0), (4, 54, 1, 5), (6, 21, 1, 5), (8, 29, 0, 0), (9, 162, 2, 23), (12, 42, 0, 0), (13, 180, 2, 7), (16, 21, 1, 5), (18, 46, 0, 0), (19, 27, 0, 0), (20, 160, 2, 6), (23, 132, 2, 1025), (26, 132, 2, 1281), (29, 167, 2, 65513), (32, 21, 1, 4), (34, 172, 0, 0)]
theorem da_cX5_times_0 : fw dt_cX5_times_0 0 cX5_times.data.toList = true := by decide +kernel
theorem dX5_times_0 : decode cX5_times 0 = .ok (.iconst 0, 1) := fo_3 (fw_get da_cX5_times_0 0 rfl)
theorem dX5_times_1 : decode cX5_times 1 = .ok (.istore 4, 2) := fo_54 (fw_get da_cX5_times_0 1 rfl)
theorem dX5_times_3 : decode cX5_times 3 = .ok (.iload_n 2, 1) := fo_28 (fw_get da_cX5_times_0 2 rfl)
theorem dX5_times_4 : decode cX5_times 4 = .ok (.istore 5, 2) := fo_54 (fw_get da_cX5_times_0 3 rfl)
theorem dX5_times_6 : decode cX5_times 6 = .ok (.iload 5, 2) := fo_21 (fw_get da_cX5_times_0 4 rfl)
theorem dX5_times_8 : decode cX5_times 8 = .ok (.iload_n 3, 1) := fo_29 (fw_get da_cX5_times_0 5 rfl)
theorem dX5_times_9 : decode cX5_times 9 = .ok (.if_icmp .ge 23, 3) := fo_162 (fw_get da_cX5_times_0 6 rfl) (by decide +kernel)
theorem dX5_times_12 : decode cX5_times 12 = .ok (.aload_n 0, 1) := fo_42 (fw_get da_cX5_times_0 7 rfl)
theorem dX5_times_13 : decode cX5_times 13 = .ok (.getfield 7, 3) := fo_180 (fw_get da_cX5_times_0 8 rfl)
theorem dX5_times_16 : decode cX5_times 16 = .ok (.iload 5, 2) := fo_21 (fw_get da_cX5_times_0 9 rfl)
theorem dX5_times_18 : decode cX5_times 18 = .ok (.iaload, 1) := fo_46 (fw_get da_cX5_times_0 10 rfl)
theorem dX5_times_19 : decode cX5_times 19 = .ok (.iload_n 1, 1) := fo_27 (fw_get da_cX5_times_0 11 rfl)
theorem dX5_times_20 : decode cX5_times 20 = .ok (.if_icmp .ne 6, 3) := fo_160 (fw_get da_cX5_times_0 12 rfl) (by decide +kernel)
theorem dX5_times_23 : decode cX5_times 23 = .ok (.iinc 4 1, 3) := fo_132 (fw_get da_cX5_times_0 13 rfl) rfl (by decide +kernel)
theorem dX5_times_26 : decode cX5_times 26 = .ok (.iinc 5 1, 3) := fo_132 (fw_get da_cX5_times_0 14 rfl) rfl (by decide +kernel)
theorem dX5_times_29 : decode cX5_times 29 = .ok (.goto (-23), 3) := fo_167 (fw_get da_cX5_times_0 15 rfl) (by decide +kernel)
theorem dX5_times_32 : decode cX5_times 32 = .ok (.iload 4, 2) := fo_21 (fw_get da_cX5_times_0 16 rfl)
theorem dX5_times_34 : decode cX5_times 34 = .ok (.ireturn, 1) := fo_172 (fw_get da_cX5_times_0 17 rfl)


def cnt (f : Nat → Int32) (v : Int32) (l : Nat) : Nat → Nat
  | 0 => 0
  | k + 1 => cnt f v l k + (if f (l + k) = v then 1 else 0)
theorem cnt_le (f : Nat → Int32) (v : Int32) (l k : Nat) : cnt f v l k ≤ k := by
  induction k with
  | zero => exact Nat.le_refl 0
  | succ k ih => simp only [cnt]; split <;> omega
theorem cnt_hit {f : Nat → Int32} {v : Int32} {l i i' : Int32} {o : Int} (h0 : 0 ≤ l.toInt) (hi : l.toInt ≤ i.toInt) (h' : i'.toInt = i.toInt + 1) (ho : o = (cnt f v l.toNatClampNeg (i.toInt - l.toInt).toNat : Int)) (hy : f i.toNatClampNeg = v) : o + 1 = (cnt f v l.toNatClampNeg (i'.toInt - l.toInt).toNat : Int) := by
  have e1 : (i'.toInt - l.toInt).toNat = (i.toInt - l.toInt).toNat + 1 := by omega
  have n1 := ki_nat l rfl h0
  have n2 := ki_nat i rfl (by omega)
  have e2 : l.toNatClampNeg + (i.toInt - l.toInt).toNat = i.toNatClampNeg := by omega
  rw [e1, cnt, e2, if_pos hy, ho]
  omega
theorem cnt_miss {f : Nat → Int32} {v : Int32} {l i i' : Int32} {o : Int} (h0 : 0 ≤ l.toInt) (hi : l.toInt ≤ i.toInt) (h' : i'.toInt = i.toInt + 1) (ho : o = (cnt f v l.toNatClampNeg (i.toInt - l.toInt).toNat : Int)) (hy : ¬ f i.toNatClampNeg = v) : o = (cnt f v l.toNatClampNeg (i'.toInt - l.toInt).toNat : Int) := by
  have e1 : (i'.toInt - l.toInt).toNat = (i.toInt - l.toInt).toNat + 1 := by omega
  have n1 := ki_nat l rfl h0
  have n2 := ki_nat i rfl (by omega)
  have e2 : l.toNatClampNeg + (i.toInt - l.toInt).toNat = i.toNatClampNeg := by omega
  rw [e1, cnt, e2, if_neg hy, ho]
  omega

set_option maxHeartbeats 4000000 in
set_option maxRecDepth 100000 in
theorem c_X0_oftenIn (l : Launch) (dC : Nat → ClassId) (dI : Nat → Nat → Nat) (h0 : Nat) (h1 : Nat) (cyI : ClassId) (len : Int32) (f : Nat → Int32) (p0 : Int32) (p1 : Int32) (p2 : Int32) (b1 : 0 ≤ p1.toInt) (b2 : p2.toInt ≤ 160) : Met l yX0_oftenIn wsX0_oftenIn ({ frames := 0, cells := 0, slots := 0, locals := 0 }) (va_Pc [.ref h0, .int p0, .int p1, .int p2] (fun U => va_P (dC, dI) vwCl [kx_0 h0 h1 len, kx_a h1 cyI 160 f] U.heap ∧ va_K (dC, dI) vwCl [(cyI, .int)] U)) (vp_Si (fun r : Int32 => r.toInt = (cnt f p0 p1.toNatClampNeg (p2.toInt - p1.toInt).toNat : Int))) 0 0 (fun _ => False) := by
  refine kx_stS (ws := wsX0_oftenIn) (cc := cX0_oftenIn) (maxL := 6) (ret := (some .int)) (by decide) rfl (Nat.le_of_ble_eq_true rfl) ?_
  intro p e s m below meth c ls hx hb hr hlocks hts hown hml hP hK hl
  have hown : s.vm.findClass RX0 = some m.cls := hown
  have hl : lv_has ls 6 [(0, .ref h0), (1, .int p0), (2, .int p1), (3, .int p2)] := hl
  have hf_9 := hts (.fieldLink RX0 9 "MajorityIndex$Row" "cell" "[I") (List.mem_of_getElem? (i := 1) rfl)
  have hi_0 : ∀ w ∈ u_ws RX0 TX0 2, w ∈ wsX0_oftenIn := fun w h => List.mem_cons_of_mem _ (List.mem_append_right _ h)
  refine lv_iconst (v := 0) hx hb dX0_oftenIn_0 (by decide) ?_
  refine lv_istore (lv' := [(4, .int 0), (0, .ref h0), (1, .int p0), (2, .int p1), (3, .int p2)]) hx hb dX0_oftenIn_1 hl (by decide) rfl (fun ls hl => ?_)
  refine lv_iload_n hx hb dX0_oftenIn_3 rfl (lv_at hl 3 rfl) ?_
  refine lv_istore (lv' := [(5, .int p1), (4, .int 0), (0, .ref h0), (1, .int p0), (2, .int p1), (3, .int p2)]) hx hb dX0_oftenIn_4 hl (by decide) rfl (fun ls hl => ?_)
  have LP1 : ∀ (n : Nat) (oft : Int32) (i : Int32), (p1.toInt ≤ i.toInt) → (i.toInt ≤ p2.toInt ∨ i.toInt = p1.toInt) → (oft.toInt = (cnt f p0 p1.toNatClampNeg (i.toInt - p1.toInt).toNat : Int)) → (p2.toInt - i.toInt).toNat < n → ∀ (ls : Array Slot), lv_has ls 6 [(5, .int i), (4, .int oft), (0, .ref h0), (1, .int p0), (2, .int p1), (3, .int p2)] → W p l e (headSpec wsX0_oftenIn ({ frames := 0, cells := 0, slots := 0, locals := 0 })).room s m ([.ref h0, .int p0, .int p1, .int p2] : List Value).toArray below meth c s.heap [] 0 0 (MQ below (vp_Si (fun r : Int32 => r.toInt = (cnt f p0 p1.toNatClampNeg (p2.toInt - p1.toInt).toNat : Int))) ([.ref h0, .int p0, .int p1, .int p2] : List Value).toArray s 0 0 (fun _ => False)) (F0 m 6 ls []) := by
    intro n
    induction n with
    | zero => intro oft i LP1_h0 LP1_h1 LP1_h2 hn; exact absurd hn (Nat.not_lt_zero _)
    | succ n ih1 =>
      intro oft i LP1_h0 LP1_h1 LP1_h2 hn1 ls hl
      have hle := cnt_le f p0 p1.toNatClampNeg (i.toInt - p1.toInt).toNat
      refine lv_iload hx hb dX0_oftenIn_6 (lv_at hl 0 rfl) ?_
      refine lv_iload_n hx hb dX0_oftenIn_8 rfl (lv_at hl 5 rfl) ?_
      refine lv_icmp_ge (tgt := 32) hx hb dX0_oftenIn_9 (by decide) (fun c_1 => ?_) (fun c_1 => ?_)
      · have i_1 : p2.toInt ≤ i.toInt := kc_le c_1
        refine lv_iload hx hb dX0_oftenIn_32 (lv_at hl 1 rfl) ?_
        exact W.iret (v := oft) hx hb hr (hlocks := hlocks) (fun t ht hW => ⟨oft, rfl, (by (try dsimp only); rw [LP1_h2, show (i.toInt - p1.toInt).toNat = (p2.toInt - p1.toInt).toNat by omega]), ht⟩) (fun q hq => by cases hq) dX0_oftenIn_34
      · have i_1 : i.toInt < p2.toInt := kc_nle c_1
        refine lv_aload_n hx hb dX0_oftenIn_12 rfl (lv_at hl 2 rfl) ?_
        refine va_get (D := (dC, dI)) (ci := 0) (v := .ref h1) (C := RX0) (T := TX0) (N := 2) hx hb hts hi_0 hown hK hP 0 rfl rfl 0 (by decide) hf_9 (fun _ h9 => h9) rfl dX0_oftenIn_13 ?_
        refine lv_iload hx hb dX0_oftenIn_16 (lv_at hl 0 rfl) ?_
        refine va_iald hx hb hK hP 1 0 rfl rfl (ki_in (om_0 b1 LP1_h0) (om_1 b2 i_1)) dX0_oftenIn_18 ?_
        refine lv_topi (fun y_2 ey_2 => ?_)
        have j_2 : y_2.toInt = (f i.toNatClampNeg).toInt := congrArg Int32.toInt ey_2
        refine lv_iload_n hx hb dX0_oftenIn_19 rfl (lv_at hl 3 rfl) ?_
        refine lv_icmp_ne (tgt := 26) hx hb dX0_oftenIn_20 (by decide) (fun c_3 => ?_) (fun c_3 => ?_)
        · have i_3 : ¬ y_2.toInt = p0.toInt := kc_ne c_3
          obtain ⟨x_4, ex_4⟩ : ∃ y : Int32, y = i + 1 := ⟨_, rfl⟩
          have i_4 : x_4.toInt = i.toInt + 1 := ki_add ex_4 rfl rfl (om_2 b1 LP1_h0) (om_3 b2 i_1)
          refine lv_iinc (v := x_4) (lv' := [(5, .int x_4), (4, .int oft), (0, .ref h0), (1, .int p0), (2, .int p1), (3, .int p2)]) hx hb dX0_oftenIn_26 hl (k := 0) rfl (by rw [ex_4]; rfl) (by decide) rfl (fun ls hl => ?_)
          refine lv_goto (tgt := 6) hx hb dX0_oftenIn_29 (by decide) ?_
          exact ih1 oft x_4 (om_4 LP1_h0 i_4) (by omega) (cnt_miss (by omega) LP1_h0 (by omega) LP1_h2 (fun h => c_3 (ey_2.trans h))) (om_mu hn1 (om_5 i_4) (om_6 i_1)) ls (lv_sub hl [0, 1, 2, 3, 4, 5] rfl)
        · have i_3 : y_2.toInt = p0.toInt := kc_eq c_3
          obtain ⟨x_5, ex_5⟩ : ∃ y : Int32, y = oft + 1 := ⟨_, rfl⟩
          have i_5 : x_5.toInt = oft.toInt + 1 := ki_add ex_5 rfl rfl (by omega) (by omega)
          refine lv_iinc (v := x_5) (lv' := [(4, .int x_5), (5, .int i), (0, .ref h0), (1, .int p0), (2, .int p1), (3, .int p2)]) hx hb dX0_oftenIn_23 hl (k := 1) rfl (by rw [ex_5]; rfl) (by decide) rfl (fun ls hl => ?_)
          obtain ⟨x_6, ex_6⟩ : ∃ y : Int32, y = i + 1 := ⟨_, rfl⟩
          have i_6 : x_6.toInt = i.toInt + 1 := ki_add ex_6 rfl rfl (om_2 b1 LP1_h0) (om_3 b2 i_1)
          refine lv_iinc (v := x_6) (lv' := [(5, .int x_6), (4, .int x_5), (0, .ref h0), (1, .int p0), (2, .int p1), (3, .int p2)]) hx hb dX0_oftenIn_26 hl (k := 1) rfl (by rw [ex_6]; rfl) (by decide) rfl (fun ls hl => ?_)
          refine lv_goto (tgt := 6) hx hb dX0_oftenIn_29 (by decide) ?_
          exact ih1 x_5 x_6 (om_4 LP1_h0 i_6) (by omega) (i_5.trans (cnt_hit (by omega) LP1_h0 (by omega) LP1_h2 (ey_2.symm.trans c_3))) (om_mu hn1 (om_5 i_6) (om_6 i_1)) ls (lv_sub hl [0, 1, 2, 3, 4, 5] rfl)
  have k_7 : (0 : Int32).toInt = 0 := rfl
  exact LP1 ((p2.toInt - p1.toInt : Int).toNat + 1) 0 p1 om_7 (by omega) (by rw [show (p1.toInt - p1.toInt).toNat = 0 by omega]; rfl) (Nat.lt_succ_self _) ls (lv_sub hl [0, 1, 2, 3, 4, 5] rfl)

set_option maxHeartbeats 4000000 in
set_option maxRecDepth 100000 in
theorem c_X5_times (l : Launch) (dC : Nat → ClassId) (dI : Nat → Nat → Nat) (h0 : Nat) (g_row : Nat) (g_many : Nat) (g_loss : Nat) (g_less : Nat) (g_voteValue : Nat) (g_voteNumber : Nat) (g_allValue : Nat) (g_allNumber : Nat) (g_nodeL : Nat) (g_nodeR : Nat) (g_part : Nat) (g_wasMany : Nat) (g_wasLoss : Nat) (g_wasValue : Nat) (g_wasNumber : Nat) (g_path : Nat) (g_heavyValue : Nat) (g_heavyTimes : Nat) (g_fewest : Nat) (g_which : Nat) (g_met : Nat) (m_n : Int32) (m_slots : Int32) (m_thrown : Int32) (m_allMany : Int32) (m_nodes : Int32) (m_partMany : Int32) (m_pathMany : Int32) (m_heavyMany : Int32) (m_mostMet : Int32) (cyI : ClassId) (f : Nat → Int32) (p0 : Int32) (p1 : Int32) (p2 : Int32) (b1 : 0 ≤ p1.toInt) (b2 : p2.toInt ≤ 160) : Met l yX5_times wsX5_times ({ frames := 0, cells := 0, slots := 0, locals := 0 }) (va_Pc [.ref h0, .int p0, .int p1, .int p2] (fun U => va_P (dC, dI) vwCl [kx_5 h0 g_row m_n m_slots m_thrown g_many g_loss g_less g_voteValue g_voteNumber g_allValue g_allNumber m_allMany g_nodeL g_nodeR m_nodes g_part m_partMany g_wasMany g_wasLoss g_wasValue g_wasNumber g_path m_pathMany g_heavyValue g_heavyTimes m_heavyMany g_fewest g_which g_met m_mostMet, kx_a g_row cyI 160 f] U.heap ∧ va_K (dC, dI) vwCl [(cyI, .int)] U)) (vp_Si (fun r : Int32 => r.toInt = (cnt f p0 p1.toNatClampNeg (p2.toInt - p1.toInt).toNat : Int))) 0 0 (fun _ => False) := by
  refine kx_stS (ws := wsX5_times) (cc := cX5_times) (maxL := 6) (ret := (some .int)) (by decide) rfl (Nat.le_of_ble_eq_true rfl) ?_
  intro p e s m below meth c ls hx hb hr hlocks hts hown hml hP hK hl
  have hown : s.vm.findClass RX5 = some m.cls := hown
  have hl : lv_has ls 6 [(0, .ref h0), (1, .int p0), (2, .int p1), (3, .int p2)] := hl
  have hf_7 := hts (.fieldLink RX5 7 "MajorityIndexModel" "row" "[I") (List.mem_of_getElem? (i := 1) rfl)
  have hi_5 : ∀ w ∈ u_ws RX5 TX5 30, w ∈ wsX5_times := fun w h => List.mem_cons_of_mem _ (List.mem_append_right _ h)
  refine lv_iconst (v := 0) hx hb dX5_times_0 (by decide) ?_
  refine lv_istore (lv' := [(4, .int 0), (0, .ref h0), (1, .int p0), (2, .int p1), (3, .int p2)]) hx hb dX5_times_1 hl (by decide) rfl (fun ls hl => ?_)
  refine lv_iload_n hx hb dX5_times_3 rfl (lv_at hl 3 rfl) ?_
  refine lv_istore (lv' := [(5, .int p1), (4, .int 0), (0, .ref h0), (1, .int p0), (2, .int p1), (3, .int p2)]) hx hb dX5_times_4 hl (by decide) rfl (fun ls hl => ?_)
  have LP1 : ∀ (n : Nat) (oft : Int32) (i : Int32), (p1.toInt ≤ i.toInt) → (i.toInt ≤ p2.toInt ∨ i.toInt = p1.toInt) → (oft.toInt = (cnt f p0 p1.toNatClampNeg (i.toInt - p1.toInt).toNat : Int)) → (p2.toInt - i.toInt).toNat < n → ∀ (ls : Array Slot), lv_has ls 6 [(5, .int i), (4, .int oft), (0, .ref h0), (1, .int p0), (2, .int p1), (3, .int p2)] → W p l e (headSpec wsX5_times ({ frames := 0, cells := 0, slots := 0, locals := 0 })).room s m ([.ref h0, .int p0, .int p1, .int p2] : List Value).toArray below meth c s.heap [] 0 0 (MQ below (vp_Si (fun r : Int32 => r.toInt = (cnt f p0 p1.toNatClampNeg (p2.toInt - p1.toInt).toNat : Int))) ([.ref h0, .int p0, .int p1, .int p2] : List Value).toArray s 0 0 (fun _ => False)) (F0 m 6 ls []) := by
    intro n
    induction n with
    | zero => intro oft i LP1_h0 LP1_h1 LP1_h2 hn; exact absurd hn (Nat.not_lt_zero _)
    | succ n ih1 =>
      intro oft i LP1_h0 LP1_h1 LP1_h2 hn1 ls hl
      have hle := cnt_le f p0 p1.toNatClampNeg (i.toInt - p1.toInt).toNat
      refine lv_iload hx hb dX5_times_6 (lv_at hl 0 rfl) ?_
      refine lv_iload_n hx hb dX5_times_8 rfl (lv_at hl 5 rfl) ?_
      refine lv_icmp_ge (tgt := 32) hx hb dX5_times_9 (by decide) (fun c_1 => ?_) (fun c_1 => ?_)
      · have i_1 : p2.toInt ≤ i.toInt := kc_le c_1
        refine lv_iload hx hb dX5_times_32 (lv_at hl 1 rfl) ?_
        exact W.iret (v := oft) hx hb hr (hlocks := hlocks) (fun t ht hW => ⟨oft, rfl, (by (try dsimp only); rw [LP1_h2, show (i.toInt - p1.toInt).toNat = (p2.toInt - p1.toInt).toNat by omega]), ht⟩) (fun q hq => by cases hq) dX5_times_34
      · have i_1 : i.toInt < p2.toInt := kc_nle c_1
        refine lv_aload_n hx hb dX5_times_12 rfl (lv_at hl 2 rfl) ?_
        refine va_get (D := (dC, dI)) (ci := 5) (v := .ref g_row) (C := RX5) (T := TX5) (N := 30) hx hb hts hi_5 hown hK hP 0 rfl rfl 0 (by decide) hf_7 (fun _ h9 => h9) rfl dX5_times_13 ?_
        refine lv_iload hx hb dX5_times_16 (lv_at hl 0 rfl) ?_
        refine va_iald hx hb hK hP 1 0 rfl rfl (ki_in (om_0 b1 LP1_h0) (om_1 b2 i_1)) dX5_times_18 ?_
        refine lv_topi (fun y_2 ey_2 => ?_)
        have j_2 : y_2.toInt = (f i.toNatClampNeg).toInt := congrArg Int32.toInt ey_2
        refine lv_iload_n hx hb dX5_times_19 rfl (lv_at hl 3 rfl) ?_
        refine lv_icmp_ne (tgt := 26) hx hb dX5_times_20 (by decide) (fun c_3 => ?_) (fun c_3 => ?_)
        · have i_3 : ¬ y_2.toInt = p0.toInt := kc_ne c_3
          obtain ⟨x_4, ex_4⟩ : ∃ y : Int32, y = i + 1 := ⟨_, rfl⟩
          have i_4 : x_4.toInt = i.toInt + 1 := ki_add ex_4 rfl rfl (om_2 b1 LP1_h0) (om_3 b2 i_1)
          refine lv_iinc (v := x_4) (lv' := [(5, .int x_4), (4, .int oft), (0, .ref h0), (1, .int p0), (2, .int p1), (3, .int p2)]) hx hb dX5_times_26 hl (k := 0) rfl (by rw [ex_4]; rfl) (by decide) rfl (fun ls hl => ?_)
          refine lv_goto (tgt := 6) hx hb dX5_times_29 (by decide) ?_
          exact ih1 oft x_4 (om_4 LP1_h0 i_4) (by omega) (cnt_miss (by omega) LP1_h0 (by omega) LP1_h2 (fun h => c_3 (ey_2.trans h))) (om_mu hn1 (om_5 i_4) (om_6 i_1)) ls (lv_sub hl [0, 1, 2, 3, 4, 5] rfl)
        · have i_3 : y_2.toInt = p0.toInt := kc_eq c_3
          obtain ⟨x_5, ex_5⟩ : ∃ y : Int32, y = oft + 1 := ⟨_, rfl⟩
          have i_5 : x_5.toInt = oft.toInt + 1 := ki_add ex_5 rfl rfl (by omega) (by omega)
          refine lv_iinc (v := x_5) (lv' := [(4, .int x_5), (5, .int i), (0, .ref h0), (1, .int p0), (2, .int p1), (3, .int p2)]) hx hb dX5_times_23 hl (k := 1) rfl (by rw [ex_5]; rfl) (by decide) rfl (fun ls hl => ?_)
          obtain ⟨x_6, ex_6⟩ : ∃ y : Int32, y = i + 1 := ⟨_, rfl⟩
          have i_6 : x_6.toInt = i.toInt + 1 := ki_add ex_6 rfl rfl (om_2 b1 LP1_h0) (om_3 b2 i_1)
          refine lv_iinc (v := x_6) (lv' := [(5, .int x_6), (4, .int x_5), (0, .ref h0), (1, .int p0), (2, .int p1), (3, .int p2)]) hx hb dX5_times_26 hl (k := 1) rfl (by rw [ex_6]; rfl) (by decide) rfl (fun ls hl => ?_)
          refine lv_goto (tgt := 6) hx hb dX5_times_29 (by decide) ?_
          exact ih1 x_5 x_6 (om_4 LP1_h0 i_6) (by omega) (i_5.trans (cnt_hit (by omega) LP1_h0 (by omega) LP1_h2 (ey_2.symm.trans c_3))) (om_mu hn1 (om_5 i_6) (om_6 i_1)) ls (lv_sub hl [0, 1, 2, 3, 4, 5] rfl)
  have k_7 : (0 : Int32).toInt = 0 := rfl
  exact LP1 ((p2.toInt - p1.toInt : Int).toNat + 1) 0 p1 om_7 (by omega) (by rw [show (p1.toInt - p1.toInt).toNat = 0 by omega]; rfl) (Nat.lt_succ_self _) ls (lv_sub hl [0, 1, 2, 3, 4, 5] rfl)



theorem nmX0 : ∀ a, a < 2 → ∀ b, b < 2 → a ≠ b → (TX0 a).2.1 ≠ (TX0 b).2.1 := by decide +kernel
theorem tyX0_ok : ∀ k, k < 2 → parseFieldDescriptor (TX0 k).2.2.1 = some (tyX0 k) := by decide +kernel
abbrev cX0_hasPlace : ByteArray := prog_2_method_2_code
def yX0_hasPlace : MethodName := ⟨RX0, "hasPlace", "(I)Z"⟩
abbrev cX0_hasRange : ByteArray := prog_2_method_3_code
def yX0_hasRange : MethodName := ⟨RX0, "hasRange", "(II)Z"⟩
abbrev cX0_append : ByteArray := prog_2_method_4_code
def yX0_append : MethodName := ⟨RX0, "append", "(I)V"⟩
abbrev cX0_putIn : ByteArray := prog_2_method_5_code
def yX0_putIn : MethodName := ⟨RX0, "putIn", "(II)V"⟩
def wsX0_hasPlace : List Cond := .code yX0_hasPlace cX0_hasPlace 2 (some .boolean) :: ([.fieldLink RX0 15 "MajorityIndex$Row" "length" "I"] ++ wsX00)
def wsX0_hasRange : List Cond := .code yX0_hasRange cX0_hasRange 3 (some .boolean) :: ([.fieldLink RX0 15 "MajorityIndex$Row" "length" "I"] ++ wsX00)
def wsX0_append : List Cond := .code yX0_append cX0_append 2 none :: ([.fieldLink RX0 15 "MajorityIndex$Row" "length" "I", .fieldLink RX0 9 "MajorityIndex$Row" "cell" "[I"] ++ wsX00)
def wsX0_putIn : List Cond := .code yX0_putIn cX0_putIn 4 none :: ([.fieldLink RX0 15 "MajorityIndex$Row" "length" "I", .fieldLink RX0 9 "MajorityIndex$Row" "cell" "[I"] ++ wsX00)
def dt_cX0_hasPlace_0 : List (Nat × Nat × Nat × Nat) := [(0, 27, 0, 0), (1, 155, 2, 15), (4, 27, 0, 0), (5, 42, 0, 0), (6, 180, 2, 15), (9, 162, 2, 7), (12, 4, 0, 0), (13, 167, 2, 4), (16, 3, 0, 0), (17, 172, 0, 0)]
theorem da_cX0_hasPlace_0 : fw dt_cX0_hasPlace_0 0 cX0_hasPlace.data.toList = true := by decide +kernel
theorem dX0_hasPlace_0 : decode cX0_hasPlace 0 = .ok (.iload_n 1, 1) := fo_27 (fw_get da_cX0_hasPlace_0 0 rfl)
theorem dX0_hasPlace_1 : decode cX0_hasPlace 1 = .ok (.ifCond .lt 15, 3) := fo_155 (fw_get da_cX0_hasPlace_0 1 rfl) (by decide +kernel)
theorem dX0_hasPlace_4 : decode cX0_hasPlace 4 = .ok (.iload_n 1, 1) := fo_27 (fw_get da_cX0_hasPlace_0 2 rfl)
theorem dX0_hasPlace_5 : decode cX0_hasPlace 5 = .ok (.aload_n 0, 1) := fo_42 (fw_get da_cX0_hasPlace_0 3 rfl)
theorem dX0_hasPlace_6 : decode cX0_hasPlace 6 = .ok (.getfield 15, 3) := fo_180 (fw_get da_cX0_hasPlace_0 4 rfl)
theorem dX0_hasPlace_9 : decode cX0_hasPlace 9 = .ok (.if_icmp .ge 7, 3) := fo_162 (fw_get da_cX0_hasPlace_0 5 rfl) (by decide +kernel)
theorem dX0_hasPlace_12 : decode cX0_hasPlace 12 = .ok (.iconst 1, 1) := fo_4 (fw_get da_cX0_hasPlace_0 6 rfl)
theorem dX0_hasPlace_13 : decode cX0_hasPlace 13 = .ok (.goto 4, 3) := fo_167 (fw_get da_cX0_hasPlace_0 7 rfl) (by decide +kernel)
theorem dX0_hasPlace_16 : decode cX0_hasPlace 16 = .ok (.iconst 0, 1) := fo_3 (fw_get da_cX0_hasPlace_0 8 rfl)
theorem dX0_hasPlace_17 : decode cX0_hasPlace 17 = .ok (.ireturn, 1) := fo_172 (fw_get da_cX0_hasPlace_0 9 rfl)
def dt_cX0_hasRange_0 : List (Nat × Nat × Nat × Nat) := [(0, 27, 0, 0), (1, 155, 2, 20), (4, 27, 0, 0), (5, 28, 0, 0), (6, 162, 2, 15), (9, 28, 0, 0), (10, 42, 0, 0), (11, 180, 2, 15), (14, 163, 2, 7), (17, 4, 0, 0), (18, 167, 2, 4), (21, 3, 0, 0), (22, 172, 0, 0)]
theorem da_cX0_hasRange_0 : fw dt_cX0_hasRange_0 0 cX0_hasRange.data.toList = true := by decide +kernel
theorem dX0_hasRange_0 : decode cX0_hasRange 0 = .ok (.iload_n 1, 1) := fo_27 (fw_get da_cX0_hasRange_0 0 rfl)
theorem dX0_hasRange_1 : decode cX0_hasRange 1 = .ok (.ifCond .lt 20, 3) := fo_155 (fw_get da_cX0_hasRange_0 1 rfl) (by decide +kernel)
theorem dX0_hasRange_4 : decode cX0_hasRange 4 = .ok (.iload_n 1, 1) := fo_27 (fw_get da_cX0_hasRange_0 2 rfl)
theorem dX0_hasRange_5 : decode cX0_hasRange 5 = .ok (.iload_n 2, 1) := fo_28 (fw_get da_cX0_hasRange_0 3 rfl)
theorem dX0_hasRange_6 : decode cX0_hasRange 6 = .ok (.if_icmp .ge 15, 3) := fo_162 (fw_get da_cX0_hasRange_0 4 rfl) (by decide +kernel)
theorem dX0_hasRange_9 : decode cX0_hasRange 9 = .ok (.iload_n 2, 1) := fo_28 (fw_get da_cX0_hasRange_0 5 rfl)
theorem dX0_hasRange_10 : decode cX0_hasRange 10 = .ok (.aload_n 0, 1) := fo_42 (fw_get da_cX0_hasRange_0 6 rfl)
theorem dX0_hasRange_11 : decode cX0_hasRange 11 = .ok (.getfield 15, 3) := fo_180 (fw_get da_cX0_hasRange_0 7 rfl)
theorem dX0_hasRange_14 : decode cX0_hasRange 14 = .ok (.if_icmp .gt 7, 3) := fo_163 (fw_get da_cX0_hasRange_0 8 rfl) (by decide +kernel)
theorem dX0_hasRange_17 : decode cX0_hasRange 17 = .ok (.iconst 1, 1) := fo_4 (fw_get da_cX0_hasRange_0 9 rfl)
theorem dX0_hasRange_18 : decode cX0_hasRange 18 = .ok (.goto 4, 3) := fo_167 (fw_get da_cX0_hasRange_0 10 rfl) (by decide +kernel)
theorem dX0_hasRange_21 : decode cX0_hasRange 21 = .ok (.iconst 0, 1) := fo_3 (fw_get da_cX0_hasRange_0 11 rfl)
theorem dX0_hasRange_22 : decode cX0_hasRange 22 = .ok (.ireturn, 1) := fo_172 (fw_get da_cX0_hasRange_0 12 rfl)
def dt_cX0_append_0 : List (Nat × Nat × Nat × Nat) := [(0, 42, 0, 0), (1, 180, 2, 15), (4, 17, 2, 160), (7, 162, 2, 23), (10, 42, 0, 0), (11, 180, 2, 9), (14, 42, 0, 0), (15, 180, 2, 15), (18, 27, 0, 0), (19, 79, 0, 0), (20, 42, 0, 0), (21, 89, 0, 0), (22, 180, 2, 15), (25, 4, 0, 0), (26, 96, 0, 0), (27, 181, 2, 15), (30, 177, 0, 0)]
theorem da_cX0_append_0 : fw dt_cX0_append_0 0 cX0_append.data.toList = true := by decide +kernel
theorem dX0_append_0 : decode cX0_append 0 = .ok (.aload_n 0, 1) := fo_42 (fw_get da_cX0_append_0 0 rfl)
theorem dX0_append_1 : decode cX0_append 1 = .ok (.getfield 15, 3) := fo_180 (fw_get da_cX0_append_0 1 rfl)
theorem dX0_append_4 : decode cX0_append 4 = .ok (.sipush 160, 3) := fo_17 (fw_get da_cX0_append_0 2 rfl) (by decide +kernel)
theorem dX0_append_7 : decode cX0_append 7 = .ok (.if_icmp .ge 23, 3) := fo_162 (fw_get da_cX0_append_0 3 rfl) (by decide +kernel)
theorem dX0_append_10 : decode cX0_append 10 = .ok (.aload_n 0, 1) := fo_42 (fw_get da_cX0_append_0 4 rfl)
theorem dX0_append_11 : decode cX0_append 11 = .ok (.getfield 9, 3) := fo_180 (fw_get da_cX0_append_0 5 rfl)
theorem dX0_append_14 : decode cX0_append 14 = .ok (.aload_n 0, 1) := fo_42 (fw_get da_cX0_append_0 6 rfl)
theorem dX0_append_15 : decode cX0_append 15 = .ok (.getfield 15, 3) := fo_180 (fw_get da_cX0_append_0 7 rfl)
theorem dX0_append_18 : decode cX0_append 18 = .ok (.iload_n 1, 1) := fo_27 (fw_get da_cX0_append_0 8 rfl)
theorem dX0_append_19 : decode cX0_append 19 = .ok (.iastore, 1) := fo_79 (fw_get da_cX0_append_0 9 rfl)
theorem dX0_append_20 : decode cX0_append 20 = .ok (.aload_n 0, 1) := fo_42 (fw_get da_cX0_append_0 10 rfl)
theorem dX0_append_21 : decode cX0_append 21 = .ok (.dup, 1) := fo_89 (fw_get da_cX0_append_0 11 rfl)
theorem dX0_append_22 : decode cX0_append 22 = .ok (.getfield 15, 3) := fo_180 (fw_get da_cX0_append_0 12 rfl)
theorem dX0_append_25 : decode cX0_append 25 = .ok (.iconst 1, 1) := fo_4 (fw_get da_cX0_append_0 13 rfl)
theorem dX0_append_26 : decode cX0_append 26 = .ok (.iadd, 1) := fo_96 (fw_get da_cX0_append_0 14 rfl)
theorem dX0_append_27 : decode cX0_append 27 = .ok (.putfield 15, 3) := fo_181 (fw_get da_cX0_append_0 15 rfl)
theorem dX0_append_30 : decode cX0_append 30 = .ok (.return_, 1) := fo_177 (fw_get da_cX0_append_0 16 rfl)
def dt_cX0_putIn_0 : List (Nat × Nat × Nat × Nat) := [(0, 27, 0, 0), (1, 155, 2, 21), (4, 27, 0, 0), (5, 42, 0, 0), (6, 180, 2, 15), (9, 163, 2, 13), (12, 42, 0, 0), (13, 180, 2, 15), (16, 17, 2, 160), (19, 161, 2, 4), (23, 42, 0, 0), (24, 180, 2, 15), (27, 62, 0, 0), (28, 29, 0, 0), (29, 27, 0, 0), (30, 164, 2, 23), (33, 42, 0, 0), (34, 180, 2, 9), (37, 29, 0, 0), (38, 42, 0, 0)]
theorem da_cX0_putIn_0 : fw dt_cX0_putIn_0 0 cX0_putIn.data.toList = true := by decide +kernel
theorem dX0_putIn_0 : decode cX0_putIn 0 = .ok (.iload_n 1, 1) := fo_27 (fw_get da_cX0_putIn_0 0 rfl)
theorem dX0_putIn_1 : decode cX0_putIn 1 = .ok (.ifCond .lt 21, 3) := fo_155 (fw_get da_cX0_putIn_0 1 rfl) (by decide +kernel)
theorem dX0_putIn_4 : decode cX0_putIn 4 = .ok (.iload_n 1, 1) := fo_27 (fw_get da_cX0_putIn_0 2 rfl)
theorem dX0_putIn_5 : decode cX0_putIn 5 = .ok (.aload_n 0, 1) := fo_42 (fw_get da_cX0_putIn_0 3 rfl)
theorem dX0_putIn_6 : decode cX0_putIn 6 = .ok (.getfield 15, 3) := fo_180 (fw_get da_cX0_putIn_0 4 rfl)
theorem dX0_putIn_9 : decode cX0_putIn 9 = .ok (.if_icmp .gt 13, 3) := fo_163 (fw_get da_cX0_putIn_0 5 rfl) (by decide +kernel)
theorem dX0_putIn_12 : decode cX0_putIn 12 = .ok (.aload_n 0, 1) := fo_42 (fw_get da_cX0_putIn_0 6 rfl)
theorem dX0_putIn_13 : decode cX0_putIn 13 = .ok (.getfield 15, 3) := fo_180 (fw_get da_cX0_putIn_0 7 rfl)
theorem dX0_putIn_16 : decode cX0_putIn 16 = .ok (.sipush 160, 3) := fo_17 (fw_get da_cX0_putIn_0 8 rfl) (by decide +kernel)
theorem dX0_putIn_19 : decode cX0_putIn 19 = .ok (.if_icmp .lt 4, 3) := fo_161 (fw_get da_cX0_putIn_0 9 rfl) (by decide +kernel)
theorem dX0_putIn_23 : decode cX0_putIn 23 = .ok (.aload_n 0, 1) := fo_42 (fw_get da_cX0_putIn_0 10 rfl)
theorem dX0_putIn_24 : decode cX0_putIn 24 = .ok (.getfield 15, 3) := fo_180 (fw_get da_cX0_putIn_0 11 rfl)
theorem dX0_putIn_27 : decode cX0_putIn 27 = .ok (.istore_n 3, 1) := fo_62 (fw_get da_cX0_putIn_0 12 rfl)
theorem dX0_putIn_28 : decode cX0_putIn 28 = .ok (.iload_n 3, 1) := fo_29 (fw_get da_cX0_putIn_0 13 rfl)
theorem dX0_putIn_29 : decode cX0_putIn 29 = .ok (.iload_n 1, 1) := fo_27 (fw_get da_cX0_putIn_0 14 rfl)
theorem dX0_putIn_30 : decode cX0_putIn 30 = .ok (.if_icmp .le 23, 3) := fo_164 (fw_get da_cX0_putIn_0 15 rfl) (by decide +kernel)
theorem dX0_putIn_33 : decode cX0_putIn 33 = .ok (.aload_n 0, 1) := fo_42 (fw_get da_cX0_putIn_0 16 rfl)
theorem dX0_putIn_34 : decode cX0_putIn 34 = .ok (.getfield 9, 3) := fo_180 (fw_get da_cX0_putIn_0 17 rfl)
theorem dX0_putIn_37 : decode cX0_putIn 37 = .ok (.iload_n 3, 1) := fo_29 (fw_get da_cX0_putIn_0 18 rfl)
theorem dX0_putIn_38 : decode cX0_putIn 38 = .ok (.aload_n 0, 1) := fo_42 (fw_get da_cX0_putIn_0 19 rfl)
def dt_cX0_putIn_1 : List (Nat × Nat × Nat × Nat) := [(39, 180, 2, 9), (42, 29, 0, 0), (43, 4, 0, 0), (44, 100, 0, 0), (45, 46, 0, 0), (46, 79, 0, 0), (47, 132, 2, 1023), (50, 167, 2, 65514), (53, 42, 0, 0), (54, 180, 2, 9), (57, 27, 0, 0), (58, 28, 0, 0), (59, 79, 0, 0), (60, 42, 0, 0), (61, 89, 0, 0), (62, 180, 2, 15), (65, 4, 0, 0), (66, 96, 0, 0), (67, 181, 2, 15), (70, 177, 0, 0)]
theorem da_cX0_putIn_1 : fw dt_cX0_putIn_1 0 cX0_putIn.data.toList = true := by decide +kernel
theorem dX0_putIn_39 : decode cX0_putIn 39 = .ok (.getfield 9, 3) := fo_180 (fw_get da_cX0_putIn_1 0 rfl)
theorem dX0_putIn_42 : decode cX0_putIn 42 = .ok (.iload_n 3, 1) := fo_29 (fw_get da_cX0_putIn_1 1 rfl)
theorem dX0_putIn_43 : decode cX0_putIn 43 = .ok (.iconst 1, 1) := fo_4 (fw_get da_cX0_putIn_1 2 rfl)
theorem dX0_putIn_44 : decode cX0_putIn 44 = .ok (.isub, 1) := fo_100 (fw_get da_cX0_putIn_1 3 rfl)
theorem dX0_putIn_45 : decode cX0_putIn 45 = .ok (.iaload, 1) := fo_46 (fw_get da_cX0_putIn_1 4 rfl)
theorem dX0_putIn_46 : decode cX0_putIn 46 = .ok (.iastore, 1) := fo_79 (fw_get da_cX0_putIn_1 5 rfl)
theorem dX0_putIn_47 : decode cX0_putIn 47 = .ok (.iinc 3 (-1), 3) := fo_132 (fw_get da_cX0_putIn_1 6 rfl) rfl (by decide +kernel)
theorem dX0_putIn_50 : decode cX0_putIn 50 = .ok (.goto (-22), 3) := fo_167 (fw_get da_cX0_putIn_1 7 rfl) (by decide +kernel)
theorem dX0_putIn_53 : decode cX0_putIn 53 = .ok (.aload_n 0, 1) := fo_42 (fw_get da_cX0_putIn_1 8 rfl)
theorem dX0_putIn_54 : decode cX0_putIn 54 = .ok (.getfield 9, 3) := fo_180 (fw_get da_cX0_putIn_1 9 rfl)
theorem dX0_putIn_57 : decode cX0_putIn 57 = .ok (.iload_n 1, 1) := fo_27 (fw_get da_cX0_putIn_1 10 rfl)
theorem dX0_putIn_58 : decode cX0_putIn 58 = .ok (.iload_n 2, 1) := fo_28 (fw_get da_cX0_putIn_1 11 rfl)
theorem dX0_putIn_59 : decode cX0_putIn 59 = .ok (.iastore, 1) := fo_79 (fw_get da_cX0_putIn_1 12 rfl)
theorem dX0_putIn_60 : decode cX0_putIn 60 = .ok (.aload_n 0, 1) := fo_42 (fw_get da_cX0_putIn_1 13 rfl)
theorem dX0_putIn_61 : decode cX0_putIn 61 = .ok (.dup, 1) := fo_89 (fw_get da_cX0_putIn_1 14 rfl)
theorem dX0_putIn_62 : decode cX0_putIn 62 = .ok (.getfield 15, 3) := fo_180 (fw_get da_cX0_putIn_1 15 rfl)
theorem dX0_putIn_65 : decode cX0_putIn 65 = .ok (.iconst 1, 1) := fo_4 (fw_get da_cX0_putIn_1 16 rfl)
theorem dX0_putIn_66 : decode cX0_putIn 66 = .ok (.iadd, 1) := fo_96 (fw_get da_cX0_putIn_1 17 rfl)
theorem dX0_putIn_67 : decode cX0_putIn 67 = .ok (.putfield 15, 3) := fo_181 (fw_get da_cX0_putIn_1 18 rfl)
theorem dX0_putIn_70 : decode cX0_putIn 70 = .ok (.return_, 1) := fo_177 (fw_get da_cX0_putIn_1 19 rfl)


def shorts (f : Nat → Int32) : Prop := ∀ k : Nat, k < 160 → -32768 ≤ (f k).toInt ∧ (f k).toInt ≤ 32767
theorem shorts_upd {f : Nat → Int32} {k : Nat} {x : Int32} (h : shorts f) (h1 : -32768 ≤ x.toInt) (h2 : x.toInt ≤ 32767) : shorts (upd f k x) := by
  intro j hj
  unfold upd
  split
  · exact ⟨h1, h2⟩
  · exact h j hj
def shR (f : Nat → Int32) (n i : Nat) : Nat → Int32 := fun k => if i < k ∧ k ≤ n then f (k - 1) else f k
theorem shR_self (f : Nat → Int32) (n : Nat) : shR f n n = f := by
  funext k
  unfold shR
  rw [if_neg (by omega)]
theorem shR_step {f : Nat → Int32} {n i j j2 : Nat} (hi : i ≤ n) (hj : j + 1 = i) (h2 : j2 = j) : upd (shR f n i) i (shR f n i j) = shR f n j2 := by
  subst h2
  funext k
  unfold upd shR
  by_cases h : k = i
  · subst h
    rw [if_pos rfl, if_neg (by omega), if_pos (by omega)]
    congr 1
    omega
  · rw [if_neg h]
    by_cases h2 : i < k ∧ k ≤ n
    · rw [if_pos h2, if_pos (by omega)]
    · rw [if_neg h2, if_neg (by omega)]
def shL (f : Nat → Int32) (p i : Nat) : Nat → Int32 := fun k => if p ≤ k ∧ k < i then f (k + 1) else f k
theorem shL_self (f : Nat → Int32) (p : Nat) : shL f p p = f := by
  funext k
  unfold shL
  rw [if_neg (by omega)]
theorem shL_step {f : Nat → Int32} {p i j : Nat} (hp : p ≤ i) (hj : j = i + 1) : upd (shL f p i) i (shL f p i j) = shL f p j := by
  funext k
  unfold upd shL
  by_cases h : k = i
  · subst h
    rw [if_pos rfl, if_neg (by omega), if_pos (by omega)]
    subst hj
    rfl
  · rw [if_neg h]
    by_cases h2 : p ≤ k ∧ k < i
    · rw [if_pos h2, if_pos (by omega)]
    · rw [if_neg h2, if_neg (by omega)]

set_option maxHeartbeats 4000000 in
set_option maxRecDepth 100000 in
theorem c_X0_hasPlace (l : Launch) (dC : Nat → ClassId) (dI : Nat → Nat → Nat) (h0 : Nat) (h1 : Nat) (len : Int32) (p0 : Int32) : Met l yX0_hasPlace wsX0_hasPlace ({ frames := 0, cells := 0, slots := 0, locals := 0 }) (va_Pc [.ref h0, .int p0] (fun U => va_P (dC, dI) vwCl [kx_0 h0 h1 len] U.heap ∧ va_K (dC, dI) vwCl [] U)) (vp_Si (fun r : Int32 => (r = 1 ∧ (0 ≤ p0.toInt ∧ p0.toInt < len.toInt)) ∨ (r = 0 ∧ (p0.toInt < 0 ∨ len.toInt ≤ p0.toInt)))) 0 0 (fun _ => False) := by
  refine kx_stS (ws := wsX0_hasPlace) (cc := cX0_hasPlace) (maxL := 2) (ret := (some .boolean)) (by decide) rfl (Nat.le_of_ble_eq_true rfl) ?_
  intro p e s m below meth c ls hx hb hr hlocks hts hown hml hP hK hl
  have hown : s.vm.findClass RX0 = some m.cls := hown
  have hl : lv_has ls 2 [(0, .ref h0), (1, .int p0)] := hl
  have hf_15 := hts (.fieldLink RX0 15 "MajorityIndex$Row" "length" "I") (List.mem_of_getElem? (i := 1) rfl)
  have hi_0 : ∀ w ∈ u_ws RX0 TX0 2, w ∈ wsX0_hasPlace := fun w h => List.mem_cons_of_mem _ (List.mem_append_right _ h)
  refine lv_iload_n hx hb dX0_hasPlace_0 rfl (lv_at hl 1 rfl) ?_
  refine lv_if_lt (tgt := 16) hx hb dX0_hasPlace_1 (by decide) (fun c_1 => ?_) (fun c_1 => ?_)
  · have i_1 : p0.toInt < 0 := kc_lt c_1
    refine lv_iconst (v := 0) hx hb dX0_hasPlace_16 (by decide) ?_
    exact W.zret (v := 0) hx hb hr (by decide) (hlocks := hlocks) (fun t ht hW => ⟨0, rfl, Or.inr (⟨rfl, (Or.inl (om_8 i_1))⟩), ht⟩) (fun q hq => by cases hq) dX0_hasPlace_17
  · have i_1 : 0 ≤ p0.toInt := kc_nlt c_1
    refine lv_iload_n hx hb dX0_hasPlace_4 rfl (lv_at hl 1 rfl) ?_
    refine lv_aload_n hx hb dX0_hasPlace_5 rfl (lv_at hl 0 rfl) ?_
    refine va_get (D := (dC, dI)) (ci := 0) (v := .int len) (C := RX0) (T := TX0) (N := 2) hx hb hts hi_0 hown hK hP 0 rfl rfl 1 (by decide) hf_15 (fun _ h9 => h9) rfl dX0_hasPlace_6 ?_
    refine lv_icmp_ge (tgt := 16) hx hb dX0_hasPlace_9 (by decide) (fun c_2 => ?_) (fun c_2 => ?_)
    · have i_2 : len.toInt ≤ p0.toInt := kc_le c_2
      refine lv_iconst (v := 0) hx hb dX0_hasPlace_16 (by decide) ?_
      exact W.zret (v := 0) hx hb hr (by decide) (hlocks := hlocks) (fun t ht hW => ⟨0, rfl, Or.inr (⟨rfl, (Or.inr (om_9 i_2))⟩), ht⟩) (fun q hq => by cases hq) dX0_hasPlace_17
    · have i_2 : p0.toInt < len.toInt := kc_nle c_2
      refine lv_iconst (v := 1) hx hb dX0_hasPlace_12 (by decide) ?_
      refine lv_goto (tgt := 17) hx hb dX0_hasPlace_13 (by decide) ?_
      exact W.zret (v := 1) hx hb hr (by decide) (hlocks := hlocks) (fun t ht hW => ⟨1, rfl, Or.inl ⟨rfl, ⟨(om_10 i_1), (om_11 i_2)⟩⟩, ht⟩) (fun q hq => by cases hq) dX0_hasPlace_17

set_option maxHeartbeats 4000000 in
set_option maxRecDepth 100000 in
theorem c_X0_hasRange (l : Launch) (dC : Nat → ClassId) (dI : Nat → Nat → Nat) (h0 : Nat) (h1 : Nat) (len : Int32) (p0 : Int32) (p1 : Int32) : Met l yX0_hasRange wsX0_hasRange ({ frames := 0, cells := 0, slots := 0, locals := 0 }) (va_Pc [.ref h0, .int p0, .int p1] (fun U => va_P (dC, dI) vwCl [kx_0 h0 h1 len] U.heap ∧ va_K (dC, dI) vwCl [] U)) (vp_Si (fun r : Int32 => (r = 1 ∧ (0 ≤ p0.toInt ∧ p0.toInt < p1.toInt ∧ p1.toInt ≤ len.toInt)) ∨ (r = 0 ∧ (p0.toInt < 0 ∨ p1.toInt ≤ p0.toInt ∨ len.toInt < p1.toInt)))) 0 0 (fun _ => False) := by
  refine kx_stS (ws := wsX0_hasRange) (cc := cX0_hasRange) (maxL := 3) (ret := (some .boolean)) (by decide) rfl (Nat.le_of_ble_eq_true rfl) ?_
  intro p e s m below meth c ls hx hb hr hlocks hts hown hml hP hK hl
  have hown : s.vm.findClass RX0 = some m.cls := hown
  have hl : lv_has ls 3 [(0, .ref h0), (1, .int p0), (2, .int p1)] := hl
  have hf_15 := hts (.fieldLink RX0 15 "MajorityIndex$Row" "length" "I") (List.mem_of_getElem? (i := 1) rfl)
  have hi_0 : ∀ w ∈ u_ws RX0 TX0 2, w ∈ wsX0_hasRange := fun w h => List.mem_cons_of_mem _ (List.mem_append_right _ h)
  refine lv_iload_n hx hb dX0_hasRange_0 rfl (lv_at hl 1 rfl) ?_
  refine lv_if_lt (tgt := 21) hx hb dX0_hasRange_1 (by decide) (fun c_1 => ?_) (fun c_1 => ?_)
  · have i_1 : p0.toInt < 0 := kc_lt c_1
    refine lv_iconst (v := 0) hx hb dX0_hasRange_21 (by decide) ?_
    exact W.zret (v := 0) hx hb hr (by decide) (hlocks := hlocks) (fun t ht hW => ⟨0, rfl, Or.inr (⟨rfl, (Or.inl (om_8 i_1))⟩), ht⟩) (fun q hq => by cases hq) dX0_hasRange_22
  · have i_1 : 0 ≤ p0.toInt := kc_nlt c_1
    refine lv_iload_n hx hb dX0_hasRange_4 rfl (lv_at hl 1 rfl) ?_
    refine lv_iload_n hx hb dX0_hasRange_5 rfl (lv_at hl 2 rfl) ?_
    refine lv_icmp_ge (tgt := 21) hx hb dX0_hasRange_6 (by decide) (fun c_2 => ?_) (fun c_2 => ?_)
    · have i_2 : p1.toInt ≤ p0.toInt := kc_le c_2
      refine lv_iconst (v := 0) hx hb dX0_hasRange_21 (by decide) ?_
      exact W.zret (v := 0) hx hb hr (by decide) (hlocks := hlocks) (fun t ht hW => ⟨0, rfl, Or.inr (⟨rfl, (Or.inr (Or.inl (om_9 i_2)))⟩), ht⟩) (fun q hq => by cases hq) dX0_hasRange_22
    · have i_2 : p0.toInt < p1.toInt := kc_nle c_2
      refine lv_iload_n hx hb dX0_hasRange_9 rfl (lv_at hl 2 rfl) ?_
      refine lv_aload_n hx hb dX0_hasRange_10 rfl (lv_at hl 0 rfl) ?_
      refine va_get (D := (dC, dI)) (ci := 0) (v := .int len) (C := RX0) (T := TX0) (N := 2) hx hb hts hi_0 hown hK hP 0 rfl rfl 1 (by decide) hf_15 (fun _ h9 => h9) rfl dX0_hasRange_11 ?_
      refine lv_icmp_gt (tgt := 21) hx hb dX0_hasRange_14 (by decide) (fun c_3 => ?_) (fun c_3 => ?_)
      · have i_3 : len.toInt < p1.toInt := kc_lt c_3
        refine lv_iconst (v := 0) hx hb dX0_hasRange_21 (by decide) ?_
        exact W.zret (v := 0) hx hb hr (by decide) (hlocks := hlocks) (fun t ht hW => ⟨0, rfl, Or.inr (⟨rfl, (Or.inr (Or.inr (om_11 i_3)))⟩), ht⟩) (fun q hq => by cases hq) dX0_hasRange_22
      · have i_3 : p1.toInt ≤ len.toInt := kc_nlt c_3
        refine lv_iconst (v := 1) hx hb dX0_hasRange_17 (by decide) ?_
        refine lv_goto (tgt := 22) hx hb dX0_hasRange_18 (by decide) ?_
        exact W.zret (v := 1) hx hb hr (by decide) (hlocks := hlocks) (fun t ht hW => ⟨1, rfl, Or.inl ⟨rfl, ⟨(om_10 i_1), (om_11 i_2), (om_9 i_3)⟩⟩, ht⟩) (fun q hq => by cases hq) dX0_hasRange_22

set_option maxHeartbeats 4000000 in
set_option maxRecDepth 100000 in
theorem c_X0_append (l : Launch) (dC : Nat → ClassId) (dI : Nat → Nat → Nat) (h0 : Nat) (h1 : Nat) (cyI : ClassId) (len : Int32) (f : Nat → Int32) (p0 : Int32) (sz : Nat) (a0 : 0 ≤ len.toInt) (a1 : len.toInt < 160) : kx_MQ l (dC, dI) yX0_append wsX0_append ({ frames := 0, cells := 0, slots := 0, locals := 0 }) [.ref h0, .int p0] [kx_0 h0 h1 len, kx_a h1 cyI 160 f] [(cyI, .int)] sz (fun A => va_Qv (fun u : Int32 => u.toInt = len.toInt + 1) (fun (u : Int32) (t : State) => va_P (dC, dI) vwCl [kx_0 h0 h1 u, kx_a h1 cyI 160 (upd f len.toNatClampNeg p0)] t.heap ∧ va_K (dC, dI) vwCl [(cyI, .int)] t ∧ va_D A [kx_0 h0 h1 u, kx_a h1 cyI 160 (upd f len.toNatClampNeg p0)]) A) := by
  refine kx_stQ (ws := wsX0_append) (cc := cX0_append) (maxL := 2) (ret := none) (by decide) rfl (Nat.le_of_ble_eq_true rfl) ?_
  intro p e s m below meth c A ls hx hb hr hlocks hts hown hml hA hS hP hK hD hl
  have hown : s.vm.findClass RX0 = some m.cls := hown
  have hl : lv_has ls 2 [(0, .ref h0), (1, .int p0)] := hl
  have hf_15 := hts (.fieldLink RX0 15 "MajorityIndex$Row" "length" "I") (List.mem_of_getElem? (i := 1) rfl)
  have hi_0 : ∀ w ∈ u_ws RX0 TX0 2, w ∈ wsX0_append := fun w h => List.mem_cons_of_mem _ (List.mem_append_right _ h)
  have hf_9 := hts (.fieldLink RX0 9 "MajorityIndex$Row" "cell" "[I") (List.mem_of_getElem? (i := 2) rfl)
  refine lv_aload_n hx hb dX0_append_0 rfl (lv_at hl 0 rfl) ?_
  refine va_get (D := (dC, dI)) (ci := 0) (v := .int len) (C := RX0) (T := TX0) (N := 2) hx hb hts hi_0 hown hK hP 0 rfl rfl 1 (by decide) hf_15 (fun _ h9 => h9) rfl dX0_append_1 ?_
  refine lv_sipush (v := 160) hx hb dX0_append_4 (by decide) ?_
  refine lv_icmp_ge (tgt := 30) hx hb dX0_append_7 (by decide) (fun c_1 => ?_) (fun c_1 => ?_)
  · have i_1 : 160 ≤ len.toInt := kc_le c_1
    exfalso; omega
  · have i_1 : len.toInt < 160 := kc_nle c_1
    refine lv_aload_n hx hb dX0_append_10 rfl (lv_at hl 0 rfl) ?_
    refine va_get (D := (dC, dI)) (ci := 0) (v := .ref h1) (C := RX0) (T := TX0) (N := 2) hx hb hts hi_0 hown hK hP 0 rfl rfl 0 (by decide) hf_9 (fun _ h9 => h9) rfl dX0_append_11 ?_
    refine lv_aload_n hx hb dX0_append_14 rfl (lv_at hl 0 rfl) ?_
    refine va_get (D := (dC, dI)) (ci := 0) (v := .int len) (C := RX0) (T := TX0) (N := 2) hx hb hts hi_0 hown hK hP 0 rfl rfl 1 (by decide) hf_15 (fun _ h9 => h9) rfl dX0_append_15 ?_
    refine lv_iload_n hx hb dX0_append_18 rfl (lv_at hl 1 rfl) ?_
    refine va_iast hx hb hK hP hD hS 1 0 rfl rfl (ki_in (om_10 a0) (om_12 a1)) dX0_append_19 (fun H locs hP hD hS => ?_)
    obtain ⟨hP, hD⟩ := kx_re (w2 := [kx_0 h0 h1 len, kx_a h1 cyI 160 (upd f len.toNatClampNeg p0)]) hP hD rfl
    refine lv_aload_n hx hb dX0_append_20 rfl (lv_at hl 0 rfl) ?_
    refine lv_dup hx hb dX0_append_21 rfl ?_
    refine va_get (D := (dC, dI)) (ci := 0) (v := .int len) (C := RX0) (T := TX0) (N := 2) hx hb hts hi_0 hown hK hP 0 rfl rfl 1 (by decide) hf_15 (fun _ h9 => h9) rfl dX0_append_22 ?_
    refine lv_iconst (v := 1) hx hb dX0_append_25 (by decide) ?_
    refine lv_iadd hx hb dX0_append_26 ?_
    refine lv_topi (fun y_2 ey_2 => ?_)
    have i_2 : y_2.toInt = len.toInt + 1 := ki_add ey_2 rfl rfl (om_13 a0) (om_14 a1)
    refine va_put (D := (dC, dI)) (ci := 0) (v := .int y_2) (ty := .int) (C := RX0) (T := TX0) (N := 2) hx hb hts hi_0 tyX0 tyX0_ok nmX0 hown hK hP hD hS 0 rfl rfl 1 (by decide) hf_15 (fun _ h9 => h9) rfl (by decide +kernel) rfl rfl (Nat.le_of_ble_eq_true rfl) dX0_append_27 (fun H locs hP hD hS => ?_)
    obtain ⟨hP, hD⟩ := kx_re (w2 := [kx_0 h0 h1 y_2, kx_a h1 cyI 160 (upd f len.toNatClampNeg p0)]) hP hD rfl
    have hP9 := hP
    have hD9 := hD
    have hK9 := hK
    exact W.vret hx hb hr (hlocks := hlocks) (fun t ht hW => ⟨⟨(y_2), rfl, (by (try dsimp only); omega), by rw [ht]; exact hP9, va_K.moved hW.alike hK9, hD9⟩, hS.F ht⟩) hS.2.2 dX0_append_30

set_option maxHeartbeats 4000000 in
set_option maxRecDepth 100000 in
theorem c_X0_putIn (l : Launch) (dC : Nat → ClassId) (dI : Nat → Nat → Nat) (h0 : Nat) (h1 : Nat) (cyI : ClassId) (len : Int32) (f : Nat → Int32) (p0 : Int32) (p1 : Int32) (sz : Nat) (a0 : 0 ≤ p0.toInt) (a1 : p0.toInt ≤ len.toInt) (a2 : len.toInt < 160) : kx_MQ l (dC, dI) yX0_putIn wsX0_putIn ({ frames := 0, cells := 0, slots := 0, locals := 0 }) [.ref h0, .int p0, .int p1] [kx_0 h0 h1 len, kx_a h1 cyI 160 f] [(cyI, .int)] sz (fun A => va_Qv (fun u : Int32 × (Nat → Int32) => u.1.toInt = len.toInt + 1 ∧ u.2 = upd (shR f len.toNatClampNeg p0.toNatClampNeg) p0.toNatClampNeg p1) (fun (u : Int32 × (Nat → Int32)) (t : State) => va_P (dC, dI) vwCl [kx_0 h0 h1 u.1, kx_a h1 cyI 160 u.2] t.heap ∧ va_K (dC, dI) vwCl [(cyI, .int)] t ∧ va_D A [kx_0 h0 h1 u.1, kx_a h1 cyI 160 u.2]) A) := by
  refine kx_stQ (ws := wsX0_putIn) (cc := cX0_putIn) (maxL := 4) (ret := none) (by decide) rfl (Nat.le_of_ble_eq_true rfl) ?_
  intro p e s m below meth c A ls hx hb hr hlocks hts hown hml hA hS hP hK hD hl
  have hown : s.vm.findClass RX0 = some m.cls := hown
  have hl : lv_has ls 4 [(0, .ref h0), (1, .int p0), (2, .int p1)] := hl
  have hf_15 := hts (.fieldLink RX0 15 "MajorityIndex$Row" "length" "I") (List.mem_of_getElem? (i := 1) rfl)
  have hi_0 : ∀ w ∈ u_ws RX0 TX0 2, w ∈ wsX0_putIn := fun w h => List.mem_cons_of_mem _ (List.mem_append_right _ h)
  have hf_9 := hts (.fieldLink RX0 9 "MajorityIndex$Row" "cell" "[I") (List.mem_of_getElem? (i := 2) rfl)
  refine lv_iload_n hx hb dX0_putIn_0 rfl (lv_at hl 1 rfl) ?_
  refine lv_if_lt (tgt := 22) hx hb dX0_putIn_1 (by decide) (fun c_1 => ?_) (fun c_1 => ?_)
  · have i_1 : p0.toInt < 0 := kc_lt c_1
    exfalso; omega
  · have i_1 : 0 ≤ p0.toInt := kc_nlt c_1
    refine lv_iload_n hx hb dX0_putIn_4 rfl (lv_at hl 1 rfl) ?_
    refine lv_aload_n hx hb dX0_putIn_5 rfl (lv_at hl 0 rfl) ?_
    refine va_get (D := (dC, dI)) (ci := 0) (v := .int len) (C := RX0) (T := TX0) (N := 2) hx hb hts hi_0 hown hK hP 0 rfl rfl 1 (by decide) hf_15 (fun _ h9 => h9) rfl dX0_putIn_6 ?_
    refine lv_icmp_gt (tgt := 22) hx hb dX0_putIn_9 (by decide) (fun c_2 => ?_) (fun c_2 => ?_)
    · have i_2 : len.toInt < p0.toInt := kc_lt c_2
      exfalso; omega
    · have i_2 : p0.toInt ≤ len.toInt := kc_nlt c_2
      refine lv_aload_n hx hb dX0_putIn_12 rfl (lv_at hl 0 rfl) ?_
      refine va_get (D := (dC, dI)) (ci := 0) (v := .int len) (C := RX0) (T := TX0) (N := 2) hx hb hts hi_0 hown hK hP 0 rfl rfl 1 (by decide) hf_15 (fun _ h9 => h9) rfl dX0_putIn_13 ?_
      refine lv_sipush (v := 160) hx hb dX0_putIn_16 (by decide) ?_
      refine lv_icmp_lt (tgt := 23) hx hb dX0_putIn_19 (by decide) (fun c_3 => ?_) (fun c_3 => ?_)
      · have i_3 : len.toInt < 160 := kc_lt c_3
        refine lv_aload_n hx hb dX0_putIn_23 rfl (lv_at hl 0 rfl) ?_
        refine va_get (D := (dC, dI)) (ci := 0) (v := .int len) (C := RX0) (T := TX0) (N := 2) hx hb hts hi_0 hown hK hP 0 rfl rfl 1 (by decide) hf_15 (fun _ h9 => h9) rfl dX0_putIn_24 ?_
        refine lv_istore_n (lv' := [(3, .int len), (0, .ref h0), (1, .int p0), (2, .int p1)]) hx hb dX0_putIn_27 rfl hl (by decide) rfl (fun ls hl => ?_)
        have LP1 : ∀ (n : Nat) (i : Int32) (fc : Nat → Int32), (p0.toInt ≤ i.toInt) → (i.toInt ≤ len.toInt) → (fc = shR f len.toNatClampNeg i.toNatClampNeg) → (i.toInt).toNat < n → ∀ (H : Heap) (locs : List Loc), va_P (dC, dI) vwCl [kx_0 h0 h1 len, kx_a h1 cyI 160 fc] H → va_D A [kx_0 h0 h1 len, kx_a h1 cyI 160 fc] → va_S A s.heap H locs → ∀ (ls : Array Slot), lv_has ls 4 [(3, .int i), (0, .ref h0), (1, .int p0), (2, .int p1)] → W p l e (headSpec wsX0_putIn ({ frames := 0, cells := 0, slots := 0, locals := 0 })).room s m ([.ref h0, .int p0, .int p1] : List Value).toArray below meth c H locs 0 0 (MQ below (va_Qv (fun u : Int32 × (Nat → Int32) => u.1.toInt = len.toInt + 1 ∧ u.2 = upd (shR f len.toNatClampNeg p0.toNatClampNeg) p0.toNatClampNeg p1) (fun (u : Int32 × (Nat → Int32)) (t : State) => va_P (dC, dI) vwCl [kx_0 h0 h1 u.1, kx_a h1 cyI 160 u.2] t.heap ∧ va_K (dC, dI) vwCl [(cyI, .int)] t ∧ va_D A [kx_0 h0 h1 u.1, kx_a h1 cyI 160 u.2]) A) ([.ref h0, .int p0, .int p1] : List Value).toArray s 0 0 A) (F0 m 28 ls []) := by
          intro n
          induction n with
          | zero => intro i fc LP1_h0 LP1_h1 LP1_h2 hn; exact absurd hn (Nat.not_lt_zero _)
          | succ n ih1 =>
            intro i fc LP1_h0 LP1_h1 LP1_h2 hn1 H locs hP hD hS ls hl
            have n_i := ki_nat i rfl (by omega)
            have n_l := ki_nat len rfl (by omega)
            refine lv_iload_n hx hb dX0_putIn_28 rfl (lv_at hl 0 rfl) ?_
            refine lv_iload_n hx hb dX0_putIn_29 rfl (lv_at hl 2 rfl) ?_
            refine lv_icmp_le (tgt := 53) hx hb dX0_putIn_30 (by decide) (fun c_4 => ?_) (fun c_4 => ?_)
            · have i_4 : i.toInt ≤ p0.toInt := kc_le c_4
              refine lv_aload_n hx hb dX0_putIn_53 rfl (lv_at hl 1 rfl) ?_
              refine va_get (D := (dC, dI)) (ci := 0) (v := .ref h1) (C := RX0) (T := TX0) (N := 2) hx hb hts hi_0 hown hK hP 0 rfl rfl 0 (by decide) hf_9 (fun _ h9 => h9) rfl dX0_putIn_54 ?_
              refine lv_iload_n hx hb dX0_putIn_57 rfl (lv_at hl 2 rfl) ?_
              refine lv_iload_n hx hb dX0_putIn_58 rfl (lv_at hl 3 rfl) ?_
              refine va_iast hx hb hK hP hD hS 1 0 rfl rfl (ki_in (om_10 a0) (om_15 a1 a2)) dX0_putIn_59 (fun H locs hP hD hS => ?_)
              obtain ⟨hP, hD⟩ := kx_re (w2 := [kx_0 h0 h1 len, kx_a h1 cyI 160 (upd fc p0.toNatClampNeg p1)]) hP hD rfl
              refine lv_aload_n hx hb dX0_putIn_60 rfl (lv_at hl 1 rfl) ?_
              refine lv_dup hx hb dX0_putIn_61 rfl ?_
              refine va_get (D := (dC, dI)) (ci := 0) (v := .int len) (C := RX0) (T := TX0) (N := 2) hx hb hts hi_0 hown hK hP 0 rfl rfl 1 (by decide) hf_15 (fun _ h9 => h9) rfl dX0_putIn_62 ?_
              refine lv_iconst (v := 1) hx hb dX0_putIn_65 (by decide) ?_
              refine lv_iadd hx hb dX0_putIn_66 ?_
              refine lv_topi (fun y_5 ey_5 => ?_)
              have i_5 : y_5.toInt = len.toInt + 1 := ki_add ey_5 rfl rfl (om_16 a1 i_1) (om_14 a2)
              refine va_put (D := (dC, dI)) (ci := 0) (v := .int y_5) (ty := .int) (C := RX0) (T := TX0) (N := 2) hx hb hts hi_0 tyX0 tyX0_ok nmX0 hown hK hP hD hS 0 rfl rfl 1 (by decide) hf_15 (fun _ h9 => h9) rfl (by decide +kernel) rfl rfl (Nat.le_of_ble_eq_true rfl) dX0_putIn_67 (fun H locs hP hD hS => ?_)
              obtain ⟨hP, hD⟩ := kx_re (w2 := [kx_0 h0 h1 y_5, kx_a h1 cyI 160 (upd fc p0.toNatClampNeg p1)]) hP hD rfl
              have hP9 := hP
              have hD9 := hD
              have hK9 := hK
              exact W.vret hx hb hr (hlocks := hlocks) (fun t ht hW => ⟨⟨(y_5, (upd fc p0.toNatClampNeg p1)), rfl, ⟨(by (try dsimp only); omega), (by (try dsimp only); rw [LP1_h2, ki_nateq (show i.toInt = p0.toInt by omega)])⟩, by rw [ht]; exact hP9, va_K.moved hW.alike hK9, hD9⟩, hS.F ht⟩) hS.2.2 dX0_putIn_70
            · have i_4 : p0.toInt < i.toInt := kc_nle c_4
              refine lv_aload_n hx hb dX0_putIn_33 rfl (lv_at hl 1 rfl) ?_
              refine va_get (D := (dC, dI)) (ci := 0) (v := .ref h1) (C := RX0) (T := TX0) (N := 2) hx hb hts hi_0 hown hK hP 0 rfl rfl 0 (by decide) hf_9 (fun _ h9 => h9) rfl dX0_putIn_34 ?_
              refine lv_iload_n hx hb dX0_putIn_37 rfl (lv_at hl 0 rfl) ?_
              refine lv_aload_n hx hb dX0_putIn_38 rfl (lv_at hl 1 rfl) ?_
              refine va_get (D := (dC, dI)) (ci := 0) (v := .ref h1) (C := RX0) (T := TX0) (N := 2) hx hb hts hi_0 hown hK hP 0 rfl rfl 0 (by decide) hf_9 (fun _ h9 => h9) rfl dX0_putIn_39 ?_
              refine lv_iload_n hx hb dX0_putIn_42 rfl (lv_at hl 0 rfl) ?_
              refine lv_iconst (v := 1) hx hb dX0_putIn_43 (by decide) ?_
              refine lv_isub hx hb dX0_putIn_44 ?_
              refine lv_topi (fun y_6 ey_6 => ?_)
              have i_6 : y_6.toInt = i.toInt - 1 := ki_sub ey_6 rfl rfl (om_17 a0 i_4) (om_18 a2 LP1_h1)
              refine va_iald hx hb hK hP 1 0 rfl rfl (ki_in (om_19 a0 i_4 i_6) (om_20 a2 LP1_h1 i_6)) dX0_putIn_45 ?_
              refine lv_topi (fun y_7 ey_7 => ?_)
              have j_7 : y_7.toInt = (fc y_6.toNatClampNeg).toInt := congrArg Int32.toInt ey_7
              refine va_iast hx hb hK hP hD hS 1 0 rfl rfl (ki_in (om_21 a0 i_4) (om_22 a2 LP1_h1)) dX0_putIn_46 (fun H locs hP hD hS => ?_)
              obtain ⟨hP, hD⟩ := kx_re (w2 := [kx_0 h0 h1 len, kx_a h1 cyI 160 (upd fc i.toNatClampNeg y_7)]) hP hD rfl
              obtain ⟨x_8, ex_8⟩ : ∃ y : Int32, y = i + (-1) := ⟨_, rfl⟩
              have i_8 : x_8.toInt = i.toInt + (-1) := ki_add ex_8 rfl rfl (om_23 a0 i_4) (om_24 a2 LP1_h1)
              refine lv_iinc (v := x_8) (lv' := [(3, .int x_8), (0, .ref h0), (1, .int p0), (2, .int p1)]) hx hb dX0_putIn_47 hl (k := 0) rfl (by rw [ex_8]; rfl) (by decide) rfl (fun ls hl => ?_)
              refine lv_goto (tgt := 28) hx hb dX0_putIn_50 (by decide) ?_
              have n_y := ki_nat y_6 rfl (by omega)
              have n_x := ki_nat x_8 rfl (by omega)
              exact ih1 x_8 (upd fc i.toNatClampNeg y_7) (om_25 i_4 i_8) (om_26 LP1_h1 i_8) (by rw [ey_7, LP1_h2]; exact shR_step (by omega) (by omega) (by omega)) (om_mu hn1 (om_27 i_8) (om_28 a0 i_4)) _ _ hP hD hS ls (lv_sub hl [0, 1, 2, 3] rfl)
        exact LP1 ((len.toInt : Int).toNat + 1) len f (om_9 a1) om_7 (shR_self _ _).symm (Nat.lt_succ_self _) _ _ hP hD hS ls (lv_sub hl [0, 1, 2, 3] rfl)
      · have i_3 : 160 ≤ len.toInt := kc_nlt c_3
        exfalso; omega



abbrev wsX30 : List Cond := u_ws RX3 TX3 5
theorem nmX3 : ∀ a, a < 5 → ∀ b, b < 5 → a ≠ b → (TX3 a).2.1 ≠ (TX3 b).2.1 := by decide +kernel
theorem tyX3_ok : ∀ k, k < 5 → parseFieldDescriptor (TX3 k).2.2.1 = some (tyX3 k) := by decide +kernel
abbrev cX3_clear : ByteArray := prog_5_method_2_code
def yX3_clear : MethodName := ⟨RX3, "clear", "()V"⟩
abbrev cX3_add : ByteArray := prog_5_method_3_code
def yX3_add : MethodName := ⟨RX3, "add", "(II)V"⟩
abbrev cX3_join : ByteArray := prog_5_method_4_code
def yX3_join : MethodName := ⟨RX3, "join", "(LMajorityIndex$Votes;)V"⟩
abbrev cX3_cancel : ByteArray := prog_5_method_5_code
def yX3_cancel : MethodName := ⟨RX3, "cancel", "(I)V"⟩
abbrev cX3_order : ByteArray := prog_5_method_6_code
def yX3_order : MethodName := ⟨RX3, "order", "()V"⟩
abbrev cX3_keepHeavy : ByteArray := prog_5_method_7_code
def yX3_keepHeavy : MethodName := ⟨RX3, "keepHeavy", "(III)V"⟩
abbrev cX3_numberOf : ByteArray := prog_5_method_8_code
def yX3_numberOf : MethodName := ⟨RX3, "numberOf", "(I)I"⟩
abbrev cX3_total : ByteArray := prog_5_method_9_code
def yX3_total : MethodName := ⟨RX3, "total", "()I"⟩
abbrev cX3_isAhead : ByteArray := prog_5_method_10_code
def yX3_isAhead : MethodName := ⟨RX3, "isAhead", "(II)Z"⟩
abbrev cX3_exchange : ByteArray := prog_5_method_11_code
def yX3_exchange : MethodName := ⟨RX3, "exchange", "(II)V"⟩
abbrev cX4_isHeavy : ByteArray := prog_1_method_48_code
def yX4_isHeavy : MethodName := ⟨RX4, "isHeavy", "(IIII)Z"⟩
def wsX4_isHeavy : List Cond := .code yX4_isHeavy cX4_isHeavy 4 (some .boolean) :: ([])
def wsX3_clear : List Cond := .code yX3_clear cX3_clear 1 none :: ([.fieldLink RX3 18 "MajorityIndex$Votes" "size" "I", .fieldLink RX3 22 "MajorityIndex$Votes" "lost" "I", .fieldLink RX3 25 "MajorityIndex$Votes" "lessBy" "I"] ++ wsX30)
def wsX3_add : List Cond := .code yX3_add cX3_add 4 none :: ([.fieldLink RX3 18 "MajorityIndex$Votes" "size" "I", .fieldLink RX3 9 "MajorityIndex$Votes" "value" "[I", .fieldLink RX3 15 "MajorityIndex$Votes" "number" "[I"] ++ wsX30)
def wsX3_isAhead : List Cond := .code yX3_isAhead cX3_isAhead 3 (some .boolean) :: ([.fieldLink RX3 15 "MajorityIndex$Votes" "number" "[I", .fieldLink RX3 9 "MajorityIndex$Votes" "value" "[I"] ++ wsX30)
def wsX3_exchange : List Cond := .code yX3_exchange cX3_exchange 5 none :: ([.fieldLink RX3 9 "MajorityIndex$Votes" "value" "[I", .fieldLink RX3 15 "MajorityIndex$Votes" "number" "[I"] ++ wsX30)
def wsX3_order : List Cond := .code yX3_order cX3_order 3 none :: ([.fieldLink RX3 18 "MajorityIndex$Votes" "size" "I", .methodLink RX3 35 yX3_isAhead, .instanceMethod yX3_isAhead, .selects RX3 yX3_isAhead yX3_isAhead, .initialized RX3, .code yX3_isAhead cX3_isAhead 3 (some .boolean), .fieldLink RX3 15 "MajorityIndex$Votes" "number" "[I", .fieldLink RX3 9 "MajorityIndex$Votes" "value" "[I", .methodLink RX3 39 yX3_exchange, .instanceMethod yX3_exchange, .selects RX3 yX3_exchange yX3_exchange, .code yX3_exchange cX3_exchange 5 none] ++ wsX30)
def wsX3_cancel : List Cond := .code yX3_cancel cX3_cancel 4 none :: ([.fieldLink RX3 18 "MajorityIndex$Votes" "size" "I", .fieldLink RX3 15 "MajorityIndex$Votes" "number" "[I", .fieldLink RX3 25 "MajorityIndex$Votes" "lessBy" "I", .fieldLink RX3 22 "MajorityIndex$Votes" "lost" "I", .methodLink RX3 32 yX3_order, .instanceMethod yX3_order, .selects RX3 yX3_order yX3_order, .initialized RX3, .code yX3_order cX3_order 3 none, .methodLink RX3 35 yX3_isAhead, .instanceMethod yX3_isAhead, .selects RX3 yX3_isAhead yX3_isAhead, .code yX3_isAhead cX3_isAhead 3 (some .boolean), .fieldLink RX3 9 "MajorityIndex$Votes" "value" "[I", .methodLink RX3 39 yX3_exchange, .instanceMethod yX3_exchange, .selects RX3 yX3_exchange yX3_exchange, .code yX3_exchange cX3_exchange 5 none] ++ wsX30)
def wsX3_join : List Cond := .code yX3_join cX3_join 3 none :: ([.fieldLink RX3 18 "MajorityIndex$Votes" "size" "I", .fieldLink RX3 9 "MajorityIndex$Votes" "value" "[I", .fieldLink RX3 15 "MajorityIndex$Votes" "number" "[I", .fieldLink RX3 22 "MajorityIndex$Votes" "lost" "I", .methodLink RX3 28 yX3_add, .instanceMethod yX3_add, .selects RX3 yX3_add yX3_add, .initialized RX3, .code yX3_add cX3_add 4 none] ++ wsX30)
def wsX3_keepHeavy : List Cond := .code yX3_keepHeavy cX3_keepHeavy 6 none :: ([.fieldLink RX3 18 "MajorityIndex$Votes" "size" "I", .fieldLink RX3 15 "MajorityIndex$Votes" "number" "[I", .static yX4_isHeavy, .initialized RX4, .code yX4_isHeavy cX4_isHeavy 4 (some .boolean), .methodLink RX3 39 yX3_exchange, .instanceMethod yX3_exchange, .selects RX3 yX3_exchange yX3_exchange, .initialized RX3, .code yX3_exchange cX3_exchange 5 none, .fieldLink RX3 9 "MajorityIndex$Votes" "value" "[I", .methodLink RX3 32 yX3_order, .instanceMethod yX3_order, .selects RX3 yX3_order yX3_order, .code yX3_order cX3_order 3 none, .methodLink RX3 35 yX3_isAhead, .instanceMethod yX3_isAhead, .selects RX3 yX3_isAhead yX3_isAhead, .code yX3_isAhead cX3_isAhead 3 (some .boolean)] ++ wsX30)
def wsX3_numberOf : List Cond := .code yX3_numberOf cX3_numberOf 3 (some .int) :: ([.fieldLink RX3 18 "MajorityIndex$Votes" "size" "I", .fieldLink RX3 9 "MajorityIndex$Votes" "value" "[I", .fieldLink RX3 15 "MajorityIndex$Votes" "number" "[I"] ++ wsX30)
def wsX3_total : List Cond := .code yX3_total cX3_total 3 (some .int) :: ([.fieldLink RX3 18 "MajorityIndex$Votes" "size" "I", .fieldLink RX3 15 "MajorityIndex$Votes" "number" "[I"] ++ wsX30)
def dt_cX3_clear_0 : List (Nat × Nat × Nat × Nat) := [(0, 42, 0, 0), (1, 3, 0, 0), (2, 181, 2, 18), (5, 42, 0, 0), (6, 3, 0, 0), (7, 181, 2, 22), (10, 42, 0, 0), (11, 3, 0, 0), (12, 181, 2, 25), (15, 177, 0, 0)]
theorem da_cX3_clear_0 : fw dt_cX3_clear_0 0 cX3_clear.data.toList = true := by decide +kernel
theorem dX3_clear_0 : decode cX3_clear 0 = .ok (.aload_n 0, 1) := fo_42 (fw_get da_cX3_clear_0 0 rfl)
theorem dX3_clear_1 : decode cX3_clear 1 = .ok (.iconst 0, 1) := fo_3 (fw_get da_cX3_clear_0 1 rfl)
theorem dX3_clear_2 : decode cX3_clear 2 = .ok (.putfield 18, 3) := fo_181 (fw_get da_cX3_clear_0 2 rfl)
theorem dX3_clear_5 : decode cX3_clear 5 = .ok (.aload_n 0, 1) := fo_42 (fw_get da_cX3_clear_0 3 rfl)
theorem dX3_clear_6 : decode cX3_clear 6 = .ok (.iconst 0, 1) := fo_3 (fw_get da_cX3_clear_0 4 rfl)
theorem dX3_clear_7 : decode cX3_clear 7 = .ok (.putfield 22, 3) := fo_181 (fw_get da_cX3_clear_0 5 rfl)
theorem dX3_clear_10 : decode cX3_clear 10 = .ok (.aload_n 0, 1) := fo_42 (fw_get da_cX3_clear_0 6 rfl)
theorem dX3_clear_11 : decode cX3_clear 11 = .ok (.iconst 0, 1) := fo_3 (fw_get da_cX3_clear_0 7 rfl)
theorem dX3_clear_12 : decode cX3_clear 12 = .ok (.putfield 25, 3) := fo_181 (fw_get da_cX3_clear_0 8 rfl)
theorem dX3_clear_15 : decode cX3_clear 15 = .ok (.return_, 1) := fo_177 (fw_get da_cX3_clear_0 9 rfl)
def dt_cX3_add_0 : List (Nat × Nat × Nat × Nat) := [(0, 3, 0, 0), (1, 62, 0, 0), (2, 29, 0, 0), (3, 42, 0, 0), (4, 180, 2, 18), (7, 162, 2, 30), (10, 42, 0, 0), (11, 180, 2, 9), (14, 29, 0, 0), (15, 46, 0, 0), (16, 27, 0, 0), (17, 160, 2, 14), (20, 42, 0, 0), (21, 180, 2, 15), (24, 29, 0, 0), (25, 92, 0, 0), (26, 46, 0, 0), (27, 28, 0, 0), (28, 96, 0, 0), (29, 79, 0, 0)]
theorem da_cX3_add_0 : fw dt_cX3_add_0 0 cX3_add.data.toList = true := by decide +kernel
theorem dX3_add_0 : decode cX3_add 0 = .ok (.iconst 0, 1) := fo_3 (fw_get da_cX3_add_0 0 rfl)
theorem dX3_add_1 : decode cX3_add 1 = .ok (.istore_n 3, 1) := fo_62 (fw_get da_cX3_add_0 1 rfl)
theorem dX3_add_2 : decode cX3_add 2 = .ok (.iload_n 3, 1) := fo_29 (fw_get da_cX3_add_0 2 rfl)
theorem dX3_add_3 : decode cX3_add 3 = .ok (.aload_n 0, 1) := fo_42 (fw_get da_cX3_add_0 3 rfl)
theorem dX3_add_4 : decode cX3_add 4 = .ok (.getfield 18, 3) := fo_180 (fw_get da_cX3_add_0 4 rfl)
theorem dX3_add_7 : decode cX3_add 7 = .ok (.if_icmp .ge 30, 3) := fo_162 (fw_get da_cX3_add_0 5 rfl) (by decide +kernel)
theorem dX3_add_10 : decode cX3_add 10 = .ok (.aload_n 0, 1) := fo_42 (fw_get da_cX3_add_0 6 rfl)
theorem dX3_add_11 : decode cX3_add 11 = .ok (.getfield 9, 3) := fo_180 (fw_get da_cX3_add_0 7 rfl)
theorem dX3_add_14 : decode cX3_add 14 = .ok (.iload_n 3, 1) := fo_29 (fw_get da_cX3_add_0 8 rfl)
theorem dX3_add_15 : decode cX3_add 15 = .ok (.iaload, 1) := fo_46 (fw_get da_cX3_add_0 9 rfl)
theorem dX3_add_16 : decode cX3_add 16 = .ok (.iload_n 1, 1) := fo_27 (fw_get da_cX3_add_0 10 rfl)
theorem dX3_add_17 : decode cX3_add 17 = .ok (.if_icmp .ne 14, 3) := fo_160 (fw_get da_cX3_add_0 11 rfl) (by decide +kernel)
theorem dX3_add_20 : decode cX3_add 20 = .ok (.aload_n 0, 1) := fo_42 (fw_get da_cX3_add_0 12 rfl)
theorem dX3_add_21 : decode cX3_add 21 = .ok (.getfield 15, 3) := fo_180 (fw_get da_cX3_add_0 13 rfl)
theorem dX3_add_24 : decode cX3_add 24 = .ok (.iload_n 3, 1) := fo_29 (fw_get da_cX3_add_0 14 rfl)
theorem dX3_add_25 : decode cX3_add 25 = .ok (.dup2, 1) := fo_92 (fw_get da_cX3_add_0 15 rfl)
theorem dX3_add_26 : decode cX3_add 26 = .ok (.iaload, 1) := fo_46 (fw_get da_cX3_add_0 16 rfl)
theorem dX3_add_27 : decode cX3_add 27 = .ok (.iload_n 2, 1) := fo_28 (fw_get da_cX3_add_0 17 rfl)
theorem dX3_add_28 : decode cX3_add 28 = .ok (.iadd, 1) := fo_96 (fw_get da_cX3_add_0 18 rfl)
theorem dX3_add_29 : decode cX3_add 29 = .ok (.iastore, 1) := fo_79 (fw_get da_cX3_add_0 19 rfl)
def dt_cX3_add_1 : List (Nat × Nat × Nat × Nat) := [(30, 177, 0, 0), (31, 132, 2, 769), (34, 167, 2, 65504), (37, 42, 0, 0), (38, 180, 2, 18), (41, 42, 0, 0), (42, 180, 2, 9), (45, 190, 0, 0), (46, 162, 2, 33), (49, 42, 0, 0), (50, 180, 2, 9), (53, 42, 0, 0), (54, 180, 2, 18), (57, 27, 0, 0), (58, 79, 0, 0), (59, 42, 0, 0), (60, 180, 2, 15), (63, 42, 0, 0), (64, 180, 2, 18), (67, 28, 0, 0)]
theorem da_cX3_add_1 : fw dt_cX3_add_1 0 cX3_add.data.toList = true := by decide +kernel
theorem dX3_add_30 : decode cX3_add 30 = .ok (.return_, 1) := fo_177 (fw_get da_cX3_add_1 0 rfl)
theorem dX3_add_31 : decode cX3_add 31 = .ok (.iinc 3 1, 3) := fo_132 (fw_get da_cX3_add_1 1 rfl) rfl (by decide +kernel)
theorem dX3_add_34 : decode cX3_add 34 = .ok (.goto (-32), 3) := fo_167 (fw_get da_cX3_add_1 2 rfl) (by decide +kernel)
theorem dX3_add_37 : decode cX3_add 37 = .ok (.aload_n 0, 1) := fo_42 (fw_get da_cX3_add_1 3 rfl)
theorem dX3_add_38 : decode cX3_add 38 = .ok (.getfield 18, 3) := fo_180 (fw_get da_cX3_add_1 4 rfl)
theorem dX3_add_41 : decode cX3_add 41 = .ok (.aload_n 0, 1) := fo_42 (fw_get da_cX3_add_1 5 rfl)
theorem dX3_add_42 : decode cX3_add 42 = .ok (.getfield 9, 3) := fo_180 (fw_get da_cX3_add_1 6 rfl)
theorem dX3_add_45 : decode cX3_add 45 = .ok (.arraylength, 1) := fo_190 (fw_get da_cX3_add_1 7 rfl)
theorem dX3_add_46 : decode cX3_add 46 = .ok (.if_icmp .ge 33, 3) := fo_162 (fw_get da_cX3_add_1 8 rfl) (by decide +kernel)
theorem dX3_add_49 : decode cX3_add 49 = .ok (.aload_n 0, 1) := fo_42 (fw_get da_cX3_add_1 9 rfl)
theorem dX3_add_50 : decode cX3_add 50 = .ok (.getfield 9, 3) := fo_180 (fw_get da_cX3_add_1 10 rfl)
theorem dX3_add_53 : decode cX3_add 53 = .ok (.aload_n 0, 1) := fo_42 (fw_get da_cX3_add_1 11 rfl)
theorem dX3_add_54 : decode cX3_add 54 = .ok (.getfield 18, 3) := fo_180 (fw_get da_cX3_add_1 12 rfl)
theorem dX3_add_57 : decode cX3_add 57 = .ok (.iload_n 1, 1) := fo_27 (fw_get da_cX3_add_1 13 rfl)
theorem dX3_add_58 : decode cX3_add 58 = .ok (.iastore, 1) := fo_79 (fw_get da_cX3_add_1 14 rfl)
theorem dX3_add_59 : decode cX3_add 59 = .ok (.aload_n 0, 1) := fo_42 (fw_get da_cX3_add_1 15 rfl)
theorem dX3_add_60 : decode cX3_add 60 = .ok (.getfield 15, 3) := fo_180 (fw_get da_cX3_add_1 16 rfl)
theorem dX3_add_63 : decode cX3_add 63 = .ok (.aload_n 0, 1) := fo_42 (fw_get da_cX3_add_1 17 rfl)
theorem dX3_add_64 : decode cX3_add 64 = .ok (.getfield 18, 3) := fo_180 (fw_get da_cX3_add_1 18 rfl)
theorem dX3_add_67 : decode cX3_add 67 = .ok (.iload_n 2, 1) := fo_28 (fw_get da_cX3_add_1 19 rfl)
def dt_cX3_add_2 : List (Nat × Nat × Nat × Nat) := [(68, 79, 0, 0), (69, 42, 0, 0), (70, 89, 0, 0), (71, 180, 2, 18), (74, 4, 0, 0), (75, 96, 0, 0), (76, 181, 2, 18), (79, 177, 0, 0)]
theorem da_cX3_add_2 : fw dt_cX3_add_2 0 cX3_add.data.toList = true := by decide +kernel
theorem dX3_add_68 : decode cX3_add 68 = .ok (.iastore, 1) := fo_79 (fw_get da_cX3_add_2 0 rfl)
theorem dX3_add_69 : decode cX3_add 69 = .ok (.aload_n 0, 1) := fo_42 (fw_get da_cX3_add_2 1 rfl)
theorem dX3_add_70 : decode cX3_add 70 = .ok (.dup, 1) := fo_89 (fw_get da_cX3_add_2 2 rfl)
theorem dX3_add_71 : decode cX3_add 71 = .ok (.getfield 18, 3) := fo_180 (fw_get da_cX3_add_2 3 rfl)
theorem dX3_add_74 : decode cX3_add 74 = .ok (.iconst 1, 1) := fo_4 (fw_get da_cX3_add_2 4 rfl)
theorem dX3_add_75 : decode cX3_add 75 = .ok (.iadd, 1) := fo_96 (fw_get da_cX3_add_2 5 rfl)
theorem dX3_add_76 : decode cX3_add 76 = .ok (.putfield 18, 3) := fo_181 (fw_get da_cX3_add_2 6 rfl)
theorem dX3_add_79 : decode cX3_add 79 = .ok (.return_, 1) := fo_177 (fw_get da_cX3_add_2 7 rfl)
set_option maxRecDepth 20000 in
theorem ggX3_join_X3_add : GoodIn wsX3_join wsX3_add := goodIn_r _ [9, 1, 2, 3, 10, 11, 12, 13, 14] rfl (by decide +kernel)
set_option maxRecDepth 20000 in
theorem gX3_join_X3_add : GoodIn wsX3_join (wsV RX3 28 RX3 yX3_add wsX3_add) := goodIn_app (goodIn_r _ [5, 6, 7, 8] rfl (by decide +kernel)) ggX3_join_X3_add
def dt_cX3_join_0 : List (Nat × Nat × Nat × Nat) := [(0, 3, 0, 0), (1, 61, 0, 0), (2, 28, 0, 0), (3, 43, 0, 0), (4, 180, 2, 18), (7, 162, 2, 25), (10, 42, 0, 0), (11, 43, 0, 0), (12, 180, 2, 9), (15, 28, 0, 0), (16, 46, 0, 0), (17, 43, 0, 0), (18, 180, 2, 15), (21, 28, 0, 0), (22, 46, 0, 0), (23, 182, 2, 28), (26, 132, 2, 513), (29, 167, 2, 65509), (32, 42, 0, 0), (33, 89, 0, 0)]
theorem da_cX3_join_0 : fw dt_cX3_join_0 0 cX3_join.data.toList = true := by decide +kernel
theorem dX3_join_0 : decode cX3_join 0 = .ok (.iconst 0, 1) := fo_3 (fw_get da_cX3_join_0 0 rfl)
theorem dX3_join_1 : decode cX3_join 1 = .ok (.istore_n 2, 1) := fo_61 (fw_get da_cX3_join_0 1 rfl)
theorem dX3_join_2 : decode cX3_join 2 = .ok (.iload_n 2, 1) := fo_28 (fw_get da_cX3_join_0 2 rfl)
theorem dX3_join_3 : decode cX3_join 3 = .ok (.aload_n 1, 1) := fo_43 (fw_get da_cX3_join_0 3 rfl)
theorem dX3_join_4 : decode cX3_join 4 = .ok (.getfield 18, 3) := fo_180 (fw_get da_cX3_join_0 4 rfl)
theorem dX3_join_7 : decode cX3_join 7 = .ok (.if_icmp .ge 25, 3) := fo_162 (fw_get da_cX3_join_0 5 rfl) (by decide +kernel)
theorem dX3_join_10 : decode cX3_join 10 = .ok (.aload_n 0, 1) := fo_42 (fw_get da_cX3_join_0 6 rfl)
theorem dX3_join_11 : decode cX3_join 11 = .ok (.aload_n 1, 1) := fo_43 (fw_get da_cX3_join_0 7 rfl)
theorem dX3_join_12 : decode cX3_join 12 = .ok (.getfield 9, 3) := fo_180 (fw_get da_cX3_join_0 8 rfl)
theorem dX3_join_15 : decode cX3_join 15 = .ok (.iload_n 2, 1) := fo_28 (fw_get da_cX3_join_0 9 rfl)
theorem dX3_join_16 : decode cX3_join 16 = .ok (.iaload, 1) := fo_46 (fw_get da_cX3_join_0 10 rfl)
theorem dX3_join_17 : decode cX3_join 17 = .ok (.aload_n 1, 1) := fo_43 (fw_get da_cX3_join_0 11 rfl)
theorem dX3_join_18 : decode cX3_join 18 = .ok (.getfield 15, 3) := fo_180 (fw_get da_cX3_join_0 12 rfl)
theorem dX3_join_21 : decode cX3_join 21 = .ok (.iload_n 2, 1) := fo_28 (fw_get da_cX3_join_0 13 rfl)
theorem dX3_join_22 : decode cX3_join 22 = .ok (.iaload, 1) := fo_46 (fw_get da_cX3_join_0 14 rfl)
theorem dX3_join_23 : decode cX3_join 23 = .ok (.invokevirtual 28, 3) := fo_182 (fw_get da_cX3_join_0 15 rfl)
theorem dX3_join_26 : decode cX3_join 26 = .ok (.iinc 2 1, 3) := fo_132 (fw_get da_cX3_join_0 16 rfl) rfl (by decide +kernel)
theorem dX3_join_29 : decode cX3_join 29 = .ok (.goto (-27), 3) := fo_167 (fw_get da_cX3_join_0 17 rfl) (by decide +kernel)
theorem dX3_join_32 : decode cX3_join 32 = .ok (.aload_n 0, 1) := fo_42 (fw_get da_cX3_join_0 18 rfl)
theorem dX3_join_33 : decode cX3_join 33 = .ok (.dup, 1) := fo_89 (fw_get da_cX3_join_0 19 rfl)
def dt_cX3_join_1 : List (Nat × Nat × Nat × Nat) := [(34, 180, 2, 22), (37, 43, 0, 0), (38, 180, 2, 22), (41, 96, 0, 0), (42, 181, 2, 22), (45, 177, 0, 0)]
theorem da_cX3_join_1 : fw dt_cX3_join_1 0 cX3_join.data.toList = true := by decide +kernel
theorem dX3_join_34 : decode cX3_join 34 = .ok (.getfield 22, 3) := fo_180 (fw_get da_cX3_join_1 0 rfl)
theorem dX3_join_37 : decode cX3_join 37 = .ok (.aload_n 1, 1) := fo_43 (fw_get da_cX3_join_1 1 rfl)
theorem dX3_join_38 : decode cX3_join 38 = .ok (.getfield 22, 3) := fo_180 (fw_get da_cX3_join_1 2 rfl)
theorem dX3_join_41 : decode cX3_join 41 = .ok (.iadd, 1) := fo_96 (fw_get da_cX3_join_1 3 rfl)
theorem dX3_join_42 : decode cX3_join 42 = .ok (.putfield 22, 3) := fo_181 (fw_get da_cX3_join_1 4 rfl)
theorem dX3_join_45 : decode cX3_join 45 = .ok (.return_, 1) := fo_177 (fw_get da_cX3_join_1 5 rfl)
set_option maxRecDepth 20000 in
theorem ggX3_cancel_X3_order : GoodIn wsX3_cancel wsX3_order := goodIn_r _ [9, 1, 10, 11, 12, 8, 13, 2, 14, 15, 16, 17, 18, 19, 20, 21, 22, 23] rfl (by decide +kernel)
set_option maxRecDepth 20000 in
theorem gX3_cancel_X3_order : GoodIn wsX3_cancel (wsV RX3 32 RX3 yX3_order wsX3_order) := goodIn_app (goodIn_r _ [5, 6, 7, 8] rfl (by decide +kernel)) ggX3_cancel_X3_order
def dt_cX3_cancel_0 : List (Nat × Nat × Nat × Nat) := [(0, 42, 0, 0), (1, 182, 2, 32), (4, 42, 0, 0), (5, 27, 0, 0), (6, 155, 2, 20), (9, 27, 0, 0), (10, 42, 0, 0), (11, 180, 2, 18), (14, 162, 2, 12), (17, 42, 0, 0), (18, 180, 2, 15), (21, 27, 0, 0), (22, 46, 0, 0), (23, 167, 2, 4), (26, 3, 0, 0), (27, 181, 2, 25), (30, 42, 0, 0), (31, 89, 0, 0), (32, 180, 2, 22), (35, 42, 0, 0)]
theorem da_cX3_cancel_0 : fw dt_cX3_cancel_0 0 cX3_cancel.data.toList = true := by decide +kernel
theorem dX3_cancel_0 : decode cX3_cancel 0 = .ok (.aload_n 0, 1) := fo_42 (fw_get da_cX3_cancel_0 0 rfl)
theorem dX3_cancel_1 : decode cX3_cancel 1 = .ok (.invokevirtual 32, 3) := fo_182 (fw_get da_cX3_cancel_0 1 rfl)
theorem dX3_cancel_4 : decode cX3_cancel 4 = .ok (.aload_n 0, 1) := fo_42 (fw_get da_cX3_cancel_0 2 rfl)
theorem dX3_cancel_5 : decode cX3_cancel 5 = .ok (.iload_n 1, 1) := fo_27 (fw_get da_cX3_cancel_0 3 rfl)
theorem dX3_cancel_6 : decode cX3_cancel 6 = .ok (.ifCond .lt 20, 3) := fo_155 (fw_get da_cX3_cancel_0 4 rfl) (by decide +kernel)
theorem dX3_cancel_9 : decode cX3_cancel 9 = .ok (.iload_n 1, 1) := fo_27 (fw_get da_cX3_cancel_0 5 rfl)
theorem dX3_cancel_10 : decode cX3_cancel 10 = .ok (.aload_n 0, 1) := fo_42 (fw_get da_cX3_cancel_0 6 rfl)
theorem dX3_cancel_11 : decode cX3_cancel 11 = .ok (.getfield 18, 3) := fo_180 (fw_get da_cX3_cancel_0 7 rfl)
theorem dX3_cancel_14 : decode cX3_cancel 14 = .ok (.if_icmp .ge 12, 3) := fo_162 (fw_get da_cX3_cancel_0 8 rfl) (by decide +kernel)
theorem dX3_cancel_17 : decode cX3_cancel 17 = .ok (.aload_n 0, 1) := fo_42 (fw_get da_cX3_cancel_0 9 rfl)
theorem dX3_cancel_18 : decode cX3_cancel 18 = .ok (.getfield 15, 3) := fo_180 (fw_get da_cX3_cancel_0 10 rfl)
theorem dX3_cancel_21 : decode cX3_cancel 21 = .ok (.iload_n 1, 1) := fo_27 (fw_get da_cX3_cancel_0 11 rfl)
theorem dX3_cancel_22 : decode cX3_cancel 22 = .ok (.iaload, 1) := fo_46 (fw_get da_cX3_cancel_0 12 rfl)
theorem dX3_cancel_23 : decode cX3_cancel 23 = .ok (.goto 4, 3) := fo_167 (fw_get da_cX3_cancel_0 13 rfl) (by decide +kernel)
theorem dX3_cancel_26 : decode cX3_cancel 26 = .ok (.iconst 0, 1) := fo_3 (fw_get da_cX3_cancel_0 14 rfl)
theorem dX3_cancel_27 : decode cX3_cancel 27 = .ok (.putfield 25, 3) := fo_181 (fw_get da_cX3_cancel_0 15 rfl)
theorem dX3_cancel_30 : decode cX3_cancel 30 = .ok (.aload_n 0, 1) := fo_42 (fw_get da_cX3_cancel_0 16 rfl)
theorem dX3_cancel_31 : decode cX3_cancel 31 = .ok (.dup, 1) := fo_89 (fw_get da_cX3_cancel_0 17 rfl)
theorem dX3_cancel_32 : decode cX3_cancel 32 = .ok (.getfield 22, 3) := fo_180 (fw_get da_cX3_cancel_0 18 rfl)
theorem dX3_cancel_35 : decode cX3_cancel 35 = .ok (.aload_n 0, 1) := fo_42 (fw_get da_cX3_cancel_0 19 rfl)
def dt_cX3_cancel_1 : List (Nat × Nat × Nat × Nat) := [(36, 180, 2, 25), (39, 96, 0, 0), (40, 181, 2, 22), (43, 3, 0, 0), (44, 61, 0, 0), (45, 3, 0, 0), (46, 62, 0, 0), (47, 29, 0, 0), (48, 42, 0, 0), (49, 180, 2, 18), (52, 162, 2, 34), (55, 42, 0, 0), (56, 180, 2, 15), (59, 29, 0, 0), (60, 92, 0, 0), (61, 46, 0, 0), (62, 42, 0, 0), (63, 180, 2, 25), (66, 100, 0, 0), (67, 79, 0, 0)]
theorem da_cX3_cancel_1 : fw dt_cX3_cancel_1 0 cX3_cancel.data.toList = true := by decide +kernel
theorem dX3_cancel_36 : decode cX3_cancel 36 = .ok (.getfield 25, 3) := fo_180 (fw_get da_cX3_cancel_1 0 rfl)
theorem dX3_cancel_39 : decode cX3_cancel 39 = .ok (.iadd, 1) := fo_96 (fw_get da_cX3_cancel_1 1 rfl)
theorem dX3_cancel_40 : decode cX3_cancel 40 = .ok (.putfield 22, 3) := fo_181 (fw_get da_cX3_cancel_1 2 rfl)
theorem dX3_cancel_43 : decode cX3_cancel 43 = .ok (.iconst 0, 1) := fo_3 (fw_get da_cX3_cancel_1 3 rfl)
theorem dX3_cancel_44 : decode cX3_cancel 44 = .ok (.istore_n 2, 1) := fo_61 (fw_get da_cX3_cancel_1 4 rfl)
theorem dX3_cancel_45 : decode cX3_cancel 45 = .ok (.iconst 0, 1) := fo_3 (fw_get da_cX3_cancel_1 5 rfl)
theorem dX3_cancel_46 : decode cX3_cancel 46 = .ok (.istore_n 3, 1) := fo_62 (fw_get da_cX3_cancel_1 6 rfl)
theorem dX3_cancel_47 : decode cX3_cancel 47 = .ok (.iload_n 3, 1) := fo_29 (fw_get da_cX3_cancel_1 7 rfl)
theorem dX3_cancel_48 : decode cX3_cancel 48 = .ok (.aload_n 0, 1) := fo_42 (fw_get da_cX3_cancel_1 8 rfl)
theorem dX3_cancel_49 : decode cX3_cancel 49 = .ok (.getfield 18, 3) := fo_180 (fw_get da_cX3_cancel_1 9 rfl)
theorem dX3_cancel_52 : decode cX3_cancel 52 = .ok (.if_icmp .ge 34, 3) := fo_162 (fw_get da_cX3_cancel_1 10 rfl) (by decide +kernel)
theorem dX3_cancel_55 : decode cX3_cancel 55 = .ok (.aload_n 0, 1) := fo_42 (fw_get da_cX3_cancel_1 11 rfl)
theorem dX3_cancel_56 : decode cX3_cancel 56 = .ok (.getfield 15, 3) := fo_180 (fw_get da_cX3_cancel_1 12 rfl)
theorem dX3_cancel_59 : decode cX3_cancel 59 = .ok (.iload_n 3, 1) := fo_29 (fw_get da_cX3_cancel_1 13 rfl)
theorem dX3_cancel_60 : decode cX3_cancel 60 = .ok (.dup2, 1) := fo_92 (fw_get da_cX3_cancel_1 14 rfl)
theorem dX3_cancel_61 : decode cX3_cancel 61 = .ok (.iaload, 1) := fo_46 (fw_get da_cX3_cancel_1 15 rfl)
theorem dX3_cancel_62 : decode cX3_cancel 62 = .ok (.aload_n 0, 1) := fo_42 (fw_get da_cX3_cancel_1 16 rfl)
theorem dX3_cancel_63 : decode cX3_cancel 63 = .ok (.getfield 25, 3) := fo_180 (fw_get da_cX3_cancel_1 17 rfl)
theorem dX3_cancel_66 : decode cX3_cancel 66 = .ok (.isub, 1) := fo_100 (fw_get da_cX3_cancel_1 18 rfl)
theorem dX3_cancel_67 : decode cX3_cancel 67 = .ok (.iastore, 1) := fo_79 (fw_get da_cX3_cancel_1 19 rfl)
def dt_cX3_cancel_2 : List (Nat × Nat × Nat × Nat) := [(68, 42, 0, 0), (69, 180, 2, 15), (72, 29, 0, 0), (73, 46, 0, 0), (74, 158, 2, 6), (77, 132, 2, 513), (80, 132, 2, 769), (83, 167, 2, 65500), (86, 42, 0, 0), (87, 28, 0, 0), (88, 181, 2, 18), (91, 177, 0, 0)]
theorem da_cX3_cancel_2 : fw dt_cX3_cancel_2 0 cX3_cancel.data.toList = true := by decide +kernel
theorem dX3_cancel_68 : decode cX3_cancel 68 = .ok (.aload_n 0, 1) := fo_42 (fw_get da_cX3_cancel_2 0 rfl)
theorem dX3_cancel_69 : decode cX3_cancel 69 = .ok (.getfield 15, 3) := fo_180 (fw_get da_cX3_cancel_2 1 rfl)
theorem dX3_cancel_72 : decode cX3_cancel 72 = .ok (.iload_n 3, 1) := fo_29 (fw_get da_cX3_cancel_2 2 rfl)
theorem dX3_cancel_73 : decode cX3_cancel 73 = .ok (.iaload, 1) := fo_46 (fw_get da_cX3_cancel_2 3 rfl)
theorem dX3_cancel_74 : decode cX3_cancel 74 = .ok (.ifCond .le 6, 3) := fo_158 (fw_get da_cX3_cancel_2 4 rfl) (by decide +kernel)
theorem dX3_cancel_77 : decode cX3_cancel 77 = .ok (.iinc 2 1, 3) := fo_132 (fw_get da_cX3_cancel_2 5 rfl) rfl (by decide +kernel)
theorem dX3_cancel_80 : decode cX3_cancel 80 = .ok (.iinc 3 1, 3) := fo_132 (fw_get da_cX3_cancel_2 6 rfl) rfl (by decide +kernel)
theorem dX3_cancel_83 : decode cX3_cancel 83 = .ok (.goto (-36), 3) := fo_167 (fw_get da_cX3_cancel_2 7 rfl) (by decide +kernel)
theorem dX3_cancel_86 : decode cX3_cancel 86 = .ok (.aload_n 0, 1) := fo_42 (fw_get da_cX3_cancel_2 8 rfl)
theorem dX3_cancel_87 : decode cX3_cancel 87 = .ok (.iload_n 2, 1) := fo_28 (fw_get da_cX3_cancel_2 9 rfl)
theorem dX3_cancel_88 : decode cX3_cancel 88 = .ok (.putfield 18, 3) := fo_181 (fw_get da_cX3_cancel_2 10 rfl)
theorem dX3_cancel_91 : decode cX3_cancel 91 = .ok (.return_, 1) := fo_177 (fw_get da_cX3_cancel_2 11 rfl)
set_option maxRecDepth 20000 in
theorem ggX3_order_X3_isAhead : GoodIn wsX3_order wsX3_isAhead := goodIn_r _ [6, 7, 8, 13, 14, 15, 16, 17] rfl (by decide +kernel)
set_option maxRecDepth 20000 in
theorem gX3_order_X3_isAhead : GoodIn wsX3_order (wsV RX3 35 RX3 yX3_isAhead wsX3_isAhead) := goodIn_app (goodIn_r _ [2, 3, 4, 5] rfl (by decide +kernel)) ggX3_order_X3_isAhead
set_option maxRecDepth 20000 in
theorem ggX3_order_X3_exchange : GoodIn wsX3_order wsX3_exchange := goodIn_r _ [12, 8, 7, 13, 14, 15, 16, 17] rfl (by decide +kernel)
set_option maxRecDepth 20000 in
theorem gX3_order_X3_exchange : GoodIn wsX3_order (wsV RX3 39 RX3 yX3_exchange wsX3_exchange) := goodIn_app (goodIn_r _ [9, 10, 11, 5] rfl (by decide +kernel)) ggX3_order_X3_exchange
def dt_cX3_order_0 : List (Nat × Nat × Nat × Nat) := [(0, 4, 0, 0), (1, 60, 0, 0), (2, 27, 0, 0), (3, 42, 0, 0), (4, 180, 2, 18), (7, 162, 2, 40), (10, 27, 0, 0), (11, 61, 0, 0), (12, 28, 0, 0), (13, 158, 2, 28), (16, 42, 0, 0), (17, 28, 0, 0), (18, 28, 0, 0), (19, 4, 0, 0), (20, 100, 0, 0), (21, 182, 2, 35), (24, 153, 2, 17), (27, 42, 0, 0), (28, 28, 0, 0), (29, 28, 0, 0)]
theorem da_cX3_order_0 : fw dt_cX3_order_0 0 cX3_order.data.toList = true := by decide +kernel
theorem dX3_order_0 : decode cX3_order 0 = .ok (.iconst 1, 1) := fo_4 (fw_get da_cX3_order_0 0 rfl)
theorem dX3_order_1 : decode cX3_order 1 = .ok (.istore_n 1, 1) := fo_60 (fw_get da_cX3_order_0 1 rfl)
theorem dX3_order_2 : decode cX3_order 2 = .ok (.iload_n 1, 1) := fo_27 (fw_get da_cX3_order_0 2 rfl)
theorem dX3_order_3 : decode cX3_order 3 = .ok (.aload_n 0, 1) := fo_42 (fw_get da_cX3_order_0 3 rfl)
theorem dX3_order_4 : decode cX3_order 4 = .ok (.getfield 18, 3) := fo_180 (fw_get da_cX3_order_0 4 rfl)
theorem dX3_order_7 : decode cX3_order 7 = .ok (.if_icmp .ge 40, 3) := fo_162 (fw_get da_cX3_order_0 5 rfl) (by decide +kernel)
theorem dX3_order_10 : decode cX3_order 10 = .ok (.iload_n 1, 1) := fo_27 (fw_get da_cX3_order_0 6 rfl)
theorem dX3_order_11 : decode cX3_order 11 = .ok (.istore_n 2, 1) := fo_61 (fw_get da_cX3_order_0 7 rfl)
theorem dX3_order_12 : decode cX3_order 12 = .ok (.iload_n 2, 1) := fo_28 (fw_get da_cX3_order_0 8 rfl)
theorem dX3_order_13 : decode cX3_order 13 = .ok (.ifCond .le 28, 3) := fo_158 (fw_get da_cX3_order_0 9 rfl) (by decide +kernel)
theorem dX3_order_16 : decode cX3_order 16 = .ok (.aload_n 0, 1) := fo_42 (fw_get da_cX3_order_0 10 rfl)
theorem dX3_order_17 : decode cX3_order 17 = .ok (.iload_n 2, 1) := fo_28 (fw_get da_cX3_order_0 11 rfl)
theorem dX3_order_18 : decode cX3_order 18 = .ok (.iload_n 2, 1) := fo_28 (fw_get da_cX3_order_0 12 rfl)
theorem dX3_order_19 : decode cX3_order 19 = .ok (.iconst 1, 1) := fo_4 (fw_get da_cX3_order_0 13 rfl)
theorem dX3_order_20 : decode cX3_order 20 = .ok (.isub, 1) := fo_100 (fw_get da_cX3_order_0 14 rfl)
theorem dX3_order_21 : decode cX3_order 21 = .ok (.invokevirtual 35, 3) := fo_182 (fw_get da_cX3_order_0 15 rfl)
theorem dX3_order_24 : decode cX3_order 24 = .ok (.ifCond .eq 17, 3) := fo_153 (fw_get da_cX3_order_0 16 rfl) (by decide +kernel)
theorem dX3_order_27 : decode cX3_order 27 = .ok (.aload_n 0, 1) := fo_42 (fw_get da_cX3_order_0 17 rfl)
theorem dX3_order_28 : decode cX3_order 28 = .ok (.iload_n 2, 1) := fo_28 (fw_get da_cX3_order_0 18 rfl)
theorem dX3_order_29 : decode cX3_order 29 = .ok (.iload_n 2, 1) := fo_28 (fw_get da_cX3_order_0 19 rfl)
def dt_cX3_order_1 : List (Nat × Nat × Nat × Nat) := [(30, 4, 0, 0), (31, 100, 0, 0), (32, 182, 2, 39), (35, 132, 2, 767), (38, 167, 2, 65510), (41, 132, 2, 257), (44, 167, 2, 65494), (47, 177, 0, 0)]
theorem da_cX3_order_1 : fw dt_cX3_order_1 0 cX3_order.data.toList = true := by decide +kernel
theorem dX3_order_30 : decode cX3_order 30 = .ok (.iconst 1, 1) := fo_4 (fw_get da_cX3_order_1 0 rfl)
theorem dX3_order_31 : decode cX3_order 31 = .ok (.isub, 1) := fo_100 (fw_get da_cX3_order_1 1 rfl)
theorem dX3_order_32 : decode cX3_order 32 = .ok (.invokevirtual 39, 3) := fo_182 (fw_get da_cX3_order_1 2 rfl)
theorem dX3_order_35 : decode cX3_order 35 = .ok (.iinc 2 (-1), 3) := fo_132 (fw_get da_cX3_order_1 3 rfl) rfl (by decide +kernel)
theorem dX3_order_38 : decode cX3_order 38 = .ok (.goto (-26), 3) := fo_167 (fw_get da_cX3_order_1 4 rfl) (by decide +kernel)
theorem dX3_order_41 : decode cX3_order 41 = .ok (.iinc 1 1, 3) := fo_132 (fw_get da_cX3_order_1 5 rfl) rfl (by decide +kernel)
theorem dX3_order_44 : decode cX3_order 44 = .ok (.goto (-42), 3) := fo_167 (fw_get da_cX3_order_1 6 rfl) (by decide +kernel)
theorem dX3_order_47 : decode cX3_order 47 = .ok (.return_, 1) := fo_177 (fw_get da_cX3_order_1 7 rfl)
set_option maxRecDepth 20000 in
theorem ggX3_keepHeavy_X4_isHeavy : GoodIn wsX3_keepHeavy wsX4_isHeavy := goodIn_r _ [5] rfl (by decide +kernel)
set_option maxRecDepth 20000 in
theorem ggX3_keepHeavy_X3_exchange : GoodIn wsX3_keepHeavy wsX3_exchange := goodIn_r _ [10, 11, 2, 20, 21, 22, 23, 24] rfl (by decide +kernel)
set_option maxRecDepth 20000 in
theorem gX3_keepHeavy_X3_exchange : GoodIn wsX3_keepHeavy (wsV RX3 39 RX3 yX3_exchange wsX3_exchange) := goodIn_app (goodIn_r _ [6, 7, 8, 9] rfl (by decide +kernel)) ggX3_keepHeavy_X3_exchange
set_option maxRecDepth 20000 in
theorem ggX3_keepHeavy_X3_order : GoodIn wsX3_keepHeavy wsX3_order := goodIn_r _ [15, 1, 16, 17, 18, 9, 19, 2, 11, 6, 7, 8, 10, 20, 21, 22, 23, 24] rfl (by decide +kernel)
set_option maxRecDepth 20000 in
theorem gX3_keepHeavy_X3_order : GoodIn wsX3_keepHeavy (wsV RX3 32 RX3 yX3_order wsX3_order) := goodIn_app (goodIn_r _ [12, 13, 14, 9] rfl (by decide +kernel)) ggX3_keepHeavy_X3_order
def dt_cX3_keepHeavy_0 : List (Nat × Nat × Nat × Nat) := [(0, 3, 0, 0), (1, 54, 1, 4), (3, 3, 0, 0), (4, 54, 1, 5), (6, 21, 1, 5), (8, 42, 0, 0), (9, 180, 2, 18), (12, 162, 2, 36), (15, 42, 0, 0), (16, 180, 2, 15), (19, 21, 1, 5), (21, 46, 0, 0), (22, 27, 0, 0), (23, 28, 0, 0), (24, 29, 0, 0), (25, 184, 2, 42), (28, 153, 2, 14), (31, 42, 0, 0), (32, 21, 1, 5), (34, 21, 1, 4)]
theorem da_cX3_keepHeavy_0 : fw dt_cX3_keepHeavy_0 0 cX3_keepHeavy.data.toList = true := by decide +kernel
theorem dX3_keepHeavy_0 : decode cX3_keepHeavy 0 = .ok (.iconst 0, 1) := fo_3 (fw_get da_cX3_keepHeavy_0 0 rfl)
theorem dX3_keepHeavy_1 : decode cX3_keepHeavy 1 = .ok (.istore 4, 2) := fo_54 (fw_get da_cX3_keepHeavy_0 1 rfl)
theorem dX3_keepHeavy_3 : decode cX3_keepHeavy 3 = .ok (.iconst 0, 1) := fo_3 (fw_get da_cX3_keepHeavy_0 2 rfl)
theorem dX3_keepHeavy_4 : decode cX3_keepHeavy 4 = .ok (.istore 5, 2) := fo_54 (fw_get da_cX3_keepHeavy_0 3 rfl)
theorem dX3_keepHeavy_6 : decode cX3_keepHeavy 6 = .ok (.iload 5, 2) := fo_21 (fw_get da_cX3_keepHeavy_0 4 rfl)
theorem dX3_keepHeavy_8 : decode cX3_keepHeavy 8 = .ok (.aload_n 0, 1) := fo_42 (fw_get da_cX3_keepHeavy_0 5 rfl)
theorem dX3_keepHeavy_9 : decode cX3_keepHeavy 9 = .ok (.getfield 18, 3) := fo_180 (fw_get da_cX3_keepHeavy_0 6 rfl)
theorem dX3_keepHeavy_12 : decode cX3_keepHeavy 12 = .ok (.if_icmp .ge 36, 3) := fo_162 (fw_get da_cX3_keepHeavy_0 7 rfl) (by decide +kernel)
theorem dX3_keepHeavy_15 : decode cX3_keepHeavy 15 = .ok (.aload_n 0, 1) := fo_42 (fw_get da_cX3_keepHeavy_0 8 rfl)
theorem dX3_keepHeavy_16 : decode cX3_keepHeavy 16 = .ok (.getfield 15, 3) := fo_180 (fw_get da_cX3_keepHeavy_0 9 rfl)
theorem dX3_keepHeavy_19 : decode cX3_keepHeavy 19 = .ok (.iload 5, 2) := fo_21 (fw_get da_cX3_keepHeavy_0 10 rfl)
theorem dX3_keepHeavy_21 : decode cX3_keepHeavy 21 = .ok (.iaload, 1) := fo_46 (fw_get da_cX3_keepHeavy_0 11 rfl)
theorem dX3_keepHeavy_22 : decode cX3_keepHeavy 22 = .ok (.iload_n 1, 1) := fo_27 (fw_get da_cX3_keepHeavy_0 12 rfl)
theorem dX3_keepHeavy_23 : decode cX3_keepHeavy 23 = .ok (.iload_n 2, 1) := fo_28 (fw_get da_cX3_keepHeavy_0 13 rfl)
theorem dX3_keepHeavy_24 : decode cX3_keepHeavy 24 = .ok (.iload_n 3, 1) := fo_29 (fw_get da_cX3_keepHeavy_0 14 rfl)
theorem dX3_keepHeavy_25 : decode cX3_keepHeavy 25 = .ok (.invokestatic 42, 3) := fo_184 (fw_get da_cX3_keepHeavy_0 15 rfl)
theorem dX3_keepHeavy_28 : decode cX3_keepHeavy 28 = .ok (.ifCond .eq 14, 3) := fo_153 (fw_get da_cX3_keepHeavy_0 16 rfl) (by decide +kernel)
theorem dX3_keepHeavy_31 : decode cX3_keepHeavy 31 = .ok (.aload_n 0, 1) := fo_42 (fw_get da_cX3_keepHeavy_0 17 rfl)
theorem dX3_keepHeavy_32 : decode cX3_keepHeavy 32 = .ok (.iload 5, 2) := fo_21 (fw_get da_cX3_keepHeavy_0 18 rfl)
theorem dX3_keepHeavy_34 : decode cX3_keepHeavy 34 = .ok (.iload 4, 2) := fo_21 (fw_get da_cX3_keepHeavy_0 19 rfl)
def dt_cX3_keepHeavy_1 : List (Nat × Nat × Nat × Nat) := [(36, 182, 2, 39), (39, 132, 2, 1025), (42, 132, 2, 1281), (45, 167, 2, 65497), (48, 42, 0, 0), (49, 21, 1, 4), (51, 181, 2, 18), (54, 42, 0, 0), (55, 182, 2, 32), (58, 177, 0, 0)]
theorem da_cX3_keepHeavy_1 : fw dt_cX3_keepHeavy_1 0 cX3_keepHeavy.data.toList = true := by decide +kernel
theorem dX3_keepHeavy_36 : decode cX3_keepHeavy 36 = .ok (.invokevirtual 39, 3) := fo_182 (fw_get da_cX3_keepHeavy_1 0 rfl)
theorem dX3_keepHeavy_39 : decode cX3_keepHeavy 39 = .ok (.iinc 4 1, 3) := fo_132 (fw_get da_cX3_keepHeavy_1 1 rfl) rfl (by decide +kernel)
theorem dX3_keepHeavy_42 : decode cX3_keepHeavy 42 = .ok (.iinc 5 1, 3) := fo_132 (fw_get da_cX3_keepHeavy_1 2 rfl) rfl (by decide +kernel)
theorem dX3_keepHeavy_45 : decode cX3_keepHeavy 45 = .ok (.goto (-39), 3) := fo_167 (fw_get da_cX3_keepHeavy_1 3 rfl) (by decide +kernel)
theorem dX3_keepHeavy_48 : decode cX3_keepHeavy 48 = .ok (.aload_n 0, 1) := fo_42 (fw_get da_cX3_keepHeavy_1 4 rfl)
theorem dX3_keepHeavy_49 : decode cX3_keepHeavy 49 = .ok (.iload 4, 2) := fo_21 (fw_get da_cX3_keepHeavy_1 5 rfl)
theorem dX3_keepHeavy_51 : decode cX3_keepHeavy 51 = .ok (.putfield 18, 3) := fo_181 (fw_get da_cX3_keepHeavy_1 6 rfl)
theorem dX3_keepHeavy_54 : decode cX3_keepHeavy 54 = .ok (.aload_n 0, 1) := fo_42 (fw_get da_cX3_keepHeavy_1 7 rfl)
theorem dX3_keepHeavy_55 : decode cX3_keepHeavy 55 = .ok (.invokevirtual 32, 3) := fo_182 (fw_get da_cX3_keepHeavy_1 8 rfl)
theorem dX3_keepHeavy_58 : decode cX3_keepHeavy 58 = .ok (.return_, 1) := fo_177 (fw_get da_cX3_keepHeavy_1 9 rfl)
def dt_cX3_numberOf_0 : List (Nat × Nat × Nat × Nat) := [(0, 3, 0, 0), (1, 61, 0, 0), (2, 28, 0, 0), (3, 42, 0, 0), (4, 180, 2, 18), (7, 162, 2, 26), (10, 42, 0, 0), (11, 180, 2, 9), (14, 28, 0, 0), (15, 46, 0, 0), (16, 27, 0, 0), (17, 160, 2, 10), (20, 42, 0, 0), (21, 180, 2, 15), (24, 28, 0, 0), (25, 46, 0, 0), (26, 172, 0, 0), (27, 132, 2, 513), (30, 167, 2, 65508), (33, 3, 0, 0)]
theorem da_cX3_numberOf_0 : fw dt_cX3_numberOf_0 0 cX3_numberOf.data.toList = true := by decide +kernel
theorem dX3_numberOf_0 : decode cX3_numberOf 0 = .ok (.iconst 0, 1) := fo_3 (fw_get da_cX3_numberOf_0 0 rfl)
theorem dX3_numberOf_1 : decode cX3_numberOf 1 = .ok (.istore_n 2, 1) := fo_61 (fw_get da_cX3_numberOf_0 1 rfl)
theorem dX3_numberOf_2 : decode cX3_numberOf 2 = .ok (.iload_n 2, 1) := fo_28 (fw_get da_cX3_numberOf_0 2 rfl)
theorem dX3_numberOf_3 : decode cX3_numberOf 3 = .ok (.aload_n 0, 1) := fo_42 (fw_get da_cX3_numberOf_0 3 rfl)
theorem dX3_numberOf_4 : decode cX3_numberOf 4 = .ok (.getfield 18, 3) := fo_180 (fw_get da_cX3_numberOf_0 4 rfl)
theorem dX3_numberOf_7 : decode cX3_numberOf 7 = .ok (.if_icmp .ge 26, 3) := fo_162 (fw_get da_cX3_numberOf_0 5 rfl) (by decide +kernel)
theorem dX3_numberOf_10 : decode cX3_numberOf 10 = .ok (.aload_n 0, 1) := fo_42 (fw_get da_cX3_numberOf_0 6 rfl)
theorem dX3_numberOf_11 : decode cX3_numberOf 11 = .ok (.getfield 9, 3) := fo_180 (fw_get da_cX3_numberOf_0 7 rfl)
theorem dX3_numberOf_14 : decode cX3_numberOf 14 = .ok (.iload_n 2, 1) := fo_28 (fw_get da_cX3_numberOf_0 8 rfl)
theorem dX3_numberOf_15 : decode cX3_numberOf 15 = .ok (.iaload, 1) := fo_46 (fw_get da_cX3_numberOf_0 9 rfl)
theorem dX3_numberOf_16 : decode cX3_numberOf 16 = .ok (.iload_n 1, 1) := fo_27 (fw_get da_cX3_numberOf_0 10 rfl)
theorem dX3_numberOf_17 : decode cX3_numberOf 17 = .ok (.if_icmp .ne 10, 3) := fo_160 (fw_get da_cX3_numberOf_0 11 rfl) (by decide +kernel)
theorem dX3_numberOf_20 : decode cX3_numberOf 20 = .ok (.aload_n 0, 1) := fo_42 (fw_get da_cX3_numberOf_0 12 rfl)
theorem dX3_numberOf_21 : decode cX3_numberOf 21 = .ok (.getfield 15, 3) := fo_180 (fw_get da_cX3_numberOf_0 13 rfl)
theorem dX3_numberOf_24 : decode cX3_numberOf 24 = .ok (.iload_n 2, 1) := fo_28 (fw_get da_cX3_numberOf_0 14 rfl)
theorem dX3_numberOf_25 : decode cX3_numberOf 25 = .ok (.iaload, 1) := fo_46 (fw_get da_cX3_numberOf_0 15 rfl)
theorem dX3_numberOf_26 : decode cX3_numberOf 26 = .ok (.ireturn, 1) := fo_172 (fw_get da_cX3_numberOf_0 16 rfl)
theorem dX3_numberOf_27 : decode cX3_numberOf 27 = .ok (.iinc 2 1, 3) := fo_132 (fw_get da_cX3_numberOf_0 17 rfl) rfl (by decide +kernel)
theorem dX3_numberOf_30 : decode cX3_numberOf 30 = .ok (.goto (-28), 3) := fo_167 (fw_get da_cX3_numberOf_0 18 rfl) (by decide +kernel)
theorem dX3_numberOf_33 : decode cX3_numberOf 33 = .ok (.iconst 0, 1) := fo_3 (fw_get da_cX3_numberOf_0 19 rfl)
def dt_cX3_numberOf_1 : List (Nat × Nat × Nat × Nat) := [(34, 172, 0, 0)]
theorem da_cX3_numberOf_1 : fw dt_cX3_numberOf_1 0 cX3_numberOf.data.toList = true := by decide +kernel
theorem dX3_numberOf_34 : decode cX3_numberOf 34 = .ok (.ireturn, 1) := fo_172 (fw_get da_cX3_numberOf_1 0 rfl)
def dt_cX3_total_0 : List (Nat × Nat × Nat × Nat) := [(0, 3, 0, 0), (1, 60, 0, 0), (2, 3, 0, 0), (3, 61, 0, 0), (4, 28, 0, 0), (5, 42, 0, 0), (6, 180, 2, 18), (9, 162, 2, 18), (12, 27, 0, 0), (13, 42, 0, 0), (14, 180, 2, 15), (17, 28, 0, 0), (18, 46, 0, 0), (19, 96, 0, 0), (20, 60, 0, 0), (21, 132, 2, 513), (24, 167, 2, 65516), (27, 27, 0, 0), (28, 172, 0, 0)]
theorem da_cX3_total_0 : fw dt_cX3_total_0 0 cX3_total.data.toList = true := by decide +kernel
theorem dX3_total_0 : decode cX3_total 0 = .ok (.iconst 0, 1) := fo_3 (fw_get da_cX3_total_0 0 rfl)
theorem dX3_total_1 : decode cX3_total 1 = .ok (.istore_n 1, 1) := fo_60 (fw_get da_cX3_total_0 1 rfl)
theorem dX3_total_2 : decode cX3_total 2 = .ok (.iconst 0, 1) := fo_3 (fw_get da_cX3_total_0 2 rfl)
theorem dX3_total_3 : decode cX3_total 3 = .ok (.istore_n 2, 1) := fo_61 (fw_get da_cX3_total_0 3 rfl)
theorem dX3_total_4 : decode cX3_total 4 = .ok (.iload_n 2, 1) := fo_28 (fw_get da_cX3_total_0 4 rfl)
theorem dX3_total_5 : decode cX3_total 5 = .ok (.aload_n 0, 1) := fo_42 (fw_get da_cX3_total_0 5 rfl)
theorem dX3_total_6 : decode cX3_total 6 = .ok (.getfield 18, 3) := fo_180 (fw_get da_cX3_total_0 6 rfl)
theorem dX3_total_9 : decode cX3_total 9 = .ok (.if_icmp .ge 18, 3) := fo_162 (fw_get da_cX3_total_0 7 rfl) (by decide +kernel)
theorem dX3_total_12 : decode cX3_total 12 = .ok (.iload_n 1, 1) := fo_27 (fw_get da_cX3_total_0 8 rfl)
theorem dX3_total_13 : decode cX3_total 13 = .ok (.aload_n 0, 1) := fo_42 (fw_get da_cX3_total_0 9 rfl)
theorem dX3_total_14 : decode cX3_total 14 = .ok (.getfield 15, 3) := fo_180 (fw_get da_cX3_total_0 10 rfl)
theorem dX3_total_17 : decode cX3_total 17 = .ok (.iload_n 2, 1) := fo_28 (fw_get da_cX3_total_0 11 rfl)
theorem dX3_total_18 : decode cX3_total 18 = .ok (.iaload, 1) := fo_46 (fw_get da_cX3_total_0 12 rfl)
theorem dX3_total_19 : decode cX3_total 19 = .ok (.iadd, 1) := fo_96 (fw_get da_cX3_total_0 13 rfl)
theorem dX3_total_20 : decode cX3_total 20 = .ok (.istore_n 1, 1) := fo_60 (fw_get da_cX3_total_0 14 rfl)
theorem dX3_total_21 : decode cX3_total 21 = .ok (.iinc 2 1, 3) := fo_132 (fw_get da_cX3_total_0 15 rfl) rfl (by decide +kernel)
theorem dX3_total_24 : decode cX3_total 24 = .ok (.goto (-20), 3) := fo_167 (fw_get da_cX3_total_0 16 rfl) (by decide +kernel)
theorem dX3_total_27 : decode cX3_total 27 = .ok (.iload_n 1, 1) := fo_27 (fw_get da_cX3_total_0 17 rfl)
theorem dX3_total_28 : decode cX3_total 28 = .ok (.ireturn, 1) := fo_172 (fw_get da_cX3_total_0 18 rfl)
def dt_cX3_isAhead_0 : List (Nat × Nat × Nat × Nat) := [(0, 42, 0, 0), (1, 180, 2, 15), (4, 27, 0, 0), (5, 46, 0, 0), (6, 42, 0, 0), (7, 180, 2, 15), (10, 28, 0, 0), (11, 46, 0, 0), (12, 163, 2, 33), (15, 42, 0, 0), (16, 180, 2, 15), (19, 27, 0, 0), (20, 46, 0, 0), (21, 42, 0, 0), (22, 180, 2, 15), (25, 28, 0, 0), (26, 46, 0, 0), (27, 160, 2, 22), (30, 42, 0, 0), (31, 180, 2, 9)]
theorem da_cX3_isAhead_0 : fw dt_cX3_isAhead_0 0 cX3_isAhead.data.toList = true := by decide +kernel
theorem dX3_isAhead_0 : decode cX3_isAhead 0 = .ok (.aload_n 0, 1) := fo_42 (fw_get da_cX3_isAhead_0 0 rfl)
theorem dX3_isAhead_1 : decode cX3_isAhead 1 = .ok (.getfield 15, 3) := fo_180 (fw_get da_cX3_isAhead_0 1 rfl)
theorem dX3_isAhead_4 : decode cX3_isAhead 4 = .ok (.iload_n 1, 1) := fo_27 (fw_get da_cX3_isAhead_0 2 rfl)
theorem dX3_isAhead_5 : decode cX3_isAhead 5 = .ok (.iaload, 1) := fo_46 (fw_get da_cX3_isAhead_0 3 rfl)
theorem dX3_isAhead_6 : decode cX3_isAhead 6 = .ok (.aload_n 0, 1) := fo_42 (fw_get da_cX3_isAhead_0 4 rfl)
theorem dX3_isAhead_7 : decode cX3_isAhead 7 = .ok (.getfield 15, 3) := fo_180 (fw_get da_cX3_isAhead_0 5 rfl)
theorem dX3_isAhead_10 : decode cX3_isAhead 10 = .ok (.iload_n 2, 1) := fo_28 (fw_get da_cX3_isAhead_0 6 rfl)
theorem dX3_isAhead_11 : decode cX3_isAhead 11 = .ok (.iaload, 1) := fo_46 (fw_get da_cX3_isAhead_0 7 rfl)
theorem dX3_isAhead_12 : decode cX3_isAhead 12 = .ok (.if_icmp .gt 33, 3) := fo_163 (fw_get da_cX3_isAhead_0 8 rfl) (by decide +kernel)
theorem dX3_isAhead_15 : decode cX3_isAhead 15 = .ok (.aload_n 0, 1) := fo_42 (fw_get da_cX3_isAhead_0 9 rfl)
theorem dX3_isAhead_16 : decode cX3_isAhead 16 = .ok (.getfield 15, 3) := fo_180 (fw_get da_cX3_isAhead_0 10 rfl)
theorem dX3_isAhead_19 : decode cX3_isAhead 19 = .ok (.iload_n 1, 1) := fo_27 (fw_get da_cX3_isAhead_0 11 rfl)
theorem dX3_isAhead_20 : decode cX3_isAhead 20 = .ok (.iaload, 1) := fo_46 (fw_get da_cX3_isAhead_0 12 rfl)
theorem dX3_isAhead_21 : decode cX3_isAhead 21 = .ok (.aload_n 0, 1) := fo_42 (fw_get da_cX3_isAhead_0 13 rfl)
theorem dX3_isAhead_22 : decode cX3_isAhead 22 = .ok (.getfield 15, 3) := fo_180 (fw_get da_cX3_isAhead_0 14 rfl)
theorem dX3_isAhead_25 : decode cX3_isAhead 25 = .ok (.iload_n 2, 1) := fo_28 (fw_get da_cX3_isAhead_0 15 rfl)
theorem dX3_isAhead_26 : decode cX3_isAhead 26 = .ok (.iaload, 1) := fo_46 (fw_get da_cX3_isAhead_0 16 rfl)
theorem dX3_isAhead_27 : decode cX3_isAhead 27 = .ok (.if_icmp .ne 22, 3) := fo_160 (fw_get da_cX3_isAhead_0 17 rfl) (by decide +kernel)
theorem dX3_isAhead_30 : decode cX3_isAhead 30 = .ok (.aload_n 0, 1) := fo_42 (fw_get da_cX3_isAhead_0 18 rfl)
theorem dX3_isAhead_31 : decode cX3_isAhead 31 = .ok (.getfield 9, 3) := fo_180 (fw_get da_cX3_isAhead_0 19 rfl)
def dt_cX3_isAhead_1 : List (Nat × Nat × Nat × Nat) := [(34, 27, 0, 0), (35, 46, 0, 0), (36, 42, 0, 0), (37, 180, 2, 9), (40, 28, 0, 0), (41, 46, 0, 0), (42, 162, 2, 7), (45, 4, 0, 0), (46, 167, 2, 4), (49, 3, 0, 0), (50, 172, 0, 0)]
theorem da_cX3_isAhead_1 : fw dt_cX3_isAhead_1 0 cX3_isAhead.data.toList = true := by decide +kernel
theorem dX3_isAhead_34 : decode cX3_isAhead 34 = .ok (.iload_n 1, 1) := fo_27 (fw_get da_cX3_isAhead_1 0 rfl)
theorem dX3_isAhead_35 : decode cX3_isAhead 35 = .ok (.iaload, 1) := fo_46 (fw_get da_cX3_isAhead_1 1 rfl)
theorem dX3_isAhead_36 : decode cX3_isAhead 36 = .ok (.aload_n 0, 1) := fo_42 (fw_get da_cX3_isAhead_1 2 rfl)
theorem dX3_isAhead_37 : decode cX3_isAhead 37 = .ok (.getfield 9, 3) := fo_180 (fw_get da_cX3_isAhead_1 3 rfl)
theorem dX3_isAhead_40 : decode cX3_isAhead 40 = .ok (.iload_n 2, 1) := fo_28 (fw_get da_cX3_isAhead_1 4 rfl)
theorem dX3_isAhead_41 : decode cX3_isAhead 41 = .ok (.iaload, 1) := fo_46 (fw_get da_cX3_isAhead_1 5 rfl)
theorem dX3_isAhead_42 : decode cX3_isAhead 42 = .ok (.if_icmp .ge 7, 3) := fo_162 (fw_get da_cX3_isAhead_1 6 rfl) (by decide +kernel)
theorem dX3_isAhead_45 : decode cX3_isAhead 45 = .ok (.iconst 1, 1) := fo_4 (fw_get da_cX3_isAhead_1 7 rfl)
theorem dX3_isAhead_46 : decode cX3_isAhead 46 = .ok (.goto 4, 3) := fo_167 (fw_get da_cX3_isAhead_1 8 rfl) (by decide +kernel)
theorem dX3_isAhead_49 : decode cX3_isAhead 49 = .ok (.iconst 0, 1) := fo_3 (fw_get da_cX3_isAhead_1 9 rfl)
theorem dX3_isAhead_50 : decode cX3_isAhead 50 = .ok (.ireturn, 1) := fo_172 (fw_get da_cX3_isAhead_1 10 rfl)
def dt_cX3_exchange_0 : List (Nat × Nat × Nat × Nat) := [(0, 42, 0, 0), (1, 180, 2, 9), (4, 27, 0, 0), (5, 46, 0, 0), (6, 62, 0, 0), (7, 42, 0, 0), (8, 180, 2, 15), (11, 27, 0, 0), (12, 46, 0, 0), (13, 54, 1, 4), (15, 42, 0, 0), (16, 180, 2, 9), (19, 27, 0, 0), (20, 42, 0, 0), (21, 180, 2, 9), (24, 28, 0, 0), (25, 46, 0, 0), (26, 79, 0, 0), (27, 42, 0, 0), (28, 180, 2, 15)]
theorem da_cX3_exchange_0 : fw dt_cX3_exchange_0 0 cX3_exchange.data.toList = true := by decide +kernel
theorem dX3_exchange_0 : decode cX3_exchange 0 = .ok (.aload_n 0, 1) := fo_42 (fw_get da_cX3_exchange_0 0 rfl)
theorem dX3_exchange_1 : decode cX3_exchange 1 = .ok (.getfield 9, 3) := fo_180 (fw_get da_cX3_exchange_0 1 rfl)
theorem dX3_exchange_4 : decode cX3_exchange 4 = .ok (.iload_n 1, 1) := fo_27 (fw_get da_cX3_exchange_0 2 rfl)
theorem dX3_exchange_5 : decode cX3_exchange 5 = .ok (.iaload, 1) := fo_46 (fw_get da_cX3_exchange_0 3 rfl)
theorem dX3_exchange_6 : decode cX3_exchange 6 = .ok (.istore_n 3, 1) := fo_62 (fw_get da_cX3_exchange_0 4 rfl)
theorem dX3_exchange_7 : decode cX3_exchange 7 = .ok (.aload_n 0, 1) := fo_42 (fw_get da_cX3_exchange_0 5 rfl)
theorem dX3_exchange_8 : decode cX3_exchange 8 = .ok (.getfield 15, 3) := fo_180 (fw_get da_cX3_exchange_0 6 rfl)
theorem dX3_exchange_11 : decode cX3_exchange 11 = .ok (.iload_n 1, 1) := fo_27 (fw_get da_cX3_exchange_0 7 rfl)
theorem dX3_exchange_12 : decode cX3_exchange 12 = .ok (.iaload, 1) := fo_46 (fw_get da_cX3_exchange_0 8 rfl)
theorem dX3_exchange_13 : decode cX3_exchange 13 = .ok (.istore 4, 2) := fo_54 (fw_get da_cX3_exchange_0 9 rfl)
theorem dX3_exchange_15 : decode cX3_exchange 15 = .ok (.aload_n 0, 1) := fo_42 (fw_get da_cX3_exchange_0 10 rfl)
theorem dX3_exchange_16 : decode cX3_exchange 16 = .ok (.getfield 9, 3) := fo_180 (fw_get da_cX3_exchange_0 11 rfl)
theorem dX3_exchange_19 : decode cX3_exchange 19 = .ok (.iload_n 1, 1) := fo_27 (fw_get da_cX3_exchange_0 12 rfl)
theorem dX3_exchange_20 : decode cX3_exchange 20 = .ok (.aload_n 0, 1) := fo_42 (fw_get da_cX3_exchange_0 13 rfl)
theorem dX3_exchange_21 : decode cX3_exchange 21 = .ok (.getfield 9, 3) := fo_180 (fw_get da_cX3_exchange_0 14 rfl)
theorem dX3_exchange_24 : decode cX3_exchange 24 = .ok (.iload_n 2, 1) := fo_28 (fw_get da_cX3_exchange_0 15 rfl)
theorem dX3_exchange_25 : decode cX3_exchange 25 = .ok (.iaload, 1) := fo_46 (fw_get da_cX3_exchange_0 16 rfl)
theorem dX3_exchange_26 : decode cX3_exchange 26 = .ok (.iastore, 1) := fo_79 (fw_get da_cX3_exchange_0 17 rfl)
theorem dX3_exchange_27 : decode cX3_exchange 27 = .ok (.aload_n 0, 1) := fo_42 (fw_get da_cX3_exchange_0 18 rfl)
theorem dX3_exchange_28 : decode cX3_exchange 28 = .ok (.getfield 15, 3) := fo_180 (fw_get da_cX3_exchange_0 19 rfl)
def dt_cX3_exchange_1 : List (Nat × Nat × Nat × Nat) := [(31, 27, 0, 0), (32, 42, 0, 0), (33, 180, 2, 15), (36, 28, 0, 0), (37, 46, 0, 0), (38, 79, 0, 0), (39, 42, 0, 0), (40, 180, 2, 9), (43, 28, 0, 0), (44, 29, 0, 0), (45, 79, 0, 0), (46, 42, 0, 0), (47, 180, 2, 15), (50, 28, 0, 0), (51, 21, 1, 4), (53, 79, 0, 0), (54, 177, 0, 0)]
theorem da_cX3_exchange_1 : fw dt_cX3_exchange_1 0 cX3_exchange.data.toList = true := by decide +kernel
theorem dX3_exchange_31 : decode cX3_exchange 31 = .ok (.iload_n 1, 1) := fo_27 (fw_get da_cX3_exchange_1 0 rfl)
theorem dX3_exchange_32 : decode cX3_exchange 32 = .ok (.aload_n 0, 1) := fo_42 (fw_get da_cX3_exchange_1 1 rfl)
theorem dX3_exchange_33 : decode cX3_exchange 33 = .ok (.getfield 15, 3) := fo_180 (fw_get da_cX3_exchange_1 2 rfl)
theorem dX3_exchange_36 : decode cX3_exchange 36 = .ok (.iload_n 2, 1) := fo_28 (fw_get da_cX3_exchange_1 3 rfl)
theorem dX3_exchange_37 : decode cX3_exchange 37 = .ok (.iaload, 1) := fo_46 (fw_get da_cX3_exchange_1 4 rfl)
theorem dX3_exchange_38 : decode cX3_exchange 38 = .ok (.iastore, 1) := fo_79 (fw_get da_cX3_exchange_1 5 rfl)
theorem dX3_exchange_39 : decode cX3_exchange 39 = .ok (.aload_n 0, 1) := fo_42 (fw_get da_cX3_exchange_1 6 rfl)
theorem dX3_exchange_40 : decode cX3_exchange 40 = .ok (.getfield 9, 3) := fo_180 (fw_get da_cX3_exchange_1 7 rfl)
theorem dX3_exchange_43 : decode cX3_exchange 43 = .ok (.iload_n 2, 1) := fo_28 (fw_get da_cX3_exchange_1 8 rfl)
theorem dX3_exchange_44 : decode cX3_exchange 44 = .ok (.iload_n 3, 1) := fo_29 (fw_get da_cX3_exchange_1 9 rfl)
theorem dX3_exchange_45 : decode cX3_exchange 45 = .ok (.iastore, 1) := fo_79 (fw_get da_cX3_exchange_1 10 rfl)
theorem dX3_exchange_46 : decode cX3_exchange 46 = .ok (.aload_n 0, 1) := fo_42 (fw_get da_cX3_exchange_1 11 rfl)
theorem dX3_exchange_47 : decode cX3_exchange 47 = .ok (.getfield 15, 3) := fo_180 (fw_get da_cX3_exchange_1 12 rfl)
theorem dX3_exchange_50 : decode cX3_exchange 50 = .ok (.iload_n 2, 1) := fo_28 (fw_get da_cX3_exchange_1 13 rfl)
theorem dX3_exchange_51 : decode cX3_exchange 51 = .ok (.iload 4, 2) := fo_21 (fw_get da_cX3_exchange_1 14 rfl)
theorem dX3_exchange_53 : decode cX3_exchange 53 = .ok (.iastore, 1) := fo_79 (fw_get da_cX3_exchange_1 15 rfl)
theorem dX3_exchange_54 : decode cX3_exchange 54 = .ok (.return_, 1) := fo_177 (fw_get da_cX3_exchange_1 16 rfl)
def dt_cX4_isHeavy_0 : List (Nat × Nat × Nat × Nat) := [(0, 26, 0, 0), (1, 29, 0, 0), (2, 104, 0, 0), (3, 28, 0, 0), (4, 27, 0, 0), (5, 104, 0, 0), (6, 164, 2, 7), (9, 4, 0, 0), (10, 167, 2, 4), (13, 3, 0, 0), (14, 172, 0, 0)]
theorem da_cX4_isHeavy_0 : fw dt_cX4_isHeavy_0 0 cX4_isHeavy.data.toList = true := by decide +kernel
theorem dX4_isHeavy_0 : decode cX4_isHeavy 0 = .ok (.iload_n 0, 1) := fo_26 (fw_get da_cX4_isHeavy_0 0 rfl)
theorem dX4_isHeavy_1 : decode cX4_isHeavy 1 = .ok (.iload_n 3, 1) := fo_29 (fw_get da_cX4_isHeavy_0 1 rfl)
theorem dX4_isHeavy_2 : decode cX4_isHeavy 2 = .ok (.imul, 1) := fo_104 (fw_get da_cX4_isHeavy_0 2 rfl)
theorem dX4_isHeavy_3 : decode cX4_isHeavy 3 = .ok (.iload_n 2, 1) := fo_28 (fw_get da_cX4_isHeavy_0 3 rfl)
theorem dX4_isHeavy_4 : decode cX4_isHeavy 4 = .ok (.iload_n 1, 1) := fo_27 (fw_get da_cX4_isHeavy_0 4 rfl)
theorem dX4_isHeavy_5 : decode cX4_isHeavy 5 = .ok (.imul, 1) := fo_104 (fw_get da_cX4_isHeavy_0 5 rfl)
theorem dX4_isHeavy_6 : decode cX4_isHeavy 6 = .ok (.if_icmp .le 7, 3) := fo_164 (fw_get da_cX4_isHeavy_0 6 rfl) (by decide +kernel)
theorem dX4_isHeavy_9 : decode cX4_isHeavy 9 = .ok (.iconst 1, 1) := fo_4 (fw_get da_cX4_isHeavy_0 7 rfl)
theorem dX4_isHeavy_10 : decode cX4_isHeavy 10 = .ok (.goto 4, 3) := fo_167 (fw_get da_cX4_isHeavy_0 8 rfl) (by decide +kernel)
theorem dX4_isHeavy_13 : decode cX4_isHeavy 13 = .ok (.iconst 0, 1) := fo_3 (fw_get da_cX4_isHeavy_0 9 rfl)
theorem dX4_isHeavy_14 : decode cX4_isHeavy 14 = .ok (.ireturn, 1) := fo_172 (fw_get da_cX4_isHeavy_0 10 rfl)


set_option maxHeartbeats 4000000 in
set_option maxRecDepth 100000 in
theorem c_X4_isHeavy (l : Launch) (dC : Nat → ClassId) (dI : Nat → Nat → Nat) (p0 : Int32) (p1 : Int32) (p2 : Int32) (p3 : Int32) : Met l yX4_isHeavy wsX4_isHeavy ({ frames := 0, cells := 0, slots := 0, locals := 0 }) (va_Pc [.int p0, .int p1, .int p2, .int p3] (fun U => va_P (dC, dI) vwCl [] U.heap ∧ va_K (dC, dI) vwCl [] U)) (vp_Si (fun r : Int32 => (r = 1 ∧ (0 : Int) ≤ 1) ∨ (r = 0 ∧ (0 : Int) ≤ 1))) 0 0 (fun _ => False) := by
  refine kx_stS (ws := wsX4_isHeavy) (cc := cX4_isHeavy) (maxL := 4) (ret := (some .boolean)) (by decide) rfl (Nat.le_of_ble_eq_true rfl) ?_
  intro p e s m below meth c ls hx hb hr hlocks hts hown hml hP hK hl
  have hown : s.vm.findClass RX4 = some m.cls := hown
  have hl : lv_has ls 4 [(0, .int p0), (1, .int p1), (2, .int p2), (3, .int p3)] := hl
  refine lv_iload_n hx hb dX4_isHeavy_0 rfl (lv_at hl 0 rfl) ?_
  refine lv_iload_n hx hb dX4_isHeavy_1 rfl (lv_at hl 3 rfl) ?_
  refine lv_imul hx hb dX4_isHeavy_2 ?_
  refine lv_topi (fun y_1 ey_1 => ?_)
  refine lv_iload_n hx hb dX4_isHeavy_3 rfl (lv_at hl 2 rfl) ?_
  refine lv_iload_n hx hb dX4_isHeavy_4 rfl (lv_at hl 1 rfl) ?_
  refine lv_imul hx hb dX4_isHeavy_5 ?_
  refine lv_topi (fun y_2 ey_2 => ?_)
  refine lv_icmp_le (tgt := 13) hx hb dX4_isHeavy_6 (by decide) (fun c_3 => ?_) (fun c_3 => ?_)
  · have i_3 : y_1.toInt ≤ y_2.toInt := kc_le c_3
    refine lv_iconst (v := 0) hx hb dX4_isHeavy_13 (by decide) ?_
    exact W.zret (v := 0) hx hb hr (by decide) (hlocks := hlocks) (fun t ht hW => ⟨0, rfl, Or.inr (⟨rfl, om_29⟩), ht⟩) (fun q hq => by cases hq) dX4_isHeavy_14
  · have i_3 : y_2.toInt < y_1.toInt := kc_nle c_3
    refine lv_iconst (v := 1) hx hb dX4_isHeavy_9 (by decide) ?_
    refine lv_goto (tgt := 14) hx hb dX4_isHeavy_10 (by decide) ?_
    exact W.zret (v := 1) hx hb hr (by decide) (hlocks := hlocks) (fun t ht hW => ⟨1, rfl, Or.inl ⟨rfl, om_29⟩, ht⟩) (fun q hq => by cases hq) dX4_isHeavy_14

set_option maxHeartbeats 4000000 in
set_option maxRecDepth 100000 in
theorem c_X3_clear (l : Launch) (dC : Nat → ClassId) (dI : Nat → Nat → Nat) (h0 : Nat) (a_v : Nat) (a_n : Nat) (vs : Int32) (lo : Int32) (le : Int32) (sz : Nat) : kx_MQ l (dC, dI) yX3_clear wsX3_clear ({ frames := 0, cells := 0, slots := 0, locals := 0 }) [.ref h0] [kx_3 h0 a_v a_n vs lo le] [] sz (fun A => va_Qv (fun _ : Unit => True) (fun (_ : Unit) (t : State) => va_P (dC, dI) vwCl [kx_3 h0 a_v a_n 0 0 0] t.heap ∧ va_K (dC, dI) vwCl [] t ∧ va_D A [kx_3 h0 a_v a_n 0 0 0]) A) := by
  refine kx_stQ (ws := wsX3_clear) (cc := cX3_clear) (maxL := 1) (ret := none) (by decide) rfl (Nat.le_of_ble_eq_true rfl) ?_
  intro p e s m below meth c A ls hx hb hr hlocks hts hown hml hA hS hP hK hD hl
  have hown : s.vm.findClass RX3 = some m.cls := hown
  have hl : lv_has ls 1 [(0, .ref h0)] := hl
  have hf_18 := hts (.fieldLink RX3 18 "MajorityIndex$Votes" "size" "I") (List.mem_of_getElem? (i := 1) rfl)
  have hi_3 : ∀ w ∈ u_ws RX3 TX3 5, w ∈ wsX3_clear := fun w h => List.mem_cons_of_mem _ (List.mem_append_right _ h)
  have hf_22 := hts (.fieldLink RX3 22 "MajorityIndex$Votes" "lost" "I") (List.mem_of_getElem? (i := 2) rfl)
  have hf_25 := hts (.fieldLink RX3 25 "MajorityIndex$Votes" "lessBy" "I") (List.mem_of_getElem? (i := 3) rfl)
  refine lv_aload_n hx hb dX3_clear_0 rfl (lv_at hl 0 rfl) ?_
  refine lv_iconst (v := 0) hx hb dX3_clear_1 (by decide) ?_
  refine va_put (D := (dC, dI)) (ci := 3) (v := .int 0) (ty := .int) (C := RX3) (T := TX3) (N := 5) hx hb hts hi_3 tyX3 tyX3_ok nmX3 hown hK hP hD hS 0 rfl rfl 2 (by decide) hf_18 (fun _ h9 => h9) rfl (by decide +kernel) rfl rfl (Nat.le_of_ble_eq_true rfl) dX3_clear_2 (fun H locs hP hD hS => ?_)
  obtain ⟨hP, hD⟩ := kx_re (w2 := [kx_3 h0 a_v a_n 0 lo le]) hP hD rfl
  refine lv_aload_n hx hb dX3_clear_5 rfl (lv_at hl 0 rfl) ?_
  refine lv_iconst (v := 0) hx hb dX3_clear_6 (by decide) ?_
  refine va_put (D := (dC, dI)) (ci := 3) (v := .int 0) (ty := .int) (C := RX3) (T := TX3) (N := 5) hx hb hts hi_3 tyX3 tyX3_ok nmX3 hown hK hP hD hS 0 rfl rfl 3 (by decide) hf_22 (fun _ h9 => h9) rfl (by decide +kernel) rfl rfl (Nat.le_of_ble_eq_true rfl) dX3_clear_7 (fun H locs hP hD hS => ?_)
  obtain ⟨hP, hD⟩ := kx_re (w2 := [kx_3 h0 a_v a_n 0 0 le]) hP hD rfl
  refine lv_aload_n hx hb dX3_clear_10 rfl (lv_at hl 0 rfl) ?_
  refine lv_iconst (v := 0) hx hb dX3_clear_11 (by decide) ?_
  refine va_put (D := (dC, dI)) (ci := 3) (v := .int 0) (ty := .int) (C := RX3) (T := TX3) (N := 5) hx hb hts hi_3 tyX3 tyX3_ok nmX3 hown hK hP hD hS 0 rfl rfl 4 (by decide) hf_25 (fun _ h9 => h9) rfl (by decide +kernel) rfl rfl (Nat.le_of_ble_eq_true rfl) dX3_clear_12 (fun H locs hP hD hS => ?_)
  obtain ⟨hP, hD⟩ := kx_re (w2 := [kx_3 h0 a_v a_n 0 0 0]) hP hD rfl
  have hP9 := hP
  have hD9 := hD
  have hK9 := hK
  exact W.vret hx hb hr (hlocks := hlocks) (fun t ht hW => ⟨⟨(), rfl, trivial, by rw [ht]; exact hP9, va_K.moved hW.alike hK9, hD9⟩, hS.F ht⟩) hS.2.2 dX3_clear_15

set_option maxHeartbeats 4000000 in
set_option maxRecDepth 100000 in
theorem c_X3_add (l : Launch) (dC : Nat → ClassId) (dI : Nat → Nat → Nat) (h0 : Nat) (a_v : Nat) (a_n : Nat) (cyI : ClassId) (vs : Int32) (lo : Int32) (le : Int32) (fv : Nat → Int32) (fn : Nat → Int32) (p0 : Int32) (p1 : Int32) (sz : Nat) (a0 : 0 ≤ vs.toInt) (a1 : vs.toInt ≤ 12) : kx_MQ l (dC, dI) yX3_add wsX3_add ({ frames := 0, cells := 0, slots := 0, locals := 0 }) [.ref h0, .int p0, .int p1] [kx_3 h0 a_v a_n vs lo le, kx_a a_v cyI 12 fv, kx_a a_n cyI 12 fn] [(cyI, .int)] sz (fun A => va_Qv (fun u : Int32 × (Nat → Int32) × (Nat → Int32) => vs.toInt ≤ u.1.toInt ∧ u.1.toInt ≤ vs.toInt + 1 ∧ u.1.toInt ≤ 12) (fun (u : Int32 × (Nat → Int32) × (Nat → Int32)) (t : State) => va_P (dC, dI) vwCl [kx_3 h0 a_v a_n u.1 lo le, kx_a a_v cyI 12 u.2.1, kx_a a_n cyI 12 u.2.2] t.heap ∧ va_K (dC, dI) vwCl [(cyI, .int)] t ∧ va_D A [kx_3 h0 a_v a_n u.1 lo le, kx_a a_v cyI 12 u.2.1, kx_a a_n cyI 12 u.2.2]) A) := by
  refine kx_stQ (ws := wsX3_add) (cc := cX3_add) (maxL := 4) (ret := none) (by decide) rfl (Nat.le_of_ble_eq_true rfl) ?_
  intro p e s m below meth c A ls hx hb hr hlocks hts hown hml hA hS hP hK hD hl
  have hown : s.vm.findClass RX3 = some m.cls := hown
  have hl : lv_has ls 4 [(0, .ref h0), (1, .int p0), (2, .int p1)] := hl
  have hf_18 := hts (.fieldLink RX3 18 "MajorityIndex$Votes" "size" "I") (List.mem_of_getElem? (i := 1) rfl)
  have hi_3 : ∀ w ∈ u_ws RX3 TX3 5, w ∈ wsX3_add := fun w h => List.mem_cons_of_mem _ (List.mem_append_right _ h)
  have hf_9 := hts (.fieldLink RX3 9 "MajorityIndex$Votes" "value" "[I") (List.mem_of_getElem? (i := 2) rfl)
  have hf_15 := hts (.fieldLink RX3 15 "MajorityIndex$Votes" "number" "[I") (List.mem_of_getElem? (i := 3) rfl)
  refine lv_iconst (v := 0) hx hb dX3_add_0 (by decide) ?_
  refine lv_istore_n (lv' := [(3, .int 0), (0, .ref h0), (1, .int p0), (2, .int p1)]) hx hb dX3_add_1 rfl hl (by decide) rfl (fun ls hl => ?_)
  have LP1 : ∀ (n : Nat) (i : Int32), (0 ≤ i.toInt) → (vs.toInt - i.toInt).toNat < n → ∀ (H : Heap) (locs : List Loc), va_P (dC, dI) vwCl [kx_3 h0 a_v a_n vs lo le, kx_a a_v cyI 12 fv, kx_a a_n cyI 12 fn] H → va_D A [kx_3 h0 a_v a_n vs lo le, kx_a a_v cyI 12 fv, kx_a a_n cyI 12 fn] → va_S A s.heap H locs → ∀ (ls : Array Slot), lv_has ls 4 [(3, .int i), (0, .ref h0), (1, .int p0), (2, .int p1)] → W p l e (headSpec wsX3_add ({ frames := 0, cells := 0, slots := 0, locals := 0 })).room s m ([.ref h0, .int p0, .int p1] : List Value).toArray below meth c H locs 0 0 (MQ below (va_Qv (fun u : Int32 × (Nat → Int32) × (Nat → Int32) => vs.toInt ≤ u.1.toInt ∧ u.1.toInt ≤ vs.toInt + 1 ∧ u.1.toInt ≤ 12) (fun (u : Int32 × (Nat → Int32) × (Nat → Int32)) (t : State) => va_P (dC, dI) vwCl [kx_3 h0 a_v a_n u.1 lo le, kx_a a_v cyI 12 u.2.1, kx_a a_n cyI 12 u.2.2] t.heap ∧ va_K (dC, dI) vwCl [(cyI, .int)] t ∧ va_D A [kx_3 h0 a_v a_n u.1 lo le, kx_a a_v cyI 12 u.2.1, kx_a a_n cyI 12 u.2.2]) A) ([.ref h0, .int p0, .int p1] : List Value).toArray s 0 0 A) (F0 m 2 ls []) := by
    intro n
    induction n with
    | zero => intro i LP1_h0 hn; exact absurd hn (Nat.not_lt_zero _)
    | succ n ih1 =>
      intro i LP1_h0 hn1 H locs hP hD hS ls hl
      refine lv_iload_n hx hb dX3_add_2 rfl (lv_at hl 0 rfl) ?_
      refine lv_aload_n hx hb dX3_add_3 rfl (lv_at hl 1 rfl) ?_
      refine va_get (D := (dC, dI)) (ci := 3) (v := .int vs) (C := RX3) (T := TX3) (N := 5) hx hb hts hi_3 hown hK hP 0 rfl rfl 2 (by decide) hf_18 (fun _ h9 => h9) rfl dX3_add_4 ?_
      refine lv_icmp_ge (tgt := 37) hx hb dX3_add_7 (by decide) (fun c_1 => ?_) (fun c_1 => ?_)
      · have i_1 : vs.toInt ≤ i.toInt := kc_le c_1
        refine lv_aload_n hx hb dX3_add_37 rfl (lv_at hl 1 rfl) ?_
        refine va_get (D := (dC, dI)) (ci := 3) (v := .int vs) (C := RX3) (T := TX3) (N := 5) hx hb hts hi_3 hown hK hP 0 rfl rfl 2 (by decide) hf_18 (fun _ h9 => h9) rfl dX3_add_38 ?_
        refine lv_aload_n hx hb dX3_add_41 rfl (lv_at hl 1 rfl) ?_
        refine va_get (D := (dC, dI)) (ci := 3) (v := .ref a_v) (C := RX3) (T := TX3) (N := 5) hx hb hts hi_3 hown hK hP 0 rfl rfl 0 (by decide) hf_9 (fun _ h9 => h9) rfl dX3_add_42 ?_
        refine va_alen (v := 12) hx hb hK hP 1 0 rfl rfl rfl dX3_add_45 ?_
        refine lv_icmp_ge (tgt := 79) hx hb dX3_add_46 (by decide) (fun c_2 => ?_) (fun c_2 => ?_)
        · have i_2 : 12 ≤ vs.toInt := kc_le c_2
          have hP9 := hP
          have hD9 := hD
          have hK9 := hK
          exact W.vret hx hb hr (hlocks := hlocks) (fun t ht hW => ⟨⟨(vs, fv, fn), rfl, (by (try dsimp only); omega), by rw [ht]; exact hP9, va_K.moved hW.alike hK9, hD9⟩, hS.F ht⟩) hS.2.2 dX3_add_79
        · have i_2 : vs.toInt < 12 := kc_nle c_2
          refine lv_aload_n hx hb dX3_add_49 rfl (lv_at hl 1 rfl) ?_
          refine va_get (D := (dC, dI)) (ci := 3) (v := .ref a_v) (C := RX3) (T := TX3) (N := 5) hx hb hts hi_3 hown hK hP 0 rfl rfl 0 (by decide) hf_9 (fun _ h9 => h9) rfl dX3_add_50 ?_
          refine lv_aload_n hx hb dX3_add_53 rfl (lv_at hl 1 rfl) ?_
          refine va_get (D := (dC, dI)) (ci := 3) (v := .int vs) (C := RX3) (T := TX3) (N := 5) hx hb hts hi_3 hown hK hP 0 rfl rfl 2 (by decide) hf_18 (fun _ h9 => h9) rfl dX3_add_54 ?_
          refine lv_iload_n hx hb dX3_add_57 rfl (lv_at hl 2 rfl) ?_
          refine va_iast hx hb hK hP hD hS 1 0 rfl rfl (ki_in (om_10 a0) (om_30 i_2)) dX3_add_58 (fun H locs hP hD hS => ?_)
          obtain ⟨hP, hD⟩ := kx_re (w2 := [kx_3 h0 a_v a_n vs lo le, kx_a a_v cyI 12 (upd fv vs.toNatClampNeg p0), kx_a a_n cyI 12 fn]) hP hD rfl
          refine lv_aload_n hx hb dX3_add_59 rfl (lv_at hl 1 rfl) ?_
          refine va_get (D := (dC, dI)) (ci := 3) (v := .ref a_n) (C := RX3) (T := TX3) (N := 5) hx hb hts hi_3 hown hK hP 0 rfl rfl 1 (by decide) hf_15 (fun _ h9 => h9) rfl dX3_add_60 ?_
          refine lv_aload_n hx hb dX3_add_63 rfl (lv_at hl 1 rfl) ?_
          refine va_get (D := (dC, dI)) (ci := 3) (v := .int vs) (C := RX3) (T := TX3) (N := 5) hx hb hts hi_3 hown hK hP 0 rfl rfl 2 (by decide) hf_18 (fun _ h9 => h9) rfl dX3_add_64 ?_
          refine lv_iload_n hx hb dX3_add_67 rfl (lv_at hl 3 rfl) ?_
          refine va_iast hx hb hK hP hD hS 2 0 rfl rfl (ki_in (om_10 a0) (om_30 i_2)) dX3_add_68 (fun H locs hP hD hS => ?_)
          obtain ⟨hP, hD⟩ := kx_re (w2 := [kx_3 h0 a_v a_n vs lo le, kx_a a_v cyI 12 (upd fv vs.toNatClampNeg p0), kx_a a_n cyI 12 (upd fn vs.toNatClampNeg p1)]) hP hD rfl
          refine lv_aload_n hx hb dX3_add_69 rfl (lv_at hl 1 rfl) ?_
          refine lv_dup hx hb dX3_add_70 rfl ?_
          refine va_get (D := (dC, dI)) (ci := 3) (v := .int vs) (C := RX3) (T := TX3) (N := 5) hx hb hts hi_3 hown hK hP 0 rfl rfl 2 (by decide) hf_18 (fun _ h9 => h9) rfl dX3_add_71 ?_
          refine lv_iconst (v := 1) hx hb dX3_add_74 (by decide) ?_
          refine lv_iadd hx hb dX3_add_75 ?_
          refine lv_topi (fun y_3 ey_3 => ?_)
          have i_3 : y_3.toInt = vs.toInt + 1 := ki_add ey_3 rfl rfl (om_13 a0) (om_31 a1)
          refine va_put (D := (dC, dI)) (ci := 3) (v := .int y_3) (ty := .int) (C := RX3) (T := TX3) (N := 5) hx hb hts hi_3 tyX3 tyX3_ok nmX3 hown hK hP hD hS 0 rfl rfl 2 (by decide) hf_18 (fun _ h9 => h9) rfl (by decide +kernel) rfl rfl (Nat.le_of_ble_eq_true rfl) dX3_add_76 (fun H locs hP hD hS => ?_)
          obtain ⟨hP, hD⟩ := kx_re (w2 := [kx_3 h0 a_v a_n y_3 lo le, kx_a a_v cyI 12 (upd fv vs.toNatClampNeg p0), kx_a a_n cyI 12 (upd fn vs.toNatClampNeg p1)]) hP hD rfl
          have hP9 := hP
          have hD9 := hD
          have hK9 := hK
          exact W.vret hx hb hr (hlocks := hlocks) (fun t ht hW => ⟨⟨(y_3, (upd fv vs.toNatClampNeg p0), (upd fn vs.toNatClampNeg p1)), rfl, (by (try dsimp only); omega), by rw [ht]; exact hP9, va_K.moved hW.alike hK9, hD9⟩, hS.F ht⟩) hS.2.2 dX3_add_79
      · have i_1 : i.toInt < vs.toInt := kc_nle c_1
        refine lv_aload_n hx hb dX3_add_10 rfl (lv_at hl 1 rfl) ?_
        refine va_get (D := (dC, dI)) (ci := 3) (v := .ref a_v) (C := RX3) (T := TX3) (N := 5) hx hb hts hi_3 hown hK hP 0 rfl rfl 0 (by decide) hf_9 (fun _ h9 => h9) rfl dX3_add_11 ?_
        refine lv_iload_n hx hb dX3_add_14 rfl (lv_at hl 0 rfl) ?_
        refine va_iald hx hb hK hP 1 0 rfl rfl (ki_in (om_10 LP1_h0) (om_32 a1 i_1)) dX3_add_15 ?_
        refine lv_topi (fun y_4 ey_4 => ?_)
        have j_4 : y_4.toInt = (fv i.toNatClampNeg).toInt := congrArg Int32.toInt ey_4
        refine lv_iload_n hx hb dX3_add_16 rfl (lv_at hl 2 rfl) ?_
        refine lv_icmp_ne (tgt := 31) hx hb dX3_add_17 (by decide) (fun c_5 => ?_) (fun c_5 => ?_)
        · have i_5 : ¬ y_4.toInt = p0.toInt := kc_ne c_5
          obtain ⟨x_6, ex_6⟩ : ∃ y : Int32, y = i + 1 := ⟨_, rfl⟩
          have i_6 : x_6.toInt = i.toInt + 1 := ki_add ex_6 rfl rfl (om_13 LP1_h0) (om_33 a1 i_1)
          refine lv_iinc (v := x_6) (lv' := [(3, .int x_6), (0, .ref h0), (1, .int p0), (2, .int p1)]) hx hb dX3_add_31 hl (k := 0) rfl (by rw [ex_6]; rfl) (by decide) rfl (fun ls hl => ?_)
          refine lv_goto (tgt := 2) hx hb dX3_add_34 (by decide) ?_
          exact ih1 x_6 (om_34 LP1_h0 i_6) (om_mu hn1 (om_5 i_6) (om_6 i_1)) _ _ hP hD hS ls (lv_sub hl [0, 1, 2, 3] rfl)
        · have i_5 : y_4.toInt = p0.toInt := kc_eq c_5
          refine lv_aload_n hx hb dX3_add_20 rfl (lv_at hl 1 rfl) ?_
          refine va_get (D := (dC, dI)) (ci := 3) (v := .ref a_n) (C := RX3) (T := TX3) (N := 5) hx hb hts hi_3 hown hK hP 0 rfl rfl 1 (by decide) hf_15 (fun _ h9 => h9) rfl dX3_add_21 ?_
          refine lv_iload_n hx hb dX3_add_24 rfl (lv_at hl 0 rfl) ?_
          refine lv_dup2_11 hx hb dX3_add_25 rfl rfl ?_
          refine va_iald hx hb hK hP 2 0 rfl rfl (ki_in (om_10 LP1_h0) (om_32 a1 i_1)) dX3_add_26 ?_
          refine lv_topi (fun y_7 ey_7 => ?_)
          have j_7 : y_7.toInt = (fn i.toNatClampNeg).toInt := congrArg Int32.toInt ey_7
          refine lv_iload_n hx hb dX3_add_27 rfl (lv_at hl 3 rfl) ?_
          refine lv_iadd hx hb dX3_add_28 ?_
          refine lv_topi (fun y_8 ey_8 => ?_)
          refine va_iast hx hb hK hP hD hS 2 0 rfl rfl (ki_in (om_10 LP1_h0) (om_32 a1 i_1)) dX3_add_29 (fun H locs hP hD hS => ?_)
          obtain ⟨hP, hD⟩ := kx_re (w2 := [kx_3 h0 a_v a_n vs lo le, kx_a a_v cyI 12 fv, kx_a a_n cyI 12 (upd fn i.toNatClampNeg y_8)]) hP hD rfl
          have hP9 := hP
          have hD9 := hD
          have hK9 := hK
          exact W.vret hx hb hr (hlocks := hlocks) (fun t ht hW => ⟨⟨(vs, fv, (upd fn i.toNatClampNeg y_8)), rfl, (by (try dsimp only); omega), by rw [ht]; exact hP9, va_K.moved hW.alike hK9, hD9⟩, hS.F ht⟩) hS.2.2 dX3_add_30
  have k_9 : (0 : Int32).toInt = 0 := rfl
  exact LP1 ((vs.toInt - 0 : Int).toNat + 1) 0 om_35 (Nat.lt_succ_self _) _ _ hP hD hS ls (lv_sub hl [0, 1, 2, 3] rfl)

set_option maxHeartbeats 4000000 in
set_option maxRecDepth 100000 in
theorem c_X3_isAhead (l : Launch) (dC : Nat → ClassId) (dI : Nat → Nat → Nat) (h0 : Nat) (a_v : Nat) (a_n : Nat) (cyI : ClassId) (vs : Int32) (lo : Int32) (le : Int32) (fv : Nat → Int32) (fn : Nat → Int32) (p0 : Int32) (p1 : Int32) (b0 : 0 ≤ p0.toInt) (b1 : p0.toInt < 12) (b2 : 0 ≤ p1.toInt) (b3 : p1.toInt < 12) : Met l yX3_isAhead wsX3_isAhead ({ frames := 0, cells := 0, slots := 0, locals := 0 }) (va_Pc [.ref h0, .int p0, .int p1] (fun U => va_P (dC, dI) vwCl [kx_3 h0 a_v a_n vs lo le, kx_a a_v cyI 12 fv, kx_a a_n cyI 12 fn] U.heap ∧ va_K (dC, dI) vwCl [(cyI, .int)] U)) (vp_Si (fun r : Int32 => (r = 1 ∧ ((fn p1.toNatClampNeg).toInt < (fn p0.toNatClampNeg).toInt ∨ ((fn p0.toNatClampNeg).toInt = (fn p1.toNatClampNeg).toInt ∧ (fv p0.toNatClampNeg).toInt < (fv p1.toNatClampNeg).toInt))) ∨ (r = 0 ∧ ((fn p0.toNatClampNeg).toInt < (fn p1.toNatClampNeg).toInt ∨ ((fn p0.toNatClampNeg).toInt = (fn p1.toNatClampNeg).toInt ∧ (fv p1.toNatClampNeg).toInt ≤ (fv p0.toNatClampNeg).toInt))))) 0 0 (fun _ => False) := by
  refine kx_stS (ws := wsX3_isAhead) (cc := cX3_isAhead) (maxL := 3) (ret := (some .boolean)) (by decide) rfl (Nat.le_of_ble_eq_true rfl) ?_
  intro p e s m below meth c ls hx hb hr hlocks hts hown hml hP hK hl
  have hown : s.vm.findClass RX3 = some m.cls := hown
  have hl : lv_has ls 3 [(0, .ref h0), (1, .int p0), (2, .int p1)] := hl
  have hf_15 := hts (.fieldLink RX3 15 "MajorityIndex$Votes" "number" "[I") (List.mem_of_getElem? (i := 1) rfl)
  have hi_3 : ∀ w ∈ u_ws RX3 TX3 5, w ∈ wsX3_isAhead := fun w h => List.mem_cons_of_mem _ (List.mem_append_right _ h)
  have hf_9 := hts (.fieldLink RX3 9 "MajorityIndex$Votes" "value" "[I") (List.mem_of_getElem? (i := 2) rfl)
  refine lv_aload_n hx hb dX3_isAhead_0 rfl (lv_at hl 0 rfl) ?_
  refine va_get (D := (dC, dI)) (ci := 3) (v := .ref a_n) (C := RX3) (T := TX3) (N := 5) hx hb hts hi_3 hown hK hP 0 rfl rfl 1 (by decide) hf_15 (fun _ h9 => h9) rfl dX3_isAhead_1 ?_
  refine lv_iload_n hx hb dX3_isAhead_4 rfl (lv_at hl 1 rfl) ?_
  refine va_iald hx hb hK hP 2 0 rfl rfl (ki_in (om_10 b0) (om_30 b1)) dX3_isAhead_5 ?_
  refine lv_topi (fun y_1 ey_1 => ?_)
  have j_1 : y_1.toInt = (fn p0.toNatClampNeg).toInt := congrArg Int32.toInt ey_1
  refine lv_aload_n hx hb dX3_isAhead_6 rfl (lv_at hl 0 rfl) ?_
  refine va_get (D := (dC, dI)) (ci := 3) (v := .ref a_n) (C := RX3) (T := TX3) (N := 5) hx hb hts hi_3 hown hK hP 0 rfl rfl 1 (by decide) hf_15 (fun _ h9 => h9) rfl dX3_isAhead_7 ?_
  refine lv_iload_n hx hb dX3_isAhead_10 rfl (lv_at hl 2 rfl) ?_
  refine va_iald hx hb hK hP 2 0 rfl rfl (ki_in (om_10 b2) (om_30 b3)) dX3_isAhead_11 ?_
  refine lv_topi (fun y_2 ey_2 => ?_)
  have j_2 : y_2.toInt = (fn p1.toNatClampNeg).toInt := congrArg Int32.toInt ey_2
  refine lv_icmp_gt (tgt := 45) hx hb dX3_isAhead_12 (by decide) (fun c_3 => ?_) (fun c_3 => ?_)
  · have i_3 : y_2.toInt < y_1.toInt := kc_lt c_3
    refine lv_iconst (v := 1) hx hb dX3_isAhead_45 (by decide) ?_
    refine lv_goto (tgt := 50) hx hb dX3_isAhead_46 (by decide) ?_
    exact W.zret (v := 1) hx hb hr (by decide) (hlocks := hlocks) (fun t ht hW => ⟨1, rfl, Or.inl ⟨rfl, (Or.inl (om_36 j_1 j_2 i_3))⟩, ht⟩) (fun q hq => by cases hq) dX3_isAhead_50
  · have i_3 : y_1.toInt ≤ y_2.toInt := kc_nlt c_3
    refine lv_aload_n hx hb dX3_isAhead_15 rfl (lv_at hl 0 rfl) ?_
    refine va_get (D := (dC, dI)) (ci := 3) (v := .ref a_n) (C := RX3) (T := TX3) (N := 5) hx hb hts hi_3 hown hK hP 0 rfl rfl 1 (by decide) hf_15 (fun _ h9 => h9) rfl dX3_isAhead_16 ?_
    refine lv_iload_n hx hb dX3_isAhead_19 rfl (lv_at hl 1 rfl) ?_
    refine va_iald hx hb hK hP 2 0 rfl rfl (ki_in (om_10 b0) (om_30 b1)) dX3_isAhead_20 ?_
    refine lv_topi (fun y_4 ey_4 => ?_)
    have j_4 : y_4.toInt = (fn p0.toNatClampNeg).toInt := congrArg Int32.toInt ey_4
    refine lv_aload_n hx hb dX3_isAhead_21 rfl (lv_at hl 0 rfl) ?_
    refine va_get (D := (dC, dI)) (ci := 3) (v := .ref a_n) (C := RX3) (T := TX3) (N := 5) hx hb hts hi_3 hown hK hP 0 rfl rfl 1 (by decide) hf_15 (fun _ h9 => h9) rfl dX3_isAhead_22 ?_
    refine lv_iload_n hx hb dX3_isAhead_25 rfl (lv_at hl 2 rfl) ?_
    refine va_iald hx hb hK hP 2 0 rfl rfl (ki_in (om_10 b2) (om_30 b3)) dX3_isAhead_26 ?_
    refine lv_topi (fun y_5 ey_5 => ?_)
    have j_5 : y_5.toInt = (fn p1.toNatClampNeg).toInt := congrArg Int32.toInt ey_5
    refine lv_icmp_ne (tgt := 49) hx hb dX3_isAhead_27 (by decide) (fun c_6 => ?_) (fun c_6 => ?_)
    · have i_6 : ¬ y_4.toInt = y_5.toInt := kc_ne c_6
      refine lv_iconst (v := 0) hx hb dX3_isAhead_49 (by decide) ?_
      exact W.zret (v := 0) hx hb hr (by decide) (hlocks := hlocks) (fun t ht hW => ⟨0, rfl, Or.inr (⟨rfl, by omega⟩), ht⟩) (fun q hq => by cases hq) dX3_isAhead_50
    · have i_6 : y_4.toInt = y_5.toInt := kc_eq c_6
      refine lv_aload_n hx hb dX3_isAhead_30 rfl (lv_at hl 0 rfl) ?_
      refine va_get (D := (dC, dI)) (ci := 3) (v := .ref a_v) (C := RX3) (T := TX3) (N := 5) hx hb hts hi_3 hown hK hP 0 rfl rfl 0 (by decide) hf_9 (fun _ h9 => h9) rfl dX3_isAhead_31 ?_
      refine lv_iload_n hx hb dX3_isAhead_34 rfl (lv_at hl 1 rfl) ?_
      refine va_iald hx hb hK hP 1 0 rfl rfl (ki_in (om_10 b0) (om_30 b1)) dX3_isAhead_35 ?_
      refine lv_topi (fun y_7 ey_7 => ?_)
      have j_7 : y_7.toInt = (fv p0.toNatClampNeg).toInt := congrArg Int32.toInt ey_7
      refine lv_aload_n hx hb dX3_isAhead_36 rfl (lv_at hl 0 rfl) ?_
      refine va_get (D := (dC, dI)) (ci := 3) (v := .ref a_v) (C := RX3) (T := TX3) (N := 5) hx hb hts hi_3 hown hK hP 0 rfl rfl 0 (by decide) hf_9 (fun _ h9 => h9) rfl dX3_isAhead_37 ?_
      refine lv_iload_n hx hb dX3_isAhead_40 rfl (lv_at hl 2 rfl) ?_
      refine va_iald hx hb hK hP 1 0 rfl rfl (ki_in (om_10 b2) (om_30 b3)) dX3_isAhead_41 ?_
      refine lv_topi (fun y_8 ey_8 => ?_)
      have j_8 : y_8.toInt = (fv p1.toNatClampNeg).toInt := congrArg Int32.toInt ey_8
      refine lv_icmp_ge (tgt := 49) hx hb dX3_isAhead_42 (by decide) (fun c_9 => ?_) (fun c_9 => ?_)
      · have i_9 : y_8.toInt ≤ y_7.toInt := kc_le c_9
        refine lv_iconst (v := 0) hx hb dX3_isAhead_49 (by decide) ?_
        exact W.zret (v := 0) hx hb hr (by decide) (hlocks := hlocks) (fun t ht hW => ⟨0, rfl, Or.inr (⟨rfl, (Or.inr ⟨(om_37 j_1 j_2 i_3 j_4 j_5 i_6), (om_38 j_7 j_8 i_9)⟩)⟩), ht⟩) (fun q hq => by cases hq) dX3_isAhead_50
      · have i_9 : y_7.toInt < y_8.toInt := kc_nle c_9
        refine lv_iconst (v := 1) hx hb dX3_isAhead_45 (by decide) ?_
        refine lv_goto (tgt := 50) hx hb dX3_isAhead_46 (by decide) ?_
        exact W.zret (v := 1) hx hb hr (by decide) (hlocks := hlocks) (fun t ht hW => ⟨1, rfl, Or.inl ⟨rfl, (Or.inr ⟨(om_37 j_1 j_2 i_3 j_4 j_5 i_6), (om_39 j_7 j_8 i_9)⟩)⟩, ht⟩) (fun q hq => by cases hq) dX3_isAhead_50

set_option maxHeartbeats 4000000 in
set_option maxRecDepth 100000 in
theorem c_X3_exchange (l : Launch) (dC : Nat → ClassId) (dI : Nat → Nat → Nat) (h0 : Nat) (a_v : Nat) (a_n : Nat) (cyI : ClassId) (vs : Int32) (lo : Int32) (le : Int32) (fv : Nat → Int32) (fn : Nat → Int32) (p0 : Int32) (p1 : Int32) (sz : Nat) (b0 : 0 ≤ p0.toInt) (b1 : p0.toInt < 12) (b2 : 0 ≤ p1.toInt) (b3 : p1.toInt < 12) : kx_MQ l (dC, dI) yX3_exchange wsX3_exchange ({ frames := 0, cells := 0, slots := 0, locals := 0 }) [.ref h0, .int p0, .int p1] [kx_3 h0 a_v a_n vs lo le, kx_a a_v cyI 12 fv, kx_a a_n cyI 12 fn] [(cyI, .int)] sz (fun A => va_Qv (fun u : (Nat → Int32) × (Nat → Int32) => u.1 = upd (upd fv p0.toNatClampNeg (fv p1.toNatClampNeg)) p1.toNatClampNeg (fv p0.toNatClampNeg) ∧ u.2 = upd (upd fn p0.toNatClampNeg (fn p1.toNatClampNeg)) p1.toNatClampNeg (fn p0.toNatClampNeg)) (fun (u : (Nat → Int32) × (Nat → Int32)) (t : State) => va_P (dC, dI) vwCl [kx_3 h0 a_v a_n vs lo le, kx_a a_v cyI 12 u.1, kx_a a_n cyI 12 u.2] t.heap ∧ va_K (dC, dI) vwCl [(cyI, .int)] t ∧ va_D A [kx_3 h0 a_v a_n vs lo le, kx_a a_v cyI 12 u.1, kx_a a_n cyI 12 u.2]) A) := by
  refine kx_stQ (ws := wsX3_exchange) (cc := cX3_exchange) (maxL := 5) (ret := none) (by decide) rfl (Nat.le_of_ble_eq_true rfl) ?_
  intro p e s m below meth c A ls hx hb hr hlocks hts hown hml hA hS hP hK hD hl
  have hown : s.vm.findClass RX3 = some m.cls := hown
  have hl : lv_has ls 5 [(0, .ref h0), (1, .int p0), (2, .int p1)] := hl
  have hf_9 := hts (.fieldLink RX3 9 "MajorityIndex$Votes" "value" "[I") (List.mem_of_getElem? (i := 1) rfl)
  have hi_3 : ∀ w ∈ u_ws RX3 TX3 5, w ∈ wsX3_exchange := fun w h => List.mem_cons_of_mem _ (List.mem_append_right _ h)
  have hf_15 := hts (.fieldLink RX3 15 "MajorityIndex$Votes" "number" "[I") (List.mem_of_getElem? (i := 2) rfl)
  refine lv_aload_n hx hb dX3_exchange_0 rfl (lv_at hl 0 rfl) ?_
  refine va_get (D := (dC, dI)) (ci := 3) (v := .ref a_v) (C := RX3) (T := TX3) (N := 5) hx hb hts hi_3 hown hK hP 0 rfl rfl 0 (by decide) hf_9 (fun _ h9 => h9) rfl dX3_exchange_1 ?_
  refine lv_iload_n hx hb dX3_exchange_4 rfl (lv_at hl 1 rfl) ?_
  refine va_iald hx hb hK hP 1 0 rfl rfl (ki_in (om_10 b0) (om_30 b1)) dX3_exchange_5 ?_
  refine lv_topi (fun y_1 ey_1 => ?_)
  have j_1 : y_1.toInt = (fv p0.toNatClampNeg).toInt := congrArg Int32.toInt ey_1
  refine lv_istore_n (lv' := [(3, .int y_1), (0, .ref h0), (1, .int p0), (2, .int p1)]) hx hb dX3_exchange_6 rfl hl (by decide) rfl (fun ls hl => ?_)
  refine lv_aload_n hx hb dX3_exchange_7 rfl (lv_at hl 1 rfl) ?_
  refine va_get (D := (dC, dI)) (ci := 3) (v := .ref a_n) (C := RX3) (T := TX3) (N := 5) hx hb hts hi_3 hown hK hP 0 rfl rfl 1 (by decide) hf_15 (fun _ h9 => h9) rfl dX3_exchange_8 ?_
  refine lv_iload_n hx hb dX3_exchange_11 rfl (lv_at hl 2 rfl) ?_
  refine va_iald hx hb hK hP 2 0 rfl rfl (ki_in (om_10 b0) (om_30 b1)) dX3_exchange_12 ?_
  refine lv_topi (fun y_2 ey_2 => ?_)
  have j_2 : y_2.toInt = (fn p0.toNatClampNeg).toInt := congrArg Int32.toInt ey_2
  refine lv_istore (lv' := [(4, .int y_2), (3, .int y_1), (0, .ref h0), (1, .int p0), (2, .int p1)]) hx hb dX3_exchange_13 hl (by decide) rfl (fun ls hl => ?_)
  refine lv_aload_n hx hb dX3_exchange_15 rfl (lv_at hl 2 rfl) ?_
  refine va_get (D := (dC, dI)) (ci := 3) (v := .ref a_v) (C := RX3) (T := TX3) (N := 5) hx hb hts hi_3 hown hK hP 0 rfl rfl 0 (by decide) hf_9 (fun _ h9 => h9) rfl dX3_exchange_16 ?_
  refine lv_iload_n hx hb dX3_exchange_19 rfl (lv_at hl 3 rfl) ?_
  refine lv_aload_n hx hb dX3_exchange_20 rfl (lv_at hl 2 rfl) ?_
  refine va_get (D := (dC, dI)) (ci := 3) (v := .ref a_v) (C := RX3) (T := TX3) (N := 5) hx hb hts hi_3 hown hK hP 0 rfl rfl 0 (by decide) hf_9 (fun _ h9 => h9) rfl dX3_exchange_21 ?_
  refine lv_iload_n hx hb dX3_exchange_24 rfl (lv_at hl 4 rfl) ?_
  refine va_iald hx hb hK hP 1 0 rfl rfl (ki_in (om_10 b2) (om_30 b3)) dX3_exchange_25 ?_
  refine lv_topi (fun y_3 ey_3 => ?_)
  have j_3 : y_3.toInt = (fv p1.toNatClampNeg).toInt := congrArg Int32.toInt ey_3
  refine va_iast hx hb hK hP hD hS 1 0 rfl rfl (ki_in (om_10 b0) (om_30 b1)) dX3_exchange_26 (fun H locs hP hD hS => ?_)
  obtain ⟨hP, hD⟩ := kx_re (w2 := [kx_3 h0 a_v a_n vs lo le, kx_a a_v cyI 12 (upd fv p0.toNatClampNeg y_3), kx_a a_n cyI 12 fn]) hP hD rfl
  refine lv_aload_n hx hb dX3_exchange_27 rfl (lv_at hl 2 rfl) ?_
  refine va_get (D := (dC, dI)) (ci := 3) (v := .ref a_n) (C := RX3) (T := TX3) (N := 5) hx hb hts hi_3 hown hK hP 0 rfl rfl 1 (by decide) hf_15 (fun _ h9 => h9) rfl dX3_exchange_28 ?_
  refine lv_iload_n hx hb dX3_exchange_31 rfl (lv_at hl 3 rfl) ?_
  refine lv_aload_n hx hb dX3_exchange_32 rfl (lv_at hl 2 rfl) ?_
  refine va_get (D := (dC, dI)) (ci := 3) (v := .ref a_n) (C := RX3) (T := TX3) (N := 5) hx hb hts hi_3 hown hK hP 0 rfl rfl 1 (by decide) hf_15 (fun _ h9 => h9) rfl dX3_exchange_33 ?_
  refine lv_iload_n hx hb dX3_exchange_36 rfl (lv_at hl 4 rfl) ?_
  refine va_iald hx hb hK hP 2 0 rfl rfl (ki_in (om_10 b2) (om_30 b3)) dX3_exchange_37 ?_
  refine lv_topi (fun y_4 ey_4 => ?_)
  have j_4 : y_4.toInt = (fn p1.toNatClampNeg).toInt := congrArg Int32.toInt ey_4
  refine va_iast hx hb hK hP hD hS 2 0 rfl rfl (ki_in (om_10 b0) (om_30 b1)) dX3_exchange_38 (fun H locs hP hD hS => ?_)
  obtain ⟨hP, hD⟩ := kx_re (w2 := [kx_3 h0 a_v a_n vs lo le, kx_a a_v cyI 12 (upd fv p0.toNatClampNeg y_3), kx_a a_n cyI 12 (upd fn p0.toNatClampNeg y_4)]) hP hD rfl
  refine lv_aload_n hx hb dX3_exchange_39 rfl (lv_at hl 2 rfl) ?_
  refine va_get (D := (dC, dI)) (ci := 3) (v := .ref a_v) (C := RX3) (T := TX3) (N := 5) hx hb hts hi_3 hown hK hP 0 rfl rfl 0 (by decide) hf_9 (fun _ h9 => h9) rfl dX3_exchange_40 ?_
  refine lv_iload_n hx hb dX3_exchange_43 rfl (lv_at hl 4 rfl) ?_
  refine lv_iload_n hx hb dX3_exchange_44 rfl (lv_at hl 1 rfl) ?_
  refine va_iast hx hb hK hP hD hS 1 0 rfl rfl (ki_in (om_10 b2) (om_30 b3)) dX3_exchange_45 (fun H locs hP hD hS => ?_)
  obtain ⟨hP, hD⟩ := kx_re (w2 := [kx_3 h0 a_v a_n vs lo le, kx_a a_v cyI 12 (upd (upd fv p0.toNatClampNeg y_3) p1.toNatClampNeg y_1), kx_a a_n cyI 12 (upd fn p0.toNatClampNeg y_4)]) hP hD rfl
  refine lv_aload_n hx hb dX3_exchange_46 rfl (lv_at hl 2 rfl) ?_
  refine va_get (D := (dC, dI)) (ci := 3) (v := .ref a_n) (C := RX3) (T := TX3) (N := 5) hx hb hts hi_3 hown hK hP 0 rfl rfl 1 (by decide) hf_15 (fun _ h9 => h9) rfl dX3_exchange_47 ?_
  refine lv_iload_n hx hb dX3_exchange_50 rfl (lv_at hl 4 rfl) ?_
  refine lv_iload hx hb dX3_exchange_51 (lv_at hl 0 rfl) ?_
  refine va_iast hx hb hK hP hD hS 2 0 rfl rfl (ki_in (om_10 b2) (om_30 b3)) dX3_exchange_53 (fun H locs hP hD hS => ?_)
  obtain ⟨hP, hD⟩ := kx_re (w2 := [kx_3 h0 a_v a_n vs lo le, kx_a a_v cyI 12 (upd (upd fv p0.toNatClampNeg y_3) p1.toNatClampNeg y_1), kx_a a_n cyI 12 (upd (upd fn p0.toNatClampNeg y_4) p1.toNatClampNeg y_2)]) hP hD rfl
  have hP9 := hP
  have hD9 := hD
  have hK9 := hK
  exact W.vret hx hb hr (hlocks := hlocks) (fun t ht hW => ⟨⟨((upd (upd fv p0.toNatClampNeg y_3) p1.toNatClampNeg y_1), (upd (upd fn p0.toNatClampNeg y_4) p1.toNatClampNeg y_2)), rfl, ⟨(by (try dsimp only); rw [ey_3, ey_1]), (by (try dsimp only); rw [ey_4, ey_2])⟩, by rw [ht]; exact hP9, va_K.moved hW.alike hK9, hD9⟩, hS.F ht⟩) hS.2.2 dX3_exchange_54

set_option maxHeartbeats 4000000 in
set_option maxRecDepth 100000 in
theorem c_X3_order (l : Launch) (dC : Nat → ClassId) (dI : Nat → Nat → Nat) (h0 : Nat) (a_v : Nat) (a_n : Nat) (cyI : ClassId) (vs : Int32) (lo : Int32) (le : Int32) (fv : Nat → Int32) (fn : Nat → Int32) (sz : Nat) (a0 : 0 ≤ vs.toInt) (a1 : vs.toInt ≤ 12) : kx_MQ l (dC, dI) yX3_order wsX3_order ({ frames := 1, cells := 0, slots := 0, locals := 45 }) [.ref h0] [kx_3 h0 a_v a_n vs lo le, kx_a a_v cyI 12 fv, kx_a a_n cyI 12 fn] [(cyI, .int)] sz (fun A => va_Qv (fun u : (Nat → Int32) × (Nat → Int32) => True) (fun (u : (Nat → Int32) × (Nat → Int32)) (t : State) => va_P (dC, dI) vwCl [kx_3 h0 a_v a_n vs lo le, kx_a a_v cyI 12 u.1, kx_a a_n cyI 12 u.2] t.heap ∧ va_K (dC, dI) vwCl [(cyI, .int)] t ∧ va_D A [kx_3 h0 a_v a_n vs lo le, kx_a a_v cyI 12 u.1, kx_a a_n cyI 12 u.2]) A) := by
  refine kx_stQ (ws := wsX3_order) (cc := cX3_order) (maxL := 3) (ret := none) (by decide) rfl (Nat.le_of_ble_eq_true rfl) ?_
  intro p e s m below meth c A ls hx hb hr hlocks hts hown hml hA hS hP hK hD hl
  have hown : s.vm.findClass RX3 = some m.cls := hown
  have hl : lv_has ls 3 [(0, .ref h0)] := hl
  have hf_18 := hts (.fieldLink RX3 18 "MajorityIndex$Votes" "size" "I") (List.mem_of_getElem? (i := 1) rfl)
  have hi_3 : ∀ w ∈ u_ws RX3 TX3 5, w ∈ wsX3_order := fun w h => List.mem_cons_of_mem _ (List.mem_append_right _ h)
  refine lv_iconst (v := 1) hx hb dX3_order_0 (by decide) ?_
  refine lv_istore_n (lv' := [(1, .int 1), (0, .ref h0)]) hx hb dX3_order_1 rfl hl (by decide) rfl (fun ls hl => ?_)
  have LP1 : ∀ (n : Nat) (i : Int32) (gv : Nat → Int32) (gn : Nat → Int32), (1 ≤ i.toInt) → (vs.toInt - i.toInt).toNat < n → ∀ (H : Heap) (locs : List Loc), va_P (dC, dI) vwCl [kx_3 h0 a_v a_n vs lo le, kx_a a_v cyI 12 gv, kx_a a_n cyI 12 gn] H → va_D A [kx_3 h0 a_v a_n vs lo le, kx_a a_v cyI 12 gv, kx_a a_n cyI 12 gn] → va_S A s.heap H locs → ∀ (ls : Array Slot), lv_has ls 3 [(1, .int i), (0, .ref h0)] → W p l e (headSpec wsX3_order ({ frames := 1, cells := 0, slots := 0, locals := 45 })).room s m ([.ref h0] : List Value).toArray below meth c H locs 0 0 (MQ below (va_Qv (fun u : (Nat → Int32) × (Nat → Int32) => True) (fun (u : (Nat → Int32) × (Nat → Int32)) (t : State) => va_P (dC, dI) vwCl [kx_3 h0 a_v a_n vs lo le, kx_a a_v cyI 12 u.1, kx_a a_n cyI 12 u.2] t.heap ∧ va_K (dC, dI) vwCl [(cyI, .int)] t ∧ va_D A [kx_3 h0 a_v a_n vs lo le, kx_a a_v cyI 12 u.1, kx_a a_n cyI 12 u.2]) A) ([.ref h0] : List Value).toArray s 0 0 A) (F0 m 2 ls []) := by
    intro n
    induction n with
    | zero => intro i gv gn LP1_h0 hn; exact absurd hn (Nat.not_lt_zero _)
    | succ n ih1 =>
      intro i gv gn LP1_h0 hn1 H locs hP hD hS ls hl
      refine lv_iload_n hx hb dX3_order_2 rfl (lv_at hl 0 rfl) ?_
      refine lv_aload_n hx hb dX3_order_3 rfl (lv_at hl 1 rfl) ?_
      refine va_get (D := (dC, dI)) (ci := 3) (v := .int vs) (C := RX3) (T := TX3) (N := 5) hx hb hts hi_3 hown hK hP 0 rfl rfl 2 (by decide) hf_18 (fun _ h9 => h9) rfl dX3_order_4 ?_
      refine lv_icmp_ge (tgt := 47) hx hb dX3_order_7 (by decide) (fun c_1 => ?_) (fun c_1 => ?_)
      · have i_1 : vs.toInt ≤ i.toInt := kc_le c_1
        have hP9 := hP
        have hD9 := hD
        have hK9 := hK
        exact W.vret hx hb hr (hlocks := hlocks) (fun t ht hW => ⟨⟨(gv, gn), rfl, trivial, by rw [ht]; exact hP9, va_K.moved hW.alike hK9, hD9⟩, hS.F ht⟩) hS.2.2 dX3_order_47
      · have i_1 : i.toInt < vs.toInt := kc_nle c_1
        refine lv_iload_n hx hb dX3_order_10 rfl (lv_at hl 0 rfl) ?_
        refine lv_istore_n (lv' := [(2, .int i), (1, .int i), (0, .ref h0)]) hx hb dX3_order_11 rfl hl (by decide) rfl (fun ls hl => ?_)
        have LP2 : ∀ (n : Nat) (j : Int32) (kv : Nat → Int32) (kn : Nat → Int32), (0 ≤ j.toInt) → (j.toInt ≤ i.toInt) → (j.toInt).toNat < n → ∀ (H : Heap) (locs : List Loc), va_P (dC, dI) vwCl [kx_3 h0 a_v a_n vs lo le, kx_a a_v cyI 12 kv, kx_a a_n cyI 12 kn] H → va_D A [kx_3 h0 a_v a_n vs lo le, kx_a a_v cyI 12 kv, kx_a a_n cyI 12 kn] → va_S A s.heap H locs → ∀ (ls : Array Slot), lv_has ls 3 [(2, .int j), (1, .int i), (0, .ref h0)] → W p l e (headSpec wsX3_order ({ frames := 1, cells := 0, slots := 0, locals := 45 })).room s m ([.ref h0] : List Value).toArray below meth c H locs 0 0 (MQ below (va_Qv (fun u : (Nat → Int32) × (Nat → Int32) => True) (fun (u : (Nat → Int32) × (Nat → Int32)) (t : State) => va_P (dC, dI) vwCl [kx_3 h0 a_v a_n vs lo le, kx_a a_v cyI 12 u.1, kx_a a_n cyI 12 u.2] t.heap ∧ va_K (dC, dI) vwCl [(cyI, .int)] t ∧ va_D A [kx_3 h0 a_v a_n vs lo le, kx_a a_v cyI 12 u.1, kx_a a_n cyI 12 u.2]) A) ([.ref h0] : List Value).toArray s 0 0 A) (F0 m 12 ls []) := by
          intro n
          induction n with
          | zero => intro j kv kn LP2_h0 LP2_h1 hn; exact absurd hn (Nat.not_lt_zero _)
          | succ n ih2 =>
            intro j kv kn LP2_h0 LP2_h1 hn2 H locs hP hD hS ls hl
            refine lv_iload_n hx hb dX3_order_12 rfl (lv_at hl 0 rfl) ?_
            refine lv_if_le (tgt := 41) hx hb dX3_order_13 (by decide) (fun c_2 => ?_) (fun c_2 => ?_)
            · have i_2 : j.toInt ≤ 0 := kc_le c_2
              obtain ⟨x_3, ex_3⟩ : ∃ y : Int32, y = i + 1 := ⟨_, rfl⟩
              have i_3 : x_3.toInt = i.toInt + 1 := ki_add ex_3 rfl rfl (om_40 LP1_h0) (om_33 a1 i_1)
              refine lv_iinc (v := x_3) (lv' := [(1, .int x_3), (2, .int j), (0, .ref h0)]) hx hb dX3_order_41 hl (k := 1) rfl (by rw [ex_3]; rfl) (by decide) rfl (fun ls hl => ?_)
              refine lv_goto (tgt := 2) hx hb dX3_order_44 (by decide) ?_
              exact ih1 x_3 kv kn (om_41 LP1_h0 i_3) (om_mu hn1 (om_5 i_3) (om_6 i_1)) _ _ hP hD hS ls (lv_sub hl [0, 2] rfl)
            · have i_2 : 0 < j.toInt := kc_nle c_2
              refine lv_aload_n hx hb dX3_order_16 rfl (lv_at hl 2 rfl) ?_
              refine lv_iload_n hx hb dX3_order_17 rfl (lv_at hl 0 rfl) ?_
              refine lv_iload_n hx hb dX3_order_18 rfl (lv_at hl 0 rfl) ?_
              refine lv_iconst (v := 1) hx hb dX3_order_19 (by decide) ?_
              refine lv_isub hx hb dX3_order_20 ?_
              refine lv_topi (fun y_4 ey_4 => ?_)
              have i_4 : y_4.toInt = j.toInt - 1 := ki_sub ey_4 rfl rfl (om_42 i_2) (om_43 a1 i_1 LP2_h1)
              have hPc := hP
              have hKc := hK
              refine vp_callSi (W.runV (As := [.int j, .int y_4]) (rest := []) ⟨hx, hb, hml, hown, hts⟩ (c_X3_isAhead l dC dI h0 a_v a_n cyI vs lo le kv kn j y_4 LP2_h0 (om_44 a1 i_1 LP2_h1) (om_45 i_2 i_4) (om_46 a1 i_1 LP2_h1 i_4)) (cwV 2 hts gX3_order_X3_isAhead rfl rfl rfl (by decide +kernel) ⟨Nat.le_of_ble_eq_true rfl, Nat.le_of_ble_eq_true rfl⟩) ⟨fun a U g mk q => by obtain ⟨q0, qP, qK⟩ := q; exact ⟨q0, qP, va_K.moved (u := U) (U := U.calling g mk a) (Vm.Alike.refl U.vm) qK⟩, kx_rc3 hKc hPc (q0 := 0) rfl, fun U hU hW => ⟨rfl, by rw [hU]; exact hPc, va_K.moved hW.alike hKc⟩⟩ rfl rfl hl.1 rfl (lv_room (Nat.le_of_ble_eq_true rfl)) dX3_order_21 ⟨Nat.le_of_ble_eq_true rfl, Nat.le_of_ble_eq_true rfl⟩) (fun r_5 w_5 => ?_)
              rcases w_5 with ⟨rfl, w_5⟩ | ⟨rfl, w_5⟩
              · have w_5 : ((kn y_4.toNatClampNeg).toInt < (kn j.toNatClampNeg).toInt ∨ ((kn j.toNatClampNeg).toInt = (kn y_4.toNatClampNeg).toInt ∧ (kv j.toNatClampNeg).toInt < (kv y_4.toNatClampNeg).toInt)) := w_5
                refine lv_if_eq (tgt := 41) hx hb dX3_order_24 (by decide) (fun c_6 => ?_) (fun c_6 => ?_)
                · exact absurd c_6 (by decide)
                · refine lv_aload_n hx hb dX3_order_27 rfl (lv_at hl 2 rfl) ?_
                  refine lv_iload_n hx hb dX3_order_28 rfl (lv_at hl 0 rfl) ?_
                  refine lv_iload_n hx hb dX3_order_29 rfl (lv_at hl 0 rfl) ?_
                  refine lv_iconst (v := 1) hx hb dX3_order_30 (by decide) ?_
                  refine lv_isub hx hb dX3_order_31 ?_
                  refine lv_topi (fun y_7 ey_7 => ?_)
                  have i_7 : y_7.toInt = j.toInt - 1 := ki_sub ey_7 rfl rfl (om_42 i_2) (om_43 a1 i_1 LP2_h1)
                  have hPc := hP
                  have hKc := hK
                  have hDc := hD
                  have hFc := kx_free hD hS hA
                  refine va_callv (va_runV (As := [.int j, .int y_7]) (rest := []) ⟨hx, hb, hml, hown, hts⟩ (kx_un (c_X3_exchange l dC dI h0 a_v a_n cyI vs lo le kv kn j y_7 H.size LP2_h0 (om_44 a1 i_1 LP2_h1) (om_45 i_2 i_7) (om_46 a1 i_1 LP2_h1 i_7))) (cwV 2 hts gX3_order_X3_exchange rfl rfl rfl (by decide +kernel) ⟨Nat.le_of_ble_eq_true rfl, Nat.le_of_ble_eq_true rfl⟩) ⟨fun a U g mk q => by obtain ⟨q0, q1, qP, qK, qD⟩ := q; exact ⟨q0, q1, qP, va_K.moved (u := U) (U := U.calling g mk a) (Vm.Alike.refl U.vm) qK, qD⟩, kx_rc3 hKc hPc (q0 := 0) rfl, fun U hU hW => ⟨rfl, by rw [hU], by rw [hU]; exact hPc, va_K.moved hW.alike hKc, hDc.weaken (fun _ _ _ _ => trivial)⟩⟩ rfl rfl hl.1 rfl (lv_room (Nat.le_of_ble_eq_true rfl)) dX3_order_32 ⟨Nat.le_of_ble_eq_true rfl, Nat.le_of_ble_eq_true rfl⟩) hS (fun q _ h => hFc q h) hFc (fun u t H1 locs ht hvm w_8 hB hz1 hk1 hS => ?_)
                  obtain ⟨o_9, o_10⟩ := u
                  dsimp only at w_8 hB
                  obtain ⟨hP1, hK1, hD1⟩ := hB
                  rw [ht] at hP1
                  have hK1 := va_K.moved hvm.symm hK1
                  have hD := hD1.weaken (fun _ q _ h => hFc q.1 h)
                  have hP := hP1
                  clear hP1 hD1 hK1 hk1 hz1 hFc hDc hPc hKc
                  generalize H1 = H at hP hS ⊢
                  have w_8 : o_9 = upd (upd kv j.toNatClampNeg (kv y_7.toNatClampNeg)) y_7.toNatClampNeg (kv j.toNatClampNeg) ∧ o_10 = upd (upd kn j.toNatClampNeg (kn y_7.toNatClampNeg)) y_7.toNatClampNeg (kn j.toNatClampNeg) := w_8
                  obtain ⟨x_11, ex_11⟩ : ∃ y : Int32, y = j + (-1) := ⟨_, rfl⟩
                  have i_11 : x_11.toInt = j.toInt + (-1) := ki_add ex_11 rfl rfl (om_47 i_2) (om_48 a1 i_1 LP2_h1)
                  refine lv_iinc (v := x_11) (lv' := [(2, .int x_11), (1, .int i), (0, .ref h0)]) hx hb dX3_order_35 hl (k := 0) rfl (by rw [ex_11]; rfl) (by decide) rfl (fun ls hl => ?_)
                  refine lv_goto (tgt := 12) hx hb dX3_order_38 (by decide) ?_
                  exact ih2 x_11 o_9 o_10 (om_49 i_2 i_11) (om_26 LP2_h1 i_11) (om_mu hn2 (om_27 i_11) (om_50 i_2)) _ _ hP hD hS ls (lv_sub hl [0, 1, 2] rfl)
              · have w_5 : ((kn j.toNatClampNeg).toInt < (kn y_4.toNatClampNeg).toInt ∨ ((kn j.toNatClampNeg).toInt = (kn y_4.toNatClampNeg).toInt ∧ (kv y_4.toNatClampNeg).toInt ≤ (kv j.toNatClampNeg).toInt)) := w_5
                refine lv_if_eq (tgt := 41) hx hb dX3_order_24 (by decide) (fun c_12 => ?_) (fun c_12 => ?_)
                · obtain ⟨x_13, ex_13⟩ : ∃ y : Int32, y = i + 1 := ⟨_, rfl⟩
                  have i_13 : x_13.toInt = i.toInt + 1 := ki_add ex_13 rfl rfl (om_40 LP1_h0) (om_33 a1 i_1)
                  refine lv_iinc (v := x_13) (lv' := [(1, .int x_13), (2, .int j), (0, .ref h0)]) hx hb dX3_order_41 hl (k := 1) rfl (by rw [ex_13]; rfl) (by decide) rfl (fun ls hl => ?_)
                  refine lv_goto (tgt := 2) hx hb dX3_order_44 (by decide) ?_
                  exact ih1 x_13 kv kn (om_41 LP1_h0 i_13) (om_mu hn1 (om_5 i_13) (om_6 i_1)) _ _ hP hD hS ls (lv_sub hl [0, 2] rfl)
                · exact absurd c_12 (by decide)
        exact LP2 ((i.toInt : Int).toNat + 1) i gv gn (om_51 LP1_h0) om_7 (Nat.lt_succ_self _) _ _ hP hD hS ls (lv_sub hl [0, 1, 2] rfl)
  have k_14 : (1 : Int32).toInt = 1 := rfl
  exact LP1 ((vs.toInt - 1 : Int).toNat + 1) 1 fv fn om_52 (Nat.lt_succ_self _) _ _ hP hD hS ls (lv_sub hl [0, 1] rfl)

set_option maxHeartbeats 4000000 in
set_option maxRecDepth 100000 in
theorem c_X3_cancel (l : Launch) (dC : Nat → ClassId) (dI : Nat → Nat → Nat) (h0 : Nat) (a_v : Nat) (a_n : Nat) (cyI : ClassId) (vs : Int32) (lo : Int32) (le : Int32) (fv : Nat → Int32) (fn : Nat → Int32) (p0 : Int32) (sz : Nat) (a0 : 0 ≤ vs.toInt) (a1 : vs.toInt ≤ 12) : kx_MQ l (dC, dI) yX3_cancel wsX3_cancel ({ frames := 2, cells := 0, slots := 0, locals := 90 }) [.ref h0, .int p0] [kx_3 h0 a_v a_n vs lo le, kx_a a_v cyI 12 fv, kx_a a_n cyI 12 fn] [(cyI, .int)] sz (fun A => va_Qv (fun u : Int32 × Int32 × Int32 × (Nat → Int32) × (Nat → Int32) => 0 ≤ u.1.toInt ∧ u.1.toInt ≤ vs.toInt) (fun (u : Int32 × Int32 × Int32 × (Nat → Int32) × (Nat → Int32)) (t : State) => va_P (dC, dI) vwCl [kx_3 h0 a_v a_n u.1 u.2.1 u.2.2.1, kx_a a_v cyI 12 u.2.2.2.1, kx_a a_n cyI 12 u.2.2.2.2] t.heap ∧ va_K (dC, dI) vwCl [(cyI, .int)] t ∧ va_D A [kx_3 h0 a_v a_n u.1 u.2.1 u.2.2.1, kx_a a_v cyI 12 u.2.2.2.1, kx_a a_n cyI 12 u.2.2.2.2]) A) := by
  refine kx_stQ (ws := wsX3_cancel) (cc := cX3_cancel) (maxL := 4) (ret := none) (by decide) rfl (Nat.le_of_ble_eq_true rfl) ?_
  intro p e s m below meth c A ls hx hb hr hlocks hts hown hml hA hS hP hK hD hl
  have hown : s.vm.findClass RX3 = some m.cls := hown
  have hl : lv_has ls 4 [(0, .ref h0), (1, .int p0)] := hl
  have hf_25 := hts (.fieldLink RX3 25 "MajorityIndex$Votes" "lessBy" "I") (List.mem_of_getElem? (i := 3) rfl)
  have hi_3 : ∀ w ∈ u_ws RX3 TX3 5, w ∈ wsX3_cancel := fun w h => List.mem_cons_of_mem _ (List.mem_append_right _ h)
  have hf_22 := hts (.fieldLink RX3 22 "MajorityIndex$Votes" "lost" "I") (List.mem_of_getElem? (i := 4) rfl)
  have hf_18 := hts (.fieldLink RX3 18 "MajorityIndex$Votes" "size" "I") (List.mem_of_getElem? (i := 1) rfl)
  have hf_15 := hts (.fieldLink RX3 15 "MajorityIndex$Votes" "number" "[I") (List.mem_of_getElem? (i := 2) rfl)
  refine lv_aload_n hx hb dX3_cancel_0 rfl (lv_at hl 0 rfl) ?_
  have hPc := hP
  have hKc := hK
  have hDc := hD
  have hFc := kx_free hD hS hA
  refine va_callv (va_runV (As := []) (rest := []) ⟨hx, hb, hml, hown, hts⟩ (kx_un (c_X3_order l dC dI h0 a_v a_n cyI vs lo le fv fn s.heap.size a0 a1)) (cwV 0 hts gX3_cancel_X3_order rfl rfl rfl (by decide +kernel) ⟨Nat.le_of_ble_eq_true rfl, Nat.le_of_ble_eq_true rfl⟩) ⟨fun a U g mk q => by obtain ⟨q0, q1, qP, qK, qD⟩ := q; exact ⟨q0, q1, qP, va_K.moved (u := U) (U := U.calling g mk a) (Vm.Alike.refl U.vm) qK, qD⟩, kx_rc3 hKc hPc (q0 := 0) rfl, fun U hU hW => ⟨rfl, by rw [hU], by rw [hU]; exact hPc, va_K.moved hW.alike hKc, hDc.weaken (fun _ _ _ _ => trivial)⟩⟩ rfl rfl hl.1 rfl (lv_room (Nat.le_of_ble_eq_true rfl)) dX3_cancel_1 ⟨Nat.le_of_ble_eq_true rfl, Nat.le_of_ble_eq_true rfl⟩) hS (fun q _ h => hFc q h) hFc (fun u t H1 locs ht hvm w_1 hB hz1 hk1 hS => ?_)
  obtain ⟨o_2, o_3⟩ := u
  dsimp only at w_1 hB
  obtain ⟨hP1, hK1, hD1⟩ := hB
  rw [ht] at hP1
  have hK1 := va_K.moved hvm.symm hK1
  have hD := hD1.weaken (fun _ q _ h => hFc q.1 h)
  have hP := hP1
  clear hP1 hD1 hK1 hk1 hz1 hFc hDc hPc hKc
  generalize H1 = H at hP hS ⊢
  have w_1 : True := w_1
  refine lv_aload_n hx hb dX3_cancel_4 rfl (lv_at hl 0 rfl) ?_
  refine lv_iload_n hx hb dX3_cancel_5 rfl (lv_at hl 1 rfl) ?_
  refine lv_if_lt (tgt := 26) hx hb dX3_cancel_6 (by decide) (fun c_4 => ?_) (fun c_4 => ?_)
  · have i_4 : p0.toInt < 0 := kc_lt c_4
    refine lv_iconst (v := 0) hx hb dX3_cancel_26 (by decide) ?_
    refine va_put (D := (dC, dI)) (ci := 3) (v := .int 0) (ty := .int) (C := RX3) (T := TX3) (N := 5) hx hb hts hi_3 tyX3 tyX3_ok nmX3 hown hK hP hD hS 0 rfl rfl 4 (by decide) hf_25 (fun _ h9 => h9) rfl (by decide +kernel) rfl rfl (Nat.le_of_ble_eq_true rfl) dX3_cancel_27 (fun H locs hP hD hS => ?_)
    obtain ⟨hP, hD⟩ := kx_re (w2 := [kx_3 h0 a_v a_n vs lo 0, kx_a a_v cyI 12 o_2, kx_a a_n cyI 12 o_3]) hP hD rfl
    refine lv_aload_n hx hb dX3_cancel_30 rfl (lv_at hl 0 rfl) ?_
    refine lv_dup hx hb dX3_cancel_31 rfl ?_
    refine va_get (D := (dC, dI)) (ci := 3) (v := .int lo) (C := RX3) (T := TX3) (N := 5) hx hb hts hi_3 hown hK hP 0 rfl rfl 3 (by decide) hf_22 (fun _ h9 => h9) rfl dX3_cancel_32 ?_
    refine lv_aload_n hx hb dX3_cancel_35 rfl (lv_at hl 0 rfl) ?_
    refine va_get (D := (dC, dI)) (ci := 3) (v := .int 0) (C := RX3) (T := TX3) (N := 5) hx hb hts hi_3 hown hK hP 0 rfl rfl 4 (by decide) hf_25 (fun _ h9 => h9) rfl dX3_cancel_36 ?_
    refine lv_iadd hx hb dX3_cancel_39 ?_
    refine lv_topi (fun y_5 ey_5 => ?_)
    refine va_put (D := (dC, dI)) (ci := 3) (v := .int y_5) (ty := .int) (C := RX3) (T := TX3) (N := 5) hx hb hts hi_3 tyX3 tyX3_ok nmX3 hown hK hP hD hS 0 rfl rfl 3 (by decide) hf_22 (fun _ h9 => h9) rfl (by decide +kernel) rfl rfl (Nat.le_of_ble_eq_true rfl) dX3_cancel_40 (fun H locs hP hD hS => ?_)
    obtain ⟨hP, hD⟩ := kx_re (w2 := [kx_3 h0 a_v a_n vs y_5 0, kx_a a_v cyI 12 o_2, kx_a a_n cyI 12 o_3]) hP hD rfl
    refine lv_iconst (v := 0) hx hb dX3_cancel_43 (by decide) ?_
    refine lv_istore_n (lv' := [(2, .int 0), (0, .ref h0), (1, .int p0)]) hx hb dX3_cancel_44 rfl hl (by decide) rfl (fun ls hl => ?_)
    refine lv_iconst (v := 0) hx hb dX3_cancel_45 (by decide) ?_
    refine lv_istore_n (lv' := [(3, .int 0), (2, .int 0), (0, .ref h0), (1, .int p0)]) hx hb dX3_cancel_46 rfl hl (by decide) rfl (fun ls hl => ?_)
    have LP1 : ∀ (n : Nat) (i : Int32) (kept : Int32) (gn : Nat → Int32), (0 ≤ i.toInt) → (0 ≤ kept.toInt) → (kept.toInt ≤ i.toInt) → (i.toInt ≤ vs.toInt) → (vs.toInt - i.toInt).toNat < n → ∀ (H : Heap) (locs : List Loc), va_P (dC, dI) vwCl [kx_3 h0 a_v a_n vs y_5 0, kx_a a_v cyI 12 o_2, kx_a a_n cyI 12 gn] H → va_D A [kx_3 h0 a_v a_n vs y_5 0, kx_a a_v cyI 12 o_2, kx_a a_n cyI 12 gn] → va_S A s.heap H locs → ∀ (ls : Array Slot), lv_has ls 4 [(3, .int i), (2, .int kept), (0, .ref h0), (1, .int p0)] → W p l e (headSpec wsX3_cancel ({ frames := 2, cells := 0, slots := 0, locals := 90 })).room s m ([.ref h0, .int p0] : List Value).toArray below meth c H locs 0 0 (MQ below (va_Qv (fun u : Int32 × Int32 × Int32 × (Nat → Int32) × (Nat → Int32) => 0 ≤ u.1.toInt ∧ u.1.toInt ≤ vs.toInt) (fun (u : Int32 × Int32 × Int32 × (Nat → Int32) × (Nat → Int32)) (t : State) => va_P (dC, dI) vwCl [kx_3 h0 a_v a_n u.1 u.2.1 u.2.2.1, kx_a a_v cyI 12 u.2.2.2.1, kx_a a_n cyI 12 u.2.2.2.2] t.heap ∧ va_K (dC, dI) vwCl [(cyI, .int)] t ∧ va_D A [kx_3 h0 a_v a_n u.1 u.2.1 u.2.2.1, kx_a a_v cyI 12 u.2.2.2.1, kx_a a_n cyI 12 u.2.2.2.2]) A) ([.ref h0, .int p0] : List Value).toArray s 0 0 A) (F0 m 47 ls []) := by
      intro n
      induction n with
      | zero => intro i kept gn LP1_h0 LP1_h1 LP1_h2 LP1_h3 hn; exact absurd hn (Nat.not_lt_zero _)
      | succ n ih1 =>
        intro i kept gn LP1_h0 LP1_h1 LP1_h2 LP1_h3 hn1 H locs hP hD hS ls hl
        refine lv_iload_n hx hb dX3_cancel_47 rfl (lv_at hl 0 rfl) ?_
        refine lv_aload_n hx hb dX3_cancel_48 rfl (lv_at hl 2 rfl) ?_
        refine va_get (D := (dC, dI)) (ci := 3) (v := .int vs) (C := RX3) (T := TX3) (N := 5) hx hb hts hi_3 hown hK hP 0 rfl rfl 2 (by decide) hf_18 (fun _ h9 => h9) rfl dX3_cancel_49 ?_
        refine lv_icmp_ge (tgt := 86) hx hb dX3_cancel_52 (by decide) (fun c_6 => ?_) (fun c_6 => ?_)
        · have i_6 : vs.toInt ≤ i.toInt := kc_le c_6
          refine lv_aload_n hx hb dX3_cancel_86 rfl (lv_at hl 2 rfl) ?_
          refine lv_iload_n hx hb dX3_cancel_87 rfl (lv_at hl 1 rfl) ?_
          refine va_put (D := (dC, dI)) (ci := 3) (v := .int kept) (ty := .int) (C := RX3) (T := TX3) (N := 5) hx hb hts hi_3 tyX3 tyX3_ok nmX3 hown hK hP hD hS 0 rfl rfl 2 (by decide) hf_18 (fun _ h9 => h9) rfl (by decide +kernel) rfl rfl (Nat.le_of_ble_eq_true rfl) dX3_cancel_88 (fun H locs hP hD hS => ?_)
          obtain ⟨hP, hD⟩ := kx_re (w2 := [kx_3 h0 a_v a_n kept y_5 0, kx_a a_v cyI 12 o_2, kx_a a_n cyI 12 gn]) hP hD rfl
          have hP9 := hP
          have hD9 := hD
          have hK9 := hK
          exact W.vret hx hb hr (hlocks := hlocks) (fun t ht hW => ⟨⟨(kept, y_5, 0, o_2, gn), rfl, (by (try dsimp only); omega), by rw [ht]; exact hP9, va_K.moved hW.alike hK9, hD9⟩, hS.F ht⟩) hS.2.2 dX3_cancel_91
        · have i_6 : i.toInt < vs.toInt := kc_nle c_6
          refine lv_aload_n hx hb dX3_cancel_55 rfl (lv_at hl 2 rfl) ?_
          refine va_get (D := (dC, dI)) (ci := 3) (v := .ref a_n) (C := RX3) (T := TX3) (N := 5) hx hb hts hi_3 hown hK hP 0 rfl rfl 1 (by decide) hf_15 (fun _ h9 => h9) rfl dX3_cancel_56 ?_
          refine lv_iload_n hx hb dX3_cancel_59 rfl (lv_at hl 0 rfl) ?_
          refine lv_dup2_11 hx hb dX3_cancel_60 rfl rfl ?_
          refine va_iald hx hb hK hP 2 0 rfl rfl (ki_in (om_10 LP1_h0) (om_32 a1 i_6)) dX3_cancel_61 ?_
          refine lv_topi (fun y_7 ey_7 => ?_)
          have j_7 : y_7.toInt = (gn i.toNatClampNeg).toInt := congrArg Int32.toInt ey_7
          refine lv_aload_n hx hb dX3_cancel_62 rfl (lv_at hl 2 rfl) ?_
          refine va_get (D := (dC, dI)) (ci := 3) (v := .int 0) (C := RX3) (T := TX3) (N := 5) hx hb hts hi_3 hown hK hP 0 rfl rfl 4 (by decide) hf_25 (fun _ h9 => h9) rfl dX3_cancel_63 ?_
          refine lv_isub hx hb dX3_cancel_66 ?_
          refine lv_topi (fun y_8 ey_8 => ?_)
          refine va_iast hx hb hK hP hD hS 2 0 rfl rfl (ki_in (om_10 LP1_h0) (om_32 a1 i_6)) dX3_cancel_67 (fun H locs hP hD hS => ?_)
          obtain ⟨hP, hD⟩ := kx_re (w2 := [kx_3 h0 a_v a_n vs y_5 0, kx_a a_v cyI 12 o_2, kx_a a_n cyI 12 (upd gn i.toNatClampNeg y_8)]) hP hD rfl
          refine lv_aload_n hx hb dX3_cancel_68 rfl (lv_at hl 2 rfl) ?_
          refine va_get (D := (dC, dI)) (ci := 3) (v := .ref a_n) (C := RX3) (T := TX3) (N := 5) hx hb hts hi_3 hown hK hP 0 rfl rfl 1 (by decide) hf_15 (fun _ h9 => h9) rfl dX3_cancel_69 ?_
          refine lv_iload_n hx hb dX3_cancel_72 rfl (lv_at hl 0 rfl) ?_
          refine va_iald hx hb hK hP 2 0 rfl rfl (ki_in (om_10 LP1_h0) (om_32 a1 i_6)) dX3_cancel_73 ?_
          refine lv_topi (fun y_9 ey_9 => ?_)
          have j_9 : y_9.toInt = ((upd gn i.toNatClampNeg y_8) i.toNatClampNeg).toInt := congrArg Int32.toInt ey_9
          refine lv_if_le (tgt := 80) hx hb dX3_cancel_74 (by decide) (fun c_10 => ?_) (fun c_10 => ?_)
          · have i_10 : y_9.toInt ≤ 0 := kc_le c_10
            obtain ⟨x_11, ex_11⟩ : ∃ y : Int32, y = i + 1 := ⟨_, rfl⟩
            have i_11 : x_11.toInt = i.toInt + 1 := ki_add ex_11 rfl rfl (om_13 LP1_h0) (om_53 a1 LP1_h3)
            refine lv_iinc (v := x_11) (lv' := [(3, .int x_11), (2, .int kept), (0, .ref h0), (1, .int p0)]) hx hb dX3_cancel_80 hl (k := 0) rfl (by rw [ex_11]; rfl) (by decide) rfl (fun ls hl => ?_)
            refine lv_goto (tgt := 47) hx hb dX3_cancel_83 (by decide) ?_
            exact ih1 x_11 kept (upd gn i.toNatClampNeg y_8) (om_34 LP1_h0 i_11) (om_10 LP1_h1) (om_4 LP1_h2 i_11) (om_54 i_6 i_11) (om_mu hn1 (om_5 i_11) (om_6 i_6)) _ _ hP hD hS ls (lv_sub hl [0, 1, 2, 3] rfl)
          · have i_10 : 0 < y_9.toInt := kc_nle c_10
            obtain ⟨x_12, ex_12⟩ : ∃ y : Int32, y = kept + 1 := ⟨_, rfl⟩
            have i_12 : x_12.toInt = kept.toInt + 1 := ki_add ex_12 rfl rfl (om_13 LP1_h1) (om_55 a1 LP1_h2 LP1_h3)
            refine lv_iinc (v := x_12) (lv' := [(2, .int x_12), (3, .int i), (0, .ref h0), (1, .int p0)]) hx hb dX3_cancel_77 hl (k := 1) rfl (by rw [ex_12]; rfl) (by decide) rfl (fun ls hl => ?_)
            obtain ⟨x_13, ex_13⟩ : ∃ y : Int32, y = i + 1 := ⟨_, rfl⟩
            have i_13 : x_13.toInt = i.toInt + 1 := ki_add ex_13 rfl rfl (om_13 LP1_h0) (om_53 a1 LP1_h3)
            refine lv_iinc (v := x_13) (lv' := [(3, .int x_13), (2, .int x_12), (0, .ref h0), (1, .int p0)]) hx hb dX3_cancel_80 hl (k := 1) rfl (by rw [ex_13]; rfl) (by decide) rfl (fun ls hl => ?_)
            refine lv_goto (tgt := 47) hx hb dX3_cancel_83 (by decide) ?_
            exact ih1 x_13 x_12 (upd gn i.toNatClampNeg y_8) (om_34 LP1_h0 i_13) (om_34 LP1_h1 i_12) (om_56 LP1_h2 i_12 i_13) (om_54 i_6 i_13) (om_mu hn1 (om_5 i_13) (om_6 i_6)) _ _ hP hD hS ls (lv_sub hl [0, 1, 2, 3] rfl)
    have k_14 : (0 : Int32).toInt = 0 := rfl
    have k_15 : (0 : Int32).toInt = 0 := rfl
    exact LP1 ((vs.toInt - 0 : Int).toNat + 1) 0 0 o_3 om_35 om_35 om_35 (om_10 a0) (Nat.lt_succ_self _) _ _ hP hD hS ls (lv_sub hl [0, 1, 2, 3] rfl)
  · have i_4 : 0 ≤ p0.toInt := kc_nlt c_4
    refine lv_iload_n hx hb dX3_cancel_9 rfl (lv_at hl 1 rfl) ?_
    refine lv_aload_n hx hb dX3_cancel_10 rfl (lv_at hl 0 rfl) ?_
    refine va_get (D := (dC, dI)) (ci := 3) (v := .int vs) (C := RX3) (T := TX3) (N := 5) hx hb hts hi_3 hown hK hP 0 rfl rfl 2 (by decide) hf_18 (fun _ h9 => h9) rfl dX3_cancel_11 ?_
    refine lv_icmp_ge (tgt := 26) hx hb dX3_cancel_14 (by decide) (fun c_16 => ?_) (fun c_16 => ?_)
    · have i_16 : vs.toInt ≤ p0.toInt := kc_le c_16
      refine lv_iconst (v := 0) hx hb dX3_cancel_26 (by decide) ?_
      refine va_put (D := (dC, dI)) (ci := 3) (v := .int 0) (ty := .int) (C := RX3) (T := TX3) (N := 5) hx hb hts hi_3 tyX3 tyX3_ok nmX3 hown hK hP hD hS 0 rfl rfl 4 (by decide) hf_25 (fun _ h9 => h9) rfl (by decide +kernel) rfl rfl (Nat.le_of_ble_eq_true rfl) dX3_cancel_27 (fun H locs hP hD hS => ?_)
      obtain ⟨hP, hD⟩ := kx_re (w2 := [kx_3 h0 a_v a_n vs lo 0, kx_a a_v cyI 12 o_2, kx_a a_n cyI 12 o_3]) hP hD rfl
      refine lv_aload_n hx hb dX3_cancel_30 rfl (lv_at hl 0 rfl) ?_
      refine lv_dup hx hb dX3_cancel_31 rfl ?_
      refine va_get (D := (dC, dI)) (ci := 3) (v := .int lo) (C := RX3) (T := TX3) (N := 5) hx hb hts hi_3 hown hK hP 0 rfl rfl 3 (by decide) hf_22 (fun _ h9 => h9) rfl dX3_cancel_32 ?_
      refine lv_aload_n hx hb dX3_cancel_35 rfl (lv_at hl 0 rfl) ?_
      refine va_get (D := (dC, dI)) (ci := 3) (v := .int 0) (C := RX3) (T := TX3) (N := 5) hx hb hts hi_3 hown hK hP 0 rfl rfl 4 (by decide) hf_25 (fun _ h9 => h9) rfl dX3_cancel_36 ?_
      refine lv_iadd hx hb dX3_cancel_39 ?_
      refine lv_topi (fun y_17 ey_17 => ?_)
      refine va_put (D := (dC, dI)) (ci := 3) (v := .int y_17) (ty := .int) (C := RX3) (T := TX3) (N := 5) hx hb hts hi_3 tyX3 tyX3_ok nmX3 hown hK hP hD hS 0 rfl rfl 3 (by decide) hf_22 (fun _ h9 => h9) rfl (by decide +kernel) rfl rfl (Nat.le_of_ble_eq_true rfl) dX3_cancel_40 (fun H locs hP hD hS => ?_)
      obtain ⟨hP, hD⟩ := kx_re (w2 := [kx_3 h0 a_v a_n vs y_17 0, kx_a a_v cyI 12 o_2, kx_a a_n cyI 12 o_3]) hP hD rfl
      refine lv_iconst (v := 0) hx hb dX3_cancel_43 (by decide) ?_
      refine lv_istore_n (lv' := [(2, .int 0), (0, .ref h0), (1, .int p0)]) hx hb dX3_cancel_44 rfl hl (by decide) rfl (fun ls hl => ?_)
      refine lv_iconst (v := 0) hx hb dX3_cancel_45 (by decide) ?_
      refine lv_istore_n (lv' := [(3, .int 0), (2, .int 0), (0, .ref h0), (1, .int p0)]) hx hb dX3_cancel_46 rfl hl (by decide) rfl (fun ls hl => ?_)
      have LP2 : ∀ (n : Nat) (i : Int32) (kept : Int32) (gn : Nat → Int32), (0 ≤ i.toInt) → (0 ≤ kept.toInt) → (kept.toInt ≤ i.toInt) → (i.toInt ≤ vs.toInt) → (vs.toInt - i.toInt).toNat < n → ∀ (H : Heap) (locs : List Loc), va_P (dC, dI) vwCl [kx_3 h0 a_v a_n vs y_17 0, kx_a a_v cyI 12 o_2, kx_a a_n cyI 12 gn] H → va_D A [kx_3 h0 a_v a_n vs y_17 0, kx_a a_v cyI 12 o_2, kx_a a_n cyI 12 gn] → va_S A s.heap H locs → ∀ (ls : Array Slot), lv_has ls 4 [(3, .int i), (2, .int kept), (0, .ref h0), (1, .int p0)] → W p l e (headSpec wsX3_cancel ({ frames := 2, cells := 0, slots := 0, locals := 90 })).room s m ([.ref h0, .int p0] : List Value).toArray below meth c H locs 0 0 (MQ below (va_Qv (fun u : Int32 × Int32 × Int32 × (Nat → Int32) × (Nat → Int32) => 0 ≤ u.1.toInt ∧ u.1.toInt ≤ vs.toInt) (fun (u : Int32 × Int32 × Int32 × (Nat → Int32) × (Nat → Int32)) (t : State) => va_P (dC, dI) vwCl [kx_3 h0 a_v a_n u.1 u.2.1 u.2.2.1, kx_a a_v cyI 12 u.2.2.2.1, kx_a a_n cyI 12 u.2.2.2.2] t.heap ∧ va_K (dC, dI) vwCl [(cyI, .int)] t ∧ va_D A [kx_3 h0 a_v a_n u.1 u.2.1 u.2.2.1, kx_a a_v cyI 12 u.2.2.2.1, kx_a a_n cyI 12 u.2.2.2.2]) A) ([.ref h0, .int p0] : List Value).toArray s 0 0 A) (F0 m 47 ls []) := by
        intro n
        induction n with
        | zero => intro i kept gn LP2_h0 LP2_h1 LP2_h2 LP2_h3 hn; exact absurd hn (Nat.not_lt_zero _)
        | succ n ih2 =>
          intro i kept gn LP2_h0 LP2_h1 LP2_h2 LP2_h3 hn2 H locs hP hD hS ls hl
          refine lv_iload_n hx hb dX3_cancel_47 rfl (lv_at hl 0 rfl) ?_
          refine lv_aload_n hx hb dX3_cancel_48 rfl (lv_at hl 2 rfl) ?_
          refine va_get (D := (dC, dI)) (ci := 3) (v := .int vs) (C := RX3) (T := TX3) (N := 5) hx hb hts hi_3 hown hK hP 0 rfl rfl 2 (by decide) hf_18 (fun _ h9 => h9) rfl dX3_cancel_49 ?_
          refine lv_icmp_ge (tgt := 86) hx hb dX3_cancel_52 (by decide) (fun c_18 => ?_) (fun c_18 => ?_)
          · have i_18 : vs.toInt ≤ i.toInt := kc_le c_18
            refine lv_aload_n hx hb dX3_cancel_86 rfl (lv_at hl 2 rfl) ?_
            refine lv_iload_n hx hb dX3_cancel_87 rfl (lv_at hl 1 rfl) ?_
            refine va_put (D := (dC, dI)) (ci := 3) (v := .int kept) (ty := .int) (C := RX3) (T := TX3) (N := 5) hx hb hts hi_3 tyX3 tyX3_ok nmX3 hown hK hP hD hS 0 rfl rfl 2 (by decide) hf_18 (fun _ h9 => h9) rfl (by decide +kernel) rfl rfl (Nat.le_of_ble_eq_true rfl) dX3_cancel_88 (fun H locs hP hD hS => ?_)
            obtain ⟨hP, hD⟩ := kx_re (w2 := [kx_3 h0 a_v a_n kept y_17 0, kx_a a_v cyI 12 o_2, kx_a a_n cyI 12 gn]) hP hD rfl
            have hP9 := hP
            have hD9 := hD
            have hK9 := hK
            exact W.vret hx hb hr (hlocks := hlocks) (fun t ht hW => ⟨⟨(kept, y_17, 0, o_2, gn), rfl, (by (try dsimp only); omega), by rw [ht]; exact hP9, va_K.moved hW.alike hK9, hD9⟩, hS.F ht⟩) hS.2.2 dX3_cancel_91
          · have i_18 : i.toInt < vs.toInt := kc_nle c_18
            refine lv_aload_n hx hb dX3_cancel_55 rfl (lv_at hl 2 rfl) ?_
            refine va_get (D := (dC, dI)) (ci := 3) (v := .ref a_n) (C := RX3) (T := TX3) (N := 5) hx hb hts hi_3 hown hK hP 0 rfl rfl 1 (by decide) hf_15 (fun _ h9 => h9) rfl dX3_cancel_56 ?_
            refine lv_iload_n hx hb dX3_cancel_59 rfl (lv_at hl 0 rfl) ?_
            refine lv_dup2_11 hx hb dX3_cancel_60 rfl rfl ?_
            refine va_iald hx hb hK hP 2 0 rfl rfl (ki_in (om_10 LP2_h0) (om_32 a1 i_18)) dX3_cancel_61 ?_
            refine lv_topi (fun y_19 ey_19 => ?_)
            have j_19 : y_19.toInt = (gn i.toNatClampNeg).toInt := congrArg Int32.toInt ey_19
            refine lv_aload_n hx hb dX3_cancel_62 rfl (lv_at hl 2 rfl) ?_
            refine va_get (D := (dC, dI)) (ci := 3) (v := .int 0) (C := RX3) (T := TX3) (N := 5) hx hb hts hi_3 hown hK hP 0 rfl rfl 4 (by decide) hf_25 (fun _ h9 => h9) rfl dX3_cancel_63 ?_
            refine lv_isub hx hb dX3_cancel_66 ?_
            refine lv_topi (fun y_20 ey_20 => ?_)
            refine va_iast hx hb hK hP hD hS 2 0 rfl rfl (ki_in (om_10 LP2_h0) (om_32 a1 i_18)) dX3_cancel_67 (fun H locs hP hD hS => ?_)
            obtain ⟨hP, hD⟩ := kx_re (w2 := [kx_3 h0 a_v a_n vs y_17 0, kx_a a_v cyI 12 o_2, kx_a a_n cyI 12 (upd gn i.toNatClampNeg y_20)]) hP hD rfl
            refine lv_aload_n hx hb dX3_cancel_68 rfl (lv_at hl 2 rfl) ?_
            refine va_get (D := (dC, dI)) (ci := 3) (v := .ref a_n) (C := RX3) (T := TX3) (N := 5) hx hb hts hi_3 hown hK hP 0 rfl rfl 1 (by decide) hf_15 (fun _ h9 => h9) rfl dX3_cancel_69 ?_
            refine lv_iload_n hx hb dX3_cancel_72 rfl (lv_at hl 0 rfl) ?_
            refine va_iald hx hb hK hP 2 0 rfl rfl (ki_in (om_10 LP2_h0) (om_32 a1 i_18)) dX3_cancel_73 ?_
            refine lv_topi (fun y_21 ey_21 => ?_)
            have j_21 : y_21.toInt = ((upd gn i.toNatClampNeg y_20) i.toNatClampNeg).toInt := congrArg Int32.toInt ey_21
            refine lv_if_le (tgt := 80) hx hb dX3_cancel_74 (by decide) (fun c_22 => ?_) (fun c_22 => ?_)
            · have i_22 : y_21.toInt ≤ 0 := kc_le c_22
              obtain ⟨x_23, ex_23⟩ : ∃ y : Int32, y = i + 1 := ⟨_, rfl⟩
              have i_23 : x_23.toInt = i.toInt + 1 := ki_add ex_23 rfl rfl (om_13 LP2_h0) (om_53 a1 LP2_h3)
              refine lv_iinc (v := x_23) (lv' := [(3, .int x_23), (2, .int kept), (0, .ref h0), (1, .int p0)]) hx hb dX3_cancel_80 hl (k := 0) rfl (by rw [ex_23]; rfl) (by decide) rfl (fun ls hl => ?_)
              refine lv_goto (tgt := 47) hx hb dX3_cancel_83 (by decide) ?_
              exact ih2 x_23 kept (upd gn i.toNatClampNeg y_20) (om_34 LP2_h0 i_23) (om_10 LP2_h1) (om_4 LP2_h2 i_23) (om_54 i_18 i_23) (om_mu hn2 (om_5 i_23) (om_6 i_18)) _ _ hP hD hS ls (lv_sub hl [0, 1, 2, 3] rfl)
            · have i_22 : 0 < y_21.toInt := kc_nle c_22
              obtain ⟨x_24, ex_24⟩ : ∃ y : Int32, y = kept + 1 := ⟨_, rfl⟩
              have i_24 : x_24.toInt = kept.toInt + 1 := ki_add ex_24 rfl rfl (om_13 LP2_h1) (om_55 a1 LP2_h2 LP2_h3)
              refine lv_iinc (v := x_24) (lv' := [(2, .int x_24), (3, .int i), (0, .ref h0), (1, .int p0)]) hx hb dX3_cancel_77 hl (k := 1) rfl (by rw [ex_24]; rfl) (by decide) rfl (fun ls hl => ?_)
              obtain ⟨x_25, ex_25⟩ : ∃ y : Int32, y = i + 1 := ⟨_, rfl⟩
              have i_25 : x_25.toInt = i.toInt + 1 := ki_add ex_25 rfl rfl (om_13 LP2_h0) (om_53 a1 LP2_h3)
              refine lv_iinc (v := x_25) (lv' := [(3, .int x_25), (2, .int x_24), (0, .ref h0), (1, .int p0)]) hx hb dX3_cancel_80 hl (k := 1) rfl (by rw [ex_25]; rfl) (by decide) rfl (fun ls hl => ?_)
              refine lv_goto (tgt := 47) hx hb dX3_cancel_83 (by decide) ?_
              exact ih2 x_25 x_24 (upd gn i.toNatClampNeg y_20) (om_34 LP2_h0 i_25) (om_34 LP2_h1 i_24) (om_56 LP2_h2 i_24 i_25) (om_54 i_18 i_25) (om_mu hn2 (om_5 i_25) (om_6 i_18)) _ _ hP hD hS ls (lv_sub hl [0, 1, 2, 3] rfl)
      have k_26 : (0 : Int32).toInt = 0 := rfl
      have k_27 : (0 : Int32).toInt = 0 := rfl
      exact LP2 ((vs.toInt - 0 : Int).toNat + 1) 0 0 o_3 om_35 om_35 om_35 (om_10 a0) (Nat.lt_succ_self _) _ _ hP hD hS ls (lv_sub hl [0, 1, 2, 3] rfl)
    · have i_16 : p0.toInt < vs.toInt := kc_nle c_16
      refine lv_aload_n hx hb dX3_cancel_17 rfl (lv_at hl 0 rfl) ?_
      refine va_get (D := (dC, dI)) (ci := 3) (v := .ref a_n) (C := RX3) (T := TX3) (N := 5) hx hb hts hi_3 hown hK hP 0 rfl rfl 1 (by decide) hf_15 (fun _ h9 => h9) rfl dX3_cancel_18 ?_
      refine lv_iload_n hx hb dX3_cancel_21 rfl (lv_at hl 1 rfl) ?_
      refine va_iald hx hb hK hP 2 0 rfl rfl (ki_in (om_10 i_4) (om_32 a1 i_16)) dX3_cancel_22 ?_
      refine lv_topi (fun y_28 ey_28 => ?_)
      have j_28 : y_28.toInt = (o_3 p0.toNatClampNeg).toInt := congrArg Int32.toInt ey_28
      refine lv_goto (tgt := 27) hx hb dX3_cancel_23 (by decide) ?_
      refine va_put (D := (dC, dI)) (ci := 3) (v := .int y_28) (ty := .int) (C := RX3) (T := TX3) (N := 5) hx hb hts hi_3 tyX3 tyX3_ok nmX3 hown hK hP hD hS 0 rfl rfl 4 (by decide) hf_25 (fun _ h9 => h9) rfl (by decide +kernel) rfl rfl (Nat.le_of_ble_eq_true rfl) dX3_cancel_27 (fun H locs hP hD hS => ?_)
      obtain ⟨hP, hD⟩ := kx_re (w2 := [kx_3 h0 a_v a_n vs lo y_28, kx_a a_v cyI 12 o_2, kx_a a_n cyI 12 o_3]) hP hD rfl
      refine lv_aload_n hx hb dX3_cancel_30 rfl (lv_at hl 0 rfl) ?_
      refine lv_dup hx hb dX3_cancel_31 rfl ?_
      refine va_get (D := (dC, dI)) (ci := 3) (v := .int lo) (C := RX3) (T := TX3) (N := 5) hx hb hts hi_3 hown hK hP 0 rfl rfl 3 (by decide) hf_22 (fun _ h9 => h9) rfl dX3_cancel_32 ?_
      refine lv_aload_n hx hb dX3_cancel_35 rfl (lv_at hl 0 rfl) ?_
      refine va_get (D := (dC, dI)) (ci := 3) (v := .int y_28) (C := RX3) (T := TX3) (N := 5) hx hb hts hi_3 hown hK hP 0 rfl rfl 4 (by decide) hf_25 (fun _ h9 => h9) rfl dX3_cancel_36 ?_
      refine lv_iadd hx hb dX3_cancel_39 ?_
      refine lv_topi (fun y_29 ey_29 => ?_)
      refine va_put (D := (dC, dI)) (ci := 3) (v := .int y_29) (ty := .int) (C := RX3) (T := TX3) (N := 5) hx hb hts hi_3 tyX3 tyX3_ok nmX3 hown hK hP hD hS 0 rfl rfl 3 (by decide) hf_22 (fun _ h9 => h9) rfl (by decide +kernel) rfl rfl (Nat.le_of_ble_eq_true rfl) dX3_cancel_40 (fun H locs hP hD hS => ?_)
      obtain ⟨hP, hD⟩ := kx_re (w2 := [kx_3 h0 a_v a_n vs y_29 y_28, kx_a a_v cyI 12 o_2, kx_a a_n cyI 12 o_3]) hP hD rfl
      refine lv_iconst (v := 0) hx hb dX3_cancel_43 (by decide) ?_
      refine lv_istore_n (lv' := [(2, .int 0), (0, .ref h0), (1, .int p0)]) hx hb dX3_cancel_44 rfl hl (by decide) rfl (fun ls hl => ?_)
      refine lv_iconst (v := 0) hx hb dX3_cancel_45 (by decide) ?_
      refine lv_istore_n (lv' := [(3, .int 0), (2, .int 0), (0, .ref h0), (1, .int p0)]) hx hb dX3_cancel_46 rfl hl (by decide) rfl (fun ls hl => ?_)
      have LP3 : ∀ (n : Nat) (i : Int32) (kept : Int32) (gn : Nat → Int32), (0 ≤ i.toInt) → (0 ≤ kept.toInt) → (kept.toInt ≤ i.toInt) → (i.toInt ≤ vs.toInt) → (vs.toInt - i.toInt).toNat < n → ∀ (H : Heap) (locs : List Loc), va_P (dC, dI) vwCl [kx_3 h0 a_v a_n vs y_29 y_28, kx_a a_v cyI 12 o_2, kx_a a_n cyI 12 gn] H → va_D A [kx_3 h0 a_v a_n vs y_29 y_28, kx_a a_v cyI 12 o_2, kx_a a_n cyI 12 gn] → va_S A s.heap H locs → ∀ (ls : Array Slot), lv_has ls 4 [(3, .int i), (2, .int kept), (0, .ref h0), (1, .int p0)] → W p l e (headSpec wsX3_cancel ({ frames := 2, cells := 0, slots := 0, locals := 90 })).room s m ([.ref h0, .int p0] : List Value).toArray below meth c H locs 0 0 (MQ below (va_Qv (fun u : Int32 × Int32 × Int32 × (Nat → Int32) × (Nat → Int32) => 0 ≤ u.1.toInt ∧ u.1.toInt ≤ vs.toInt) (fun (u : Int32 × Int32 × Int32 × (Nat → Int32) × (Nat → Int32)) (t : State) => va_P (dC, dI) vwCl [kx_3 h0 a_v a_n u.1 u.2.1 u.2.2.1, kx_a a_v cyI 12 u.2.2.2.1, kx_a a_n cyI 12 u.2.2.2.2] t.heap ∧ va_K (dC, dI) vwCl [(cyI, .int)] t ∧ va_D A [kx_3 h0 a_v a_n u.1 u.2.1 u.2.2.1, kx_a a_v cyI 12 u.2.2.2.1, kx_a a_n cyI 12 u.2.2.2.2]) A) ([.ref h0, .int p0] : List Value).toArray s 0 0 A) (F0 m 47 ls []) := by
        intro n
        induction n with
        | zero => intro i kept gn LP3_h0 LP3_h1 LP3_h2 LP3_h3 hn; exact absurd hn (Nat.not_lt_zero _)
        | succ n ih3 =>
          intro i kept gn LP3_h0 LP3_h1 LP3_h2 LP3_h3 hn3 H locs hP hD hS ls hl
          refine lv_iload_n hx hb dX3_cancel_47 rfl (lv_at hl 0 rfl) ?_
          refine lv_aload_n hx hb dX3_cancel_48 rfl (lv_at hl 2 rfl) ?_
          refine va_get (D := (dC, dI)) (ci := 3) (v := .int vs) (C := RX3) (T := TX3) (N := 5) hx hb hts hi_3 hown hK hP 0 rfl rfl 2 (by decide) hf_18 (fun _ h9 => h9) rfl dX3_cancel_49 ?_
          refine lv_icmp_ge (tgt := 86) hx hb dX3_cancel_52 (by decide) (fun c_30 => ?_) (fun c_30 => ?_)
          · have i_30 : vs.toInt ≤ i.toInt := kc_le c_30
            refine lv_aload_n hx hb dX3_cancel_86 rfl (lv_at hl 2 rfl) ?_
            refine lv_iload_n hx hb dX3_cancel_87 rfl (lv_at hl 1 rfl) ?_
            refine va_put (D := (dC, dI)) (ci := 3) (v := .int kept) (ty := .int) (C := RX3) (T := TX3) (N := 5) hx hb hts hi_3 tyX3 tyX3_ok nmX3 hown hK hP hD hS 0 rfl rfl 2 (by decide) hf_18 (fun _ h9 => h9) rfl (by decide +kernel) rfl rfl (Nat.le_of_ble_eq_true rfl) dX3_cancel_88 (fun H locs hP hD hS => ?_)
            obtain ⟨hP, hD⟩ := kx_re (w2 := [kx_3 h0 a_v a_n kept y_29 y_28, kx_a a_v cyI 12 o_2, kx_a a_n cyI 12 gn]) hP hD rfl
            have hP9 := hP
            have hD9 := hD
            have hK9 := hK
            exact W.vret hx hb hr (hlocks := hlocks) (fun t ht hW => ⟨⟨(kept, y_29, y_28, o_2, gn), rfl, (by (try dsimp only); omega), by rw [ht]; exact hP9, va_K.moved hW.alike hK9, hD9⟩, hS.F ht⟩) hS.2.2 dX3_cancel_91
          · have i_30 : i.toInt < vs.toInt := kc_nle c_30
            refine lv_aload_n hx hb dX3_cancel_55 rfl (lv_at hl 2 rfl) ?_
            refine va_get (D := (dC, dI)) (ci := 3) (v := .ref a_n) (C := RX3) (T := TX3) (N := 5) hx hb hts hi_3 hown hK hP 0 rfl rfl 1 (by decide) hf_15 (fun _ h9 => h9) rfl dX3_cancel_56 ?_
            refine lv_iload_n hx hb dX3_cancel_59 rfl (lv_at hl 0 rfl) ?_
            refine lv_dup2_11 hx hb dX3_cancel_60 rfl rfl ?_
            refine va_iald hx hb hK hP 2 0 rfl rfl (ki_in (om_10 LP3_h0) (om_32 a1 i_30)) dX3_cancel_61 ?_
            refine lv_topi (fun y_31 ey_31 => ?_)
            have j_31 : y_31.toInt = (gn i.toNatClampNeg).toInt := congrArg Int32.toInt ey_31
            refine lv_aload_n hx hb dX3_cancel_62 rfl (lv_at hl 2 rfl) ?_
            refine va_get (D := (dC, dI)) (ci := 3) (v := .int y_28) (C := RX3) (T := TX3) (N := 5) hx hb hts hi_3 hown hK hP 0 rfl rfl 4 (by decide) hf_25 (fun _ h9 => h9) rfl dX3_cancel_63 ?_
            refine lv_isub hx hb dX3_cancel_66 ?_
            refine lv_topi (fun y_32 ey_32 => ?_)
            refine va_iast hx hb hK hP hD hS 2 0 rfl rfl (ki_in (om_10 LP3_h0) (om_32 a1 i_30)) dX3_cancel_67 (fun H locs hP hD hS => ?_)
            obtain ⟨hP, hD⟩ := kx_re (w2 := [kx_3 h0 a_v a_n vs y_29 y_28, kx_a a_v cyI 12 o_2, kx_a a_n cyI 12 (upd gn i.toNatClampNeg y_32)]) hP hD rfl
            refine lv_aload_n hx hb dX3_cancel_68 rfl (lv_at hl 2 rfl) ?_
            refine va_get (D := (dC, dI)) (ci := 3) (v := .ref a_n) (C := RX3) (T := TX3) (N := 5) hx hb hts hi_3 hown hK hP 0 rfl rfl 1 (by decide) hf_15 (fun _ h9 => h9) rfl dX3_cancel_69 ?_
            refine lv_iload_n hx hb dX3_cancel_72 rfl (lv_at hl 0 rfl) ?_
            refine va_iald hx hb hK hP 2 0 rfl rfl (ki_in (om_10 LP3_h0) (om_32 a1 i_30)) dX3_cancel_73 ?_
            refine lv_topi (fun y_33 ey_33 => ?_)
            have j_33 : y_33.toInt = ((upd gn i.toNatClampNeg y_32) i.toNatClampNeg).toInt := congrArg Int32.toInt ey_33
            refine lv_if_le (tgt := 80) hx hb dX3_cancel_74 (by decide) (fun c_34 => ?_) (fun c_34 => ?_)
            · have i_34 : y_33.toInt ≤ 0 := kc_le c_34
              obtain ⟨x_35, ex_35⟩ : ∃ y : Int32, y = i + 1 := ⟨_, rfl⟩
              have i_35 : x_35.toInt = i.toInt + 1 := ki_add ex_35 rfl rfl (om_13 LP3_h0) (om_53 a1 LP3_h3)
              refine lv_iinc (v := x_35) (lv' := [(3, .int x_35), (2, .int kept), (0, .ref h0), (1, .int p0)]) hx hb dX3_cancel_80 hl (k := 0) rfl (by rw [ex_35]; rfl) (by decide) rfl (fun ls hl => ?_)
              refine lv_goto (tgt := 47) hx hb dX3_cancel_83 (by decide) ?_
              exact ih3 x_35 kept (upd gn i.toNatClampNeg y_32) (om_34 LP3_h0 i_35) (om_10 LP3_h1) (om_4 LP3_h2 i_35) (om_54 i_30 i_35) (om_mu hn3 (om_5 i_35) (om_6 i_30)) _ _ hP hD hS ls (lv_sub hl [0, 1, 2, 3] rfl)
            · have i_34 : 0 < y_33.toInt := kc_nle c_34
              obtain ⟨x_36, ex_36⟩ : ∃ y : Int32, y = kept + 1 := ⟨_, rfl⟩
              have i_36 : x_36.toInt = kept.toInt + 1 := ki_add ex_36 rfl rfl (om_13 LP3_h1) (om_55 a1 LP3_h2 LP3_h3)
              refine lv_iinc (v := x_36) (lv' := [(2, .int x_36), (3, .int i), (0, .ref h0), (1, .int p0)]) hx hb dX3_cancel_77 hl (k := 1) rfl (by rw [ex_36]; rfl) (by decide) rfl (fun ls hl => ?_)
              obtain ⟨x_37, ex_37⟩ : ∃ y : Int32, y = i + 1 := ⟨_, rfl⟩
              have i_37 : x_37.toInt = i.toInt + 1 := ki_add ex_37 rfl rfl (om_13 LP3_h0) (om_53 a1 LP3_h3)
              refine lv_iinc (v := x_37) (lv' := [(3, .int x_37), (2, .int x_36), (0, .ref h0), (1, .int p0)]) hx hb dX3_cancel_80 hl (k := 1) rfl (by rw [ex_37]; rfl) (by decide) rfl (fun ls hl => ?_)
              refine lv_goto (tgt := 47) hx hb dX3_cancel_83 (by decide) ?_
              exact ih3 x_37 x_36 (upd gn i.toNatClampNeg y_32) (om_34 LP3_h0 i_37) (om_34 LP3_h1 i_36) (om_56 LP3_h2 i_36 i_37) (om_54 i_30 i_37) (om_mu hn3 (om_5 i_37) (om_6 i_30)) _ _ hP hD hS ls (lv_sub hl [0, 1, 2, 3] rfl)
      have k_38 : (0 : Int32).toInt = 0 := rfl
      have k_39 : (0 : Int32).toInt = 0 := rfl
      exact LP3 ((vs.toInt - 0 : Int).toNat + 1) 0 0 o_3 om_35 om_35 om_35 (om_10 a0) (Nat.lt_succ_self _) _ _ hP hD hS ls (lv_sub hl [0, 1, 2, 3] rfl)

set_option maxHeartbeats 4000000 in
set_option maxRecDepth 100000 in
theorem c_X3_keepHeavy (l : Launch) (dC : Nat → ClassId) (dI : Nat → Nat → Nat) (h0 : Nat) (a_v : Nat) (a_n : Nat) (cyI : ClassId) (vs : Int32) (lo : Int32) (le : Int32) (fv : Nat → Int32) (fn : Nat → Int32) (p0 : Int32) (p1 : Int32) (p2 : Int32) (sz : Nat) (a0 : 0 ≤ vs.toInt) (a1 : vs.toInt ≤ 12) : Met l yX3_keepHeavy wsX3_keepHeavy ({ frames := 2, cells := 0, slots := 0, locals := 90 }) (va_Pc [.ref h0, .int p0, .int p1, .int p2] (fun U => U.heap.size = sz ∧ va_P (dC, dI) vwCl [kx_3 h0 a_v a_n vs lo le, kx_a a_v cyI 12 fv, kx_a a_n cyI 12 fn] U.heap ∧ va_K (dC, dI) vwCl [(cyI, .int)] U ∧ va_D (fun _ => True) [kx_3 h0 a_v a_n vs lo le, kx_a a_v cyI 12 fv, kx_a a_n cyI 12 fn] ∧ va_Nw (.methodLinkNest RX3 42 yX4_isHeavy RX4) U)) (va_Qv (fun u : Int32 × (Nat → Int32) × (Nat → Int32) => 0 ≤ u.1.toInt ∧ u.1.toInt ≤ vs.toInt) (fun (u : Int32 × (Nat → Int32) × (Nat → Int32)) (t : State) => va_P (dC, dI) vwCl [kx_3 h0 a_v a_n u.1 lo le, kx_a a_v cyI 12 u.2.1, kx_a a_n cyI 12 u.2.2] t.heap ∧ va_K (dC, dI) vwCl [(cyI, .int)] t ∧ va_D (va_A [kx_3 h0 a_v a_n vs lo le, kx_a a_v cyI 12 fv, kx_a a_n cyI 12 fn] sz) [kx_3 h0 a_v a_n u.1 lo le, kx_a a_v cyI 12 u.2.1, kx_a a_n cyI 12 u.2.2]) (va_A [kx_3 h0 a_v a_n vs lo le, kx_a a_v cyI 12 fv, kx_a a_n cyI 12 fn] sz)) 0 0 (va_A [kx_3 h0 a_v a_n vs lo le, kx_a a_v cyI 12 fv, kx_a a_n cyI 12 fn] sz) := by
  refine Met.ofW (cc := cX3_keepHeavy) (maxL := 6) (ret := none) (by decide) rfl ?_
  intro p e s m args below meth c s₁ B hml hv
  obtain ⟨rfl, hsz, hP, hK, hD0, hN0⟩ := hv
  have hx := B.exec
  have hb := B.bytes
  have hr := B.returns
  have hts := atoms_spec (ws := wsX3_keepHeavy) B.pre
  have hown : s.vm.findClass RX3 = some m.cls := findClass_of_methodNamed B.named
  have hlocks := B.notSynchronized
  subst hsz
  have hD := hD0.self (sz := s.heap.size)
  generalize hAe : va_A [kx_3 h0 a_v a_n vs lo le, kx_a a_v cyI 12 fv, kx_a a_n cyI 12 fn] s.heap.size = A at hD ⊢
  have hA : ∀ q : Nat, s.heap.size ≤ q → A q := fun q h => by rw [← hAe]; exact Or.inr h
  have hS : va_S A s.heap s.heap [] := va_S.rf
  have hP : va_P (dC, dI) vwCl [kx_3 h0 a_v a_n vs lo le, kx_a a_v cyI 12 fv, kx_a a_n cyI 12 fn] s.heap := hP
  have hl := lv_entry ([.ref h0, .int p0, .int p1, .int p2]) (n := 6) (Nat.le_of_ble_eq_true rfl)
  rw [lg_entry_eq]
  generalize (lg_sl ([.ref h0, .int p0, .int p1, .int p2]) ++ List.replicate (6 - (lg_sl ([.ref h0, .int p0, .int p1, .int p2])).length) Slot.unset).toArray = ls at hl ⊢
  have hl : lv_has ls 6 [(0, .ref h0), (1, .int p0), (2, .int p1), (3, .int p2)] := hl
  have hf_18 := hts (.fieldLink RX3 18 "MajorityIndex$Votes" "size" "I") (List.mem_of_getElem? (i := 1) rfl)
  have hi_3 : ∀ w ∈ u_ws RX3 TX3 5, w ∈ wsX3_keepHeavy := fun w h => List.mem_cons_of_mem _ (List.mem_append_right _ h)
  have hf_15 := hts (.fieldLink RX3 15 "MajorityIndex$Votes" "number" "[I") (List.mem_of_getElem? (i := 2) rfl)
  have hz_RX4 := hts (.initialized RX4) (List.mem_of_getElem? (i := 4) rfl)
  have ht_X4_isHeavy := hts (.static yX4_isHeavy) (List.mem_of_getElem? (i := 3) rfl)
  refine lv_iconst (v := 0) hx hb dX3_keepHeavy_0 (by decide) ?_
  refine lv_istore (lv' := [(4, .int 0), (0, .ref h0), (1, .int p0), (2, .int p1), (3, .int p2)]) hx hb dX3_keepHeavy_1 hl (by decide) rfl (fun ls hl => ?_)
  refine lv_iconst (v := 0) hx hb dX3_keepHeavy_3 (by decide) ?_
  refine lv_istore (lv' := [(5, .int 0), (4, .int 0), (0, .ref h0), (1, .int p0), (2, .int p1), (3, .int p2)]) hx hb dX3_keepHeavy_4 hl (by decide) rfl (fun ls hl => ?_)
  have LP1 : ∀ (n : Nat) (i : Int32) (kept : Int32) (gv : Nat → Int32) (gn : Nat → Int32), (0 ≤ i.toInt) → (0 ≤ kept.toInt) → (kept.toInt ≤ i.toInt) → (i.toInt ≤ vs.toInt) → (vs.toInt - i.toInt).toNat < n → ∀ (H : Heap) (locs : List Loc), va_P (dC, dI) vwCl [kx_3 h0 a_v a_n vs lo le, kx_a a_v cyI 12 gv, kx_a a_n cyI 12 gn] H → va_D A [kx_3 h0 a_v a_n vs lo le, kx_a a_v cyI 12 gv, kx_a a_n cyI 12 gn] → va_S A s.heap H locs → ∀ (ls : Array Slot), lv_has ls 6 [(5, .int i), (4, .int kept), (0, .ref h0), (1, .int p0), (2, .int p1), (3, .int p2)] → W p l e (headSpec wsX3_keepHeavy ({ frames := 2, cells := 0, slots := 0, locals := 90 })).room s m ([.ref h0, .int p0, .int p1, .int p2] : List Value).toArray below meth c H locs 0 0 (MQ below (va_Qv (fun u : Int32 × (Nat → Int32) × (Nat → Int32) => 0 ≤ u.1.toInt ∧ u.1.toInt ≤ vs.toInt) (fun (u : Int32 × (Nat → Int32) × (Nat → Int32)) (t : State) => va_P (dC, dI) vwCl [kx_3 h0 a_v a_n u.1 lo le, kx_a a_v cyI 12 u.2.1, kx_a a_n cyI 12 u.2.2] t.heap ∧ va_K (dC, dI) vwCl [(cyI, .int)] t ∧ va_D A [kx_3 h0 a_v a_n u.1 lo le, kx_a a_v cyI 12 u.2.1, kx_a a_n cyI 12 u.2.2]) A) ([.ref h0, .int p0, .int p1, .int p2] : List Value).toArray s 0 0 A) (F0 m 6 ls []) := by
    intro n
    induction n with
    | zero => intro i kept gv gn LP1_h0 LP1_h1 LP1_h2 LP1_h3 hn; exact absurd hn (Nat.not_lt_zero _)
    | succ n ih1 =>
      intro i kept gv gn LP1_h0 LP1_h1 LP1_h2 LP1_h3 hn1 H locs hP hD hS ls hl
      refine lv_iload hx hb dX3_keepHeavy_6 (lv_at hl 0 rfl) ?_
      refine lv_aload_n hx hb dX3_keepHeavy_8 rfl (lv_at hl 2 rfl) ?_
      refine va_get (D := (dC, dI)) (ci := 3) (v := .int vs) (C := RX3) (T := TX3) (N := 5) hx hb hts hi_3 hown hK hP 0 rfl rfl 2 (by decide) hf_18 (fun _ h9 => h9) rfl dX3_keepHeavy_9 ?_
      refine lv_icmp_ge (tgt := 48) hx hb dX3_keepHeavy_12 (by decide) (fun c_1 => ?_) (fun c_1 => ?_)
      · have i_1 : vs.toInt ≤ i.toInt := kc_le c_1
        refine lv_aload_n hx hb dX3_keepHeavy_48 rfl (lv_at hl 2 rfl) ?_
        refine lv_iload hx hb dX3_keepHeavy_49 (lv_at hl 1 rfl) ?_
        refine va_put (D := (dC, dI)) (ci := 3) (v := .int kept) (ty := .int) (C := RX3) (T := TX3) (N := 5) hx hb hts hi_3 tyX3 tyX3_ok nmX3 hown hK hP hD hS 0 rfl rfl 2 (by decide) hf_18 (fun _ h9 => h9) rfl (by decide +kernel) rfl rfl (Nat.le_of_ble_eq_true rfl) dX3_keepHeavy_51 (fun H locs hP hD hS => ?_)
        obtain ⟨hP, hD⟩ := kx_re (w2 := [kx_3 h0 a_v a_n kept lo le, kx_a a_v cyI 12 gv, kx_a a_n cyI 12 gn]) hP hD rfl
        refine lv_aload_n hx hb dX3_keepHeavy_54 rfl (lv_at hl 2 rfl) ?_
        have hPc := hP
        have hKc := hK
        have hDc := hD
        have hFc := kx_free hD hS hA
        refine va_callv (va_runV (As := []) (rest := []) ⟨hx, hb, hml, hown, hts⟩ (kx_un (c_X3_order l dC dI h0 a_v a_n cyI kept lo le gv gn H.size LP1_h1 (om_57 a1 LP1_h2 LP1_h3))) (cwV 0 hts gX3_keepHeavy_X3_order rfl rfl rfl (by decide +kernel) ⟨Nat.le_of_ble_eq_true rfl, Nat.le_of_ble_eq_true rfl⟩) ⟨fun a U g mk q => by obtain ⟨q0, q1, qP, qK, qD⟩ := q; exact ⟨q0, q1, qP, va_K.moved (u := U) (U := U.calling g mk a) (Vm.Alike.refl U.vm) qK, qD⟩, kx_rc3 hKc hPc (q0 := 0) rfl, fun U hU hW => ⟨rfl, by rw [hU], by rw [hU]; exact hPc, va_K.moved hW.alike hKc, hDc.weaken (fun _ _ _ _ => trivial)⟩⟩ rfl rfl hl.1 rfl (lv_room (Nat.le_of_ble_eq_true rfl)) dX3_keepHeavy_55 ⟨Nat.le_of_ble_eq_true rfl, Nat.le_of_ble_eq_true rfl⟩) hS (fun q _ h => hFc q h) hFc (fun u t H1 locs ht hvm w_2 hB hz1 hk1 hS => ?_)
        obtain ⟨o_3, o_4⟩ := u
        dsimp only at w_2 hB
        obtain ⟨hP1, hK1, hD1⟩ := hB
        rw [ht] at hP1
        have hK1 := va_K.moved hvm.symm hK1
        have hD := hD1.weaken (fun _ q _ h => hFc q.1 h)
        have hP := hP1
        clear hP1 hD1 hK1 hk1 hz1 hFc hDc hPc hKc
        generalize H1 = H at hP hS ⊢
        have w_2 : True := w_2
        have hP9 := hP
        have hD9 := hD
        have hK9 := hK
        exact W.vret hx hb hr (hlocks := hlocks) (fun t ht hW => ⟨⟨(kept, o_3, o_4), rfl, (by (try dsimp only); omega), by rw [ht]; exact hP9, va_K.moved hW.alike hK9, hD9⟩, hS.F ht⟩) hS.2.2 dX3_keepHeavy_58
      · have i_1 : i.toInt < vs.toInt := kc_nle c_1
        refine lv_aload_n hx hb dX3_keepHeavy_15 rfl (lv_at hl 2 rfl) ?_
        refine va_get (D := (dC, dI)) (ci := 3) (v := .ref a_n) (C := RX3) (T := TX3) (N := 5) hx hb hts hi_3 hown hK hP 0 rfl rfl 1 (by decide) hf_15 (fun _ h9 => h9) rfl dX3_keepHeavy_16 ?_
        refine lv_iload hx hb dX3_keepHeavy_19 (lv_at hl 0 rfl) ?_
        refine va_iald hx hb hK hP 2 0 rfl rfl (ki_in (om_10 LP1_h0) (om_32 a1 i_1)) dX3_keepHeavy_21 ?_
        refine lv_topi (fun y_5 ey_5 => ?_)
        have j_5 : y_5.toInt = (gn i.toNatClampNeg).toInt := congrArg Int32.toInt ey_5
        refine lv_iload_n hx hb dX3_keepHeavy_22 rfl (lv_at hl 3 rfl) ?_
        refine lv_iload_n hx hb dX3_keepHeavy_23 rfl (lv_at hl 4 rfl) ?_
        refine lv_iload_n hx hb dX3_keepHeavy_24 rfl (lv_at hl 5 rfl) ?_
        have hPc := hP.sub (ws' := []) [] rfl
        have hKc := hK.sub (tys' := []) [] rfl
        refine vp_callSi (ki_ofRun (va_runSN (As := [.int y_5, .int p0, .int p1, .int p2]) (rest := []) ⟨hx, hb, hml, hown, hts⟩ (c_X4_isHeavy l dC dI y_5 p0 p1 p2) ⟨(va_cnB 4 hts ggX3_keepHeavy_X4_isHeavy rfl rfl rfl hN0 hz_RX4 (by decide +kernel) ⟨Nat.le_of_ble_eq_true rfl, Nat.le_of_ble_eq_true rfl⟩), ht_X4_isHeavy, trivial⟩ ⟨fun a U g mk q => by obtain ⟨q0, qP, qK⟩ := q; exact ⟨q0, qP, va_K.moved (u := U) (U := U.calling g mk a) (Vm.Alike.refl U.vm) qK⟩, fun U hU hW => ⟨rfl, by rw [hU]; exact hPc, va_K.moved hW.alike hKc⟩⟩ rfl rfl hl.1 rfl (lv_room (Nat.le_of_ble_eq_true rfl)) dX3_keepHeavy_25 ⟨Nat.le_of_ble_eq_true rfl, Nat.le_of_ble_eq_true rfl⟩)) (fun r_6 w_6 => ?_)
        rcases w_6 with ⟨rfl, w_6⟩ | ⟨rfl, w_6⟩
        · have w_6 : (0 : Int) ≤ 1 := w_6
          refine lv_if_eq (tgt := 42) hx hb dX3_keepHeavy_28 (by decide) (fun c_7 => ?_) (fun c_7 => ?_)
          · exact absurd c_7 (by decide)
          · refine lv_aload_n hx hb dX3_keepHeavy_31 rfl (lv_at hl 2 rfl) ?_
            refine lv_iload hx hb dX3_keepHeavy_32 (lv_at hl 0 rfl) ?_
            refine lv_iload hx hb dX3_keepHeavy_34 (lv_at hl 1 rfl) ?_
            have hPc := hP
            have hKc := hK
            have hDc := hD
            have hFc := kx_free hD hS hA
            refine va_callv (va_runV (As := [.int i, .int kept]) (rest := []) ⟨hx, hb, hml, hown, hts⟩ (kx_un (c_X3_exchange l dC dI h0 a_v a_n cyI vs lo le gv gn i kept H.size LP1_h0 (om_58 a1 i_1) LP1_h1 (om_59 a1 LP1_h2 i_1))) (cwV 2 hts gX3_keepHeavy_X3_exchange rfl rfl rfl (by decide +kernel) ⟨Nat.le_of_ble_eq_true rfl, Nat.le_of_ble_eq_true rfl⟩) ⟨fun a U g mk q => by obtain ⟨q0, q1, qP, qK, qD⟩ := q; exact ⟨q0, q1, qP, va_K.moved (u := U) (U := U.calling g mk a) (Vm.Alike.refl U.vm) qK, qD⟩, kx_rc3 hKc hPc (q0 := 0) rfl, fun U hU hW => ⟨rfl, by rw [hU], by rw [hU]; exact hPc, va_K.moved hW.alike hKc, hDc.weaken (fun _ _ _ _ => trivial)⟩⟩ rfl rfl hl.1 rfl (lv_room (Nat.le_of_ble_eq_true rfl)) dX3_keepHeavy_36 ⟨Nat.le_of_ble_eq_true rfl, Nat.le_of_ble_eq_true rfl⟩) hS (fun q _ h => hFc q h) hFc (fun u t H1 locs ht hvm w_8 hB hz1 hk1 hS => ?_)
            obtain ⟨o_9, o_10⟩ := u
            dsimp only at w_8 hB
            obtain ⟨hP1, hK1, hD1⟩ := hB
            rw [ht] at hP1
            have hK1 := va_K.moved hvm.symm hK1
            have hD := hD1.weaken (fun _ q _ h => hFc q.1 h)
            have hP := hP1
            clear hP1 hD1 hK1 hk1 hz1 hFc hDc hPc hKc
            generalize H1 = H at hP hS ⊢
            have w_8 : o_9 = upd (upd gv i.toNatClampNeg (gv kept.toNatClampNeg)) kept.toNatClampNeg (gv i.toNatClampNeg) ∧ o_10 = upd (upd gn i.toNatClampNeg (gn kept.toNatClampNeg)) kept.toNatClampNeg (gn i.toNatClampNeg) := w_8
            obtain ⟨x_11, ex_11⟩ : ∃ y : Int32, y = kept + 1 := ⟨_, rfl⟩
            have i_11 : x_11.toInt = kept.toInt + 1 := ki_add ex_11 rfl rfl (om_13 LP1_h1) (om_55 a1 LP1_h2 LP1_h3)
            refine lv_iinc (v := x_11) (lv' := [(4, .int x_11), (5, .int i), (0, .ref h0), (1, .int p0), (2, .int p1), (3, .int p2)]) hx hb dX3_keepHeavy_39 hl (k := 1) rfl (by rw [ex_11]; rfl) (by decide) rfl (fun ls hl => ?_)
            obtain ⟨x_12, ex_12⟩ : ∃ y : Int32, y = i + 1 := ⟨_, rfl⟩
            have i_12 : x_12.toInt = i.toInt + 1 := ki_add ex_12 rfl rfl (om_13 LP1_h0) (om_53 a1 LP1_h3)
            refine lv_iinc (v := x_12) (lv' := [(5, .int x_12), (4, .int x_11), (0, .ref h0), (1, .int p0), (2, .int p1), (3, .int p2)]) hx hb dX3_keepHeavy_42 hl (k := 1) rfl (by rw [ex_12]; rfl) (by decide) rfl (fun ls hl => ?_)
            refine lv_goto (tgt := 6) hx hb dX3_keepHeavy_45 (by decide) ?_
            exact ih1 x_12 x_11 o_9 o_10 (om_34 LP1_h0 i_12) (om_34 LP1_h1 i_11) (om_56 LP1_h2 i_11 i_12) (om_54 i_1 i_12) (om_mu hn1 (om_5 i_12) (om_6 i_1)) _ _ hP hD hS ls (lv_sub hl [0, 1, 2, 3, 4, 5] rfl)
        · have w_6 : (0 : Int) ≤ 1 := w_6
          refine lv_if_eq (tgt := 42) hx hb dX3_keepHeavy_28 (by decide) (fun c_13 => ?_) (fun c_13 => ?_)
          · obtain ⟨x_14, ex_14⟩ : ∃ y : Int32, y = i + 1 := ⟨_, rfl⟩
            have i_14 : x_14.toInt = i.toInt + 1 := ki_add ex_14 rfl rfl (om_13 LP1_h0) (om_53 a1 LP1_h3)
            refine lv_iinc (v := x_14) (lv' := [(5, .int x_14), (4, .int kept), (0, .ref h0), (1, .int p0), (2, .int p1), (3, .int p2)]) hx hb dX3_keepHeavy_42 hl (k := 0) rfl (by rw [ex_14]; rfl) (by decide) rfl (fun ls hl => ?_)
            refine lv_goto (tgt := 6) hx hb dX3_keepHeavy_45 (by decide) ?_
            exact ih1 x_14 kept gv gn (om_34 LP1_h0 i_14) (om_10 LP1_h1) (om_4 LP1_h2 i_14) (om_54 i_1 i_14) (om_mu hn1 (om_5 i_14) (om_6 i_1)) _ _ hP hD hS ls (lv_sub hl [0, 1, 2, 3, 4, 5] rfl)
          · exact absurd c_13 (by decide)
  have k_15 : (0 : Int32).toInt = 0 := rfl
  have k_16 : (0 : Int32).toInt = 0 := rfl
  exact LP1 ((vs.toInt - 0 : Int).toNat + 1) 0 0 fv fn om_35 om_35 om_35 (om_10 a0) (Nat.lt_succ_self _) _ _ hP hD hS ls (lv_sub hl [0, 1, 2, 3, 4, 5] rfl)

set_option maxHeartbeats 4000000 in
set_option maxRecDepth 100000 in
theorem c_X3_numberOf (l : Launch) (dC : Nat → ClassId) (dI : Nat → Nat → Nat) (h0 : Nat) (a_v : Nat) (a_n : Nat) (cyI : ClassId) (vs : Int32) (lo : Int32) (le : Int32) (fv : Nat → Int32) (fn : Nat → Int32) (p0 : Int32) (a0 : 0 ≤ vs.toInt) (a1 : vs.toInt ≤ 12) : Met l yX3_numberOf wsX3_numberOf ({ frames := 0, cells := 0, slots := 0, locals := 0 }) (va_Pc [.ref h0, .int p0] (fun U => va_P (dC, dI) vwCl [kx_3 h0 a_v a_n vs lo le, kx_a a_v cyI 12 fv, kx_a a_n cyI 12 fn] U.heap ∧ va_K (dC, dI) vwCl [(cyI, .int)] U)) (vp_Si (fun r : Int32 => True)) 0 0 (fun _ => False) := by
  refine kx_stS (ws := wsX3_numberOf) (cc := cX3_numberOf) (maxL := 3) (ret := (some .int)) (by decide) rfl (Nat.le_of_ble_eq_true rfl) ?_
  intro p e s m below meth c ls hx hb hr hlocks hts hown hml hP hK hl
  have hown : s.vm.findClass RX3 = some m.cls := hown
  have hl : lv_has ls 3 [(0, .ref h0), (1, .int p0)] := hl
  have hf_18 := hts (.fieldLink RX3 18 "MajorityIndex$Votes" "size" "I") (List.mem_of_getElem? (i := 1) rfl)
  have hi_3 : ∀ w ∈ u_ws RX3 TX3 5, w ∈ wsX3_numberOf := fun w h => List.mem_cons_of_mem _ (List.mem_append_right _ h)
  have hf_9 := hts (.fieldLink RX3 9 "MajorityIndex$Votes" "value" "[I") (List.mem_of_getElem? (i := 2) rfl)
  have hf_15 := hts (.fieldLink RX3 15 "MajorityIndex$Votes" "number" "[I") (List.mem_of_getElem? (i := 3) rfl)
  refine lv_iconst (v := 0) hx hb dX3_numberOf_0 (by decide) ?_
  refine lv_istore_n (lv' := [(2, .int 0), (0, .ref h0), (1, .int p0)]) hx hb dX3_numberOf_1 rfl hl (by decide) rfl (fun ls hl => ?_)
  have LP1 : ∀ (n : Nat) (i : Int32), (0 ≤ i.toInt) → (vs.toInt - i.toInt).toNat < n → ∀ (ls : Array Slot), lv_has ls 3 [(2, .int i), (0, .ref h0), (1, .int p0)] → W p l e (headSpec wsX3_numberOf ({ frames := 0, cells := 0, slots := 0, locals := 0 })).room s m ([.ref h0, .int p0] : List Value).toArray below meth c s.heap [] 0 0 (MQ below (vp_Si (fun r : Int32 => True)) ([.ref h0, .int p0] : List Value).toArray s 0 0 (fun _ => False)) (F0 m 2 ls []) := by
    intro n
    induction n with
    | zero => intro i LP1_h0 hn; exact absurd hn (Nat.not_lt_zero _)
    | succ n ih1 =>
      intro i LP1_h0 hn1 ls hl
      refine lv_iload_n hx hb dX3_numberOf_2 rfl (lv_at hl 0 rfl) ?_
      refine lv_aload_n hx hb dX3_numberOf_3 rfl (lv_at hl 1 rfl) ?_
      refine va_get (D := (dC, dI)) (ci := 3) (v := .int vs) (C := RX3) (T := TX3) (N := 5) hx hb hts hi_3 hown hK hP 0 rfl rfl 2 (by decide) hf_18 (fun _ h9 => h9) rfl dX3_numberOf_4 ?_
      refine lv_icmp_ge (tgt := 33) hx hb dX3_numberOf_7 (by decide) (fun c_1 => ?_) (fun c_1 => ?_)
      · have i_1 : vs.toInt ≤ i.toInt := kc_le c_1
        refine lv_iconst (v := 0) hx hb dX3_numberOf_33 (by decide) ?_
        exact W.iret (v := 0) hx hb hr (hlocks := hlocks) (fun t ht hW => ⟨0, rfl, trivial, ht⟩) (fun q hq => by cases hq) dX3_numberOf_34
      · have i_1 : i.toInt < vs.toInt := kc_nle c_1
        refine lv_aload_n hx hb dX3_numberOf_10 rfl (lv_at hl 1 rfl) ?_
        refine va_get (D := (dC, dI)) (ci := 3) (v := .ref a_v) (C := RX3) (T := TX3) (N := 5) hx hb hts hi_3 hown hK hP 0 rfl rfl 0 (by decide) hf_9 (fun _ h9 => h9) rfl dX3_numberOf_11 ?_
        refine lv_iload_n hx hb dX3_numberOf_14 rfl (lv_at hl 0 rfl) ?_
        refine va_iald hx hb hK hP 1 0 rfl rfl (ki_in (om_10 LP1_h0) (om_32 a1 i_1)) dX3_numberOf_15 ?_
        refine lv_topi (fun y_2 ey_2 => ?_)
        have j_2 : y_2.toInt = (fv i.toNatClampNeg).toInt := congrArg Int32.toInt ey_2
        refine lv_iload_n hx hb dX3_numberOf_16 rfl (lv_at hl 2 rfl) ?_
        refine lv_icmp_ne (tgt := 27) hx hb dX3_numberOf_17 (by decide) (fun c_3 => ?_) (fun c_3 => ?_)
        · have i_3 : ¬ y_2.toInt = p0.toInt := kc_ne c_3
          obtain ⟨x_4, ex_4⟩ : ∃ y : Int32, y = i + 1 := ⟨_, rfl⟩
          have i_4 : x_4.toInt = i.toInt + 1 := ki_add ex_4 rfl rfl (om_13 LP1_h0) (om_33 a1 i_1)
          refine lv_iinc (v := x_4) (lv' := [(2, .int x_4), (0, .ref h0), (1, .int p0)]) hx hb dX3_numberOf_27 hl (k := 0) rfl (by rw [ex_4]; rfl) (by decide) rfl (fun ls hl => ?_)
          refine lv_goto (tgt := 2) hx hb dX3_numberOf_30 (by decide) ?_
          exact ih1 x_4 (om_34 LP1_h0 i_4) (om_mu hn1 (om_5 i_4) (om_6 i_1)) ls (lv_sub hl [0, 1, 2] rfl)
        · have i_3 : y_2.toInt = p0.toInt := kc_eq c_3
          refine lv_aload_n hx hb dX3_numberOf_20 rfl (lv_at hl 1 rfl) ?_
          refine va_get (D := (dC, dI)) (ci := 3) (v := .ref a_n) (C := RX3) (T := TX3) (N := 5) hx hb hts hi_3 hown hK hP 0 rfl rfl 1 (by decide) hf_15 (fun _ h9 => h9) rfl dX3_numberOf_21 ?_
          refine lv_iload_n hx hb dX3_numberOf_24 rfl (lv_at hl 0 rfl) ?_
          refine va_iald hx hb hK hP 2 0 rfl rfl (ki_in (om_10 LP1_h0) (om_32 a1 i_1)) dX3_numberOf_25 ?_
          refine lv_topi (fun y_5 ey_5 => ?_)
          have j_5 : y_5.toInt = (fn i.toNatClampNeg).toInt := congrArg Int32.toInt ey_5
          exact W.iret (v := y_5) hx hb hr (hlocks := hlocks) (fun t ht hW => ⟨y_5, rfl, trivial, ht⟩) (fun q hq => by cases hq) dX3_numberOf_26
  have k_6 : (0 : Int32).toInt = 0 := rfl
  exact LP1 ((vs.toInt - 0 : Int).toNat + 1) 0 om_35 (Nat.lt_succ_self _) ls (lv_sub hl [0, 1, 2] rfl)

set_option maxHeartbeats 4000000 in
set_option maxRecDepth 100000 in
theorem c_X3_join (l : Launch) (dC : Nat → ClassId) (dI : Nat → Nat → Nat) (h0 : Nat) (a_v : Nat) (a_n : Nat) (cyI : ClassId) (vs : Int32) (lo : Int32) (le : Int32) (fv : Nat → Int32) (fn : Nat → Int32) (k0 : Nat) (kv : Nat) (kn : Nat) (sb : Int32) (lb : Int32) (eb : Int32) (gb : Nat → Int32) (nb : Nat → Int32) (sz : Nat) (a0 : 0 ≤ vs.toInt) (a1 : vs.toInt ≤ 12) (b0 : 0 ≤ sb.toInt) (b1 : sb.toInt ≤ 12) : kx_MQ l (dC, dI) yX3_join wsX3_join ({ frames := 1, cells := 0, slots := 0, locals := 45 }) [.ref h0, .ref k0] [kx_3 h0 a_v a_n vs lo le, kx_a a_v cyI 12 fv, kx_a a_n cyI 12 fn, kx_3 k0 kv kn sb lb eb, kx_a kv cyI 12 gb, kx_a kn cyI 12 nb] [(cyI, .int)] sz (fun A => va_Qv (fun u : Int32 × Int32 × (Nat → Int32) × (Nat → Int32) => 0 ≤ u.1.toInt ∧ u.1.toInt ≤ 12) (fun (u : Int32 × Int32 × (Nat → Int32) × (Nat → Int32)) (t : State) => va_P (dC, dI) vwCl [kx_3 h0 a_v a_n u.1 u.2.1 le, kx_a a_v cyI 12 u.2.2.1, kx_a a_n cyI 12 u.2.2.2, kx_3 k0 kv kn sb lb eb, kx_a kv cyI 12 gb, kx_a kn cyI 12 nb] t.heap ∧ va_K (dC, dI) vwCl [(cyI, .int)] t ∧ va_D A [kx_3 h0 a_v a_n u.1 u.2.1 le, kx_a a_v cyI 12 u.2.2.1, kx_a a_n cyI 12 u.2.2.2, kx_3 k0 kv kn sb lb eb, kx_a kv cyI 12 gb, kx_a kn cyI 12 nb]) A) := by
  refine kx_stQ (ws := wsX3_join) (cc := cX3_join) (maxL := 3) (ret := none) (by decide) rfl (Nat.le_of_ble_eq_true rfl) ?_
  intro p e s m below meth c A ls hx hb hr hlocks hts hown hml hA hS hP hK hD hl
  have hown : s.vm.findClass RX3 = some m.cls := hown
  have hl : lv_has ls 3 [(0, .ref h0), (1, .ref k0)] := hl
  have hf_18 := hts (.fieldLink RX3 18 "MajorityIndex$Votes" "size" "I") (List.mem_of_getElem? (i := 1) rfl)
  have hi_3 : ∀ w ∈ u_ws RX3 TX3 5, w ∈ wsX3_join := fun w h => List.mem_cons_of_mem _ (List.mem_append_right _ h)
  have hf_22 := hts (.fieldLink RX3 22 "MajorityIndex$Votes" "lost" "I") (List.mem_of_getElem? (i := 4) rfl)
  have hf_9 := hts (.fieldLink RX3 9 "MajorityIndex$Votes" "value" "[I") (List.mem_of_getElem? (i := 2) rfl)
  have hf_15 := hts (.fieldLink RX3 15 "MajorityIndex$Votes" "number" "[I") (List.mem_of_getElem? (i := 3) rfl)
  refine lv_iconst (v := 0) hx hb dX3_join_0 (by decide) ?_
  refine lv_istore_n (lv' := [(2, .int 0), (0, .ref h0), (1, .ref k0)]) hx hb dX3_join_1 rfl hl (by decide) rfl (fun ls hl => ?_)
  have LP1 : ∀ (n : Nat) (i : Int32) (zz : Int32) (yv : Nat → Int32) (yn : Nat → Int32), (0 ≤ i.toInt) → (0 ≤ zz.toInt) → (zz.toInt ≤ 12) → (sb.toInt - i.toInt).toNat < n → ∀ (H : Heap) (locs : List Loc), va_P (dC, dI) vwCl [kx_3 h0 a_v a_n zz lo le, kx_a a_v cyI 12 yv, kx_a a_n cyI 12 yn, kx_3 k0 kv kn sb lb eb, kx_a kv cyI 12 gb, kx_a kn cyI 12 nb] H → va_D A [kx_3 h0 a_v a_n zz lo le, kx_a a_v cyI 12 yv, kx_a a_n cyI 12 yn, kx_3 k0 kv kn sb lb eb, kx_a kv cyI 12 gb, kx_a kn cyI 12 nb] → va_S A s.heap H locs → ∀ (ls : Array Slot), lv_has ls 3 [(2, .int i), (0, .ref h0), (1, .ref k0)] → W p l e (headSpec wsX3_join ({ frames := 1, cells := 0, slots := 0, locals := 45 })).room s m ([.ref h0, .ref k0] : List Value).toArray below meth c H locs 0 0 (MQ below (va_Qv (fun u : Int32 × Int32 × (Nat → Int32) × (Nat → Int32) => 0 ≤ u.1.toInt ∧ u.1.toInt ≤ 12) (fun (u : Int32 × Int32 × (Nat → Int32) × (Nat → Int32)) (t : State) => va_P (dC, dI) vwCl [kx_3 h0 a_v a_n u.1 u.2.1 le, kx_a a_v cyI 12 u.2.2.1, kx_a a_n cyI 12 u.2.2.2, kx_3 k0 kv kn sb lb eb, kx_a kv cyI 12 gb, kx_a kn cyI 12 nb] t.heap ∧ va_K (dC, dI) vwCl [(cyI, .int)] t ∧ va_D A [kx_3 h0 a_v a_n u.1 u.2.1 le, kx_a a_v cyI 12 u.2.2.1, kx_a a_n cyI 12 u.2.2.2, kx_3 k0 kv kn sb lb eb, kx_a kv cyI 12 gb, kx_a kn cyI 12 nb]) A) ([.ref h0, .ref k0] : List Value).toArray s 0 0 A) (F0 m 2 ls []) := by
    intro n
    induction n with
    | zero => intro i zz yv yn LP1_h0 LP1_h1 LP1_h2 hn; exact absurd hn (Nat.not_lt_zero _)
    | succ n ih1 =>
      intro i zz yv yn LP1_h0 LP1_h1 LP1_h2 hn1 H locs hP hD hS ls hl
      refine lv_iload_n hx hb dX3_join_2 rfl (lv_at hl 0 rfl) ?_
      refine lv_aload_n hx hb dX3_join_3 rfl (lv_at hl 2 rfl) ?_
      refine va_get (D := (dC, dI)) (ci := 3) (v := .int sb) (C := RX3) (T := TX3) (N := 5) hx hb hts hi_3 hown hK hP 3 rfl rfl 2 (by decide) hf_18 (fun _ h9 => h9) rfl dX3_join_4 ?_
      refine lv_icmp_ge (tgt := 32) hx hb dX3_join_7 (by decide) (fun c_1 => ?_) (fun c_1 => ?_)
      · have i_1 : sb.toInt ≤ i.toInt := kc_le c_1
        refine lv_aload_n hx hb dX3_join_32 rfl (lv_at hl 1 rfl) ?_
        refine lv_dup hx hb dX3_join_33 rfl ?_
        refine va_get (D := (dC, dI)) (ci := 3) (v := .int lo) (C := RX3) (T := TX3) (N := 5) hx hb hts hi_3 hown hK hP 0 rfl rfl 3 (by decide) hf_22 (fun _ h9 => h9) rfl dX3_join_34 ?_
        refine lv_aload_n hx hb dX3_join_37 rfl (lv_at hl 2 rfl) ?_
        refine va_get (D := (dC, dI)) (ci := 3) (v := .int lb) (C := RX3) (T := TX3) (N := 5) hx hb hts hi_3 hown hK hP 3 rfl rfl 3 (by decide) hf_22 (fun _ h9 => h9) rfl dX3_join_38 ?_
        refine lv_iadd hx hb dX3_join_41 ?_
        refine lv_topi (fun y_2 ey_2 => ?_)
        refine va_put (D := (dC, dI)) (ci := 3) (v := .int y_2) (ty := .int) (C := RX3) (T := TX3) (N := 5) hx hb hts hi_3 tyX3 tyX3_ok nmX3 hown hK hP hD hS 0 rfl rfl 3 (by decide) hf_22 (fun _ h9 => h9) rfl (by decide +kernel) rfl rfl (Nat.le_of_ble_eq_true rfl) dX3_join_42 (fun H locs hP hD hS => ?_)
        obtain ⟨hP, hD⟩ := kx_re (w2 := [kx_3 h0 a_v a_n zz y_2 le, kx_a a_v cyI 12 yv, kx_a a_n cyI 12 yn, kx_3 k0 kv kn sb lb eb, kx_a kv cyI 12 gb, kx_a kn cyI 12 nb]) hP hD rfl
        have hP9 := hP
        have hD9 := hD
        have hK9 := hK
        exact W.vret hx hb hr (hlocks := hlocks) (fun t ht hW => ⟨⟨(zz, y_2, yv, yn), rfl, (by (try dsimp only); omega), by rw [ht]; exact hP9, va_K.moved hW.alike hK9, hD9⟩, hS.F ht⟩) hS.2.2 dX3_join_45
      · have i_1 : i.toInt < sb.toInt := kc_nle c_1
        refine lv_aload_n hx hb dX3_join_10 rfl (lv_at hl 1 rfl) ?_
        refine lv_aload_n hx hb dX3_join_11 rfl (lv_at hl 2 rfl) ?_
        refine va_get (D := (dC, dI)) (ci := 3) (v := .ref kv) (C := RX3) (T := TX3) (N := 5) hx hb hts hi_3 hown hK hP 3 rfl rfl 0 (by decide) hf_9 (fun _ h9 => h9) rfl dX3_join_12 ?_
        refine lv_iload_n hx hb dX3_join_15 rfl (lv_at hl 0 rfl) ?_
        refine va_iald hx hb hK hP 4 0 rfl rfl (ki_in (om_10 LP1_h0) (om_32 b1 i_1)) dX3_join_16 ?_
        refine lv_topi (fun y_3 ey_3 => ?_)
        have j_3 : y_3.toInt = (gb i.toNatClampNeg).toInt := congrArg Int32.toInt ey_3
        refine lv_aload_n hx hb dX3_join_17 rfl (lv_at hl 2 rfl) ?_
        refine va_get (D := (dC, dI)) (ci := 3) (v := .ref kn) (C := RX3) (T := TX3) (N := 5) hx hb hts hi_3 hown hK hP 3 rfl rfl 1 (by decide) hf_15 (fun _ h9 => h9) rfl dX3_join_18 ?_
        refine lv_iload_n hx hb dX3_join_21 rfl (lv_at hl 0 rfl) ?_
        refine va_iald hx hb hK hP 5 0 rfl rfl (ki_in (om_10 LP1_h0) (om_32 b1 i_1)) dX3_join_22 ?_
        refine lv_topi (fun y_4 ey_4 => ?_)
        have j_4 : y_4.toInt = (nb i.toNatClampNeg).toInt := congrArg Int32.toInt ey_4
        obtain ⟨hPc, hDc, hFc, hCc⟩ := kx_preM (wc := [kx_3 h0 a_v a_n zz lo le, kx_a a_v cyI 12 yv, kx_a a_n cyI 12 yn]) hP hD hS hA [true, true, true, false, false, false] rfl
        have hKc := hK
        refine va_callv (va_runV (As := [.int y_3, .int y_4]) (rest := []) ⟨hx, hb, hml, hown, hts⟩ (kx_un (c_X3_add l dC dI h0 a_v a_n cyI zz lo le yv yn y_3 y_4 H.size LP1_h1 LP1_h2)) (cwV 2 hts gX3_join_X3_add rfl rfl rfl (by decide +kernel) ⟨Nat.le_of_ble_eq_true rfl, Nat.le_of_ble_eq_true rfl⟩) ⟨fun a U g mk q => by obtain ⟨q0, q1, qP, qK, qD⟩ := q; exact ⟨q0, q1, qP, va_K.moved (u := U) (U := U.calling g mk a) (Vm.Alike.refl U.vm) qK, qD⟩, kx_rc3 hKc hPc (q0 := 0) rfl, fun U hU hW => ⟨rfl, by rw [hU], by rw [hU]; exact hPc, va_K.moved hW.alike hKc, hDc.weaken (fun _ _ _ _ => trivial)⟩⟩ rfl rfl hl.1 rfl (lv_room (Nat.le_of_ble_eq_true rfl)) dX3_join_23 ⟨Nat.le_of_ble_eq_true rfl, Nat.le_of_ble_eq_true rfl⟩) hS (fun q _ h => hFc q h) hFc (fun u t H1 locs ht hvm w_5 hB hz1 hk1 hS => ?_)
        obtain ⟨o_6, o_7, o_8⟩ := u
        dsimp only at w_5 hB
        obtain ⟨hP1, hK1, hD1⟩ := hB
        rw [ht] at hP1
        have hK1 := va_K.moved hvm.symm hK1
        obtain ⟨hP, hD⟩ := kx_joinM (w2 := [kx_3 h0 a_v a_n o_6 lo le, kx_a a_v cyI 12 o_7, kx_a a_n cyI 12 o_8, kx_3 k0 kv kn sb lb eb, kx_a kv cyI 12 gb, kx_a kn cyI 12 nb]) hP hD hP1 hD1 hk1 hFc [true, true, true, false, false, false] hCc rfl
        clear hP1 hD1 hK1 hk1 hz1 hFc hDc hPc hKc hCc
        generalize H1 = H at hP hS ⊢
        have w_5 : zz.toInt ≤ o_6.toInt ∧ o_6.toInt ≤ zz.toInt + 1 ∧ o_6.toInt ≤ 12 := w_5
        obtain ⟨x_9, ex_9⟩ : ∃ y : Int32, y = i + 1 := ⟨_, rfl⟩
        have i_9 : x_9.toInt = i.toInt + 1 := ki_add ex_9 rfl rfl (om_13 LP1_h0) (om_33 b1 i_1)
        refine lv_iinc (v := x_9) (lv' := [(2, .int x_9), (0, .ref h0), (1, .ref k0)]) hx hb dX3_join_26 hl (k := 0) rfl (by rw [ex_9]; rfl) (by decide) rfl (fun ls hl => ?_)
        refine lv_goto (tgt := 2) hx hb dX3_join_29 (by decide) ?_
        exact ih1 x_9 o_6 o_7 o_8 (om_34 LP1_h0 i_9) (om_0 LP1_h1 w_5.1) (om_60 w_5.2.2) (om_mu hn1 (om_5 i_9) (om_6 i_1)) _ _ hP hD hS ls (lv_sub hl [0, 1, 2] rfl)
  have k_10 : (0 : Int32).toInt = 0 := rfl
  exact LP1 ((sb.toInt - 0 : Int).toNat + 1) 0 vs fv fn om_35 (om_10 a0) (om_60 a1) (Nat.lt_succ_self _) _ _ hP hD hS ls (lv_sub hl [0, 1, 2] rfl)


