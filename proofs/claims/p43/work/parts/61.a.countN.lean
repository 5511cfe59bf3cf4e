abbrev wsX00 : List Cond := u_ws RX0 TX0 2
abbrev cX0_oftenIn : ByteArray := prog_2_method_8_code
def yX0_oftenIn : MethodName := ⟨RX0, "oftenIn", "(III)I"⟩
abbrev wsX50 : List Cond := u_ws RX5 TX5 30
abbrev cX5_times : ByteArray := prog_7_method_33_code
def yX5_times : MethodName := ⟨RX5, "times", "(III)I"⟩
def wsX0_oftenIn : List Cond := .code yX0_oftenIn cX0_oftenIn 6 (some .int) :: ([.fieldLink RX0 9 "MajorityIndex$Row" "cell" "[I"] ++ wsX00)
def wsX5_times : List Cond := .code yX5_times cX5_times 6 (some .int) :: ([.fieldLink RX5 7 "MajorityIndexModel" "row" "[I"] ++ wsX50)
def dt_cX0_oftenIn_0 : List (Nat × Nat × Nat × Nat) := [(0, 3, 0, 0), (1, 54, 1, 4), (3, 28, 0, 0), (4, 54, 1, 5), (6, 21, 1, 5), (8, 29, 0, 0), (9, 162, 2, 23), (12, 42, 0, 0), (13, 180, 2, 9), (16, 21, 1, 5), (18, 46, 0, 0), (19, 27, 0, 0), (20, 160, 2, 6), (23, 132, 2, 1025), (26, 132, 2, 1281), (29, 167, 2, 65513), (32, 21, 1, 4), (34, 172, 0, 0)]
theorem da_cX0_oftenIn_0 : fw dt_cX0_oftenIn_0 0 cX0_oftenIn.data.toList = true := by decide +kernel
theorem dX0_oftenIn_0 : decode cX0_oftenIn 0 = .ok (.iconst 0, 1) := fo_3 (fw_get da_cX0_oftenIn_0 0 rfl)
theorem dX0_oftenIn_1 : decode cX0_oftenIn 1 = .ok (.istore 4, 2) := fo_54 (fw_get da_cX0_oftenIn_0 1 rfl)
theorem dX0_oftenIn_3 : decode cX0_oftenIn 3 = .ok (.iload_n 2, 1) := fo_28 (fw_get da_cX0_oftenIn_0 2 rfl)
theorem dX0_oftenIn_4 : decode cX0_oftenIn 4 = .ok (.istore 5, 2) := fo_54 (fw_get da_cX0_oftenIn_0 3 rfl)
theorem dX0_oftenIn_6 : decode cX0_oftenIn 6 = .ok (.iload 5, 2) := fo_21 (fw_get da_cX0_oftenIn_0 4 rfl)
theorem dX0_oftenIn_8 : decode cX0_oftenIn 8 = .ok (.iload_n 3, 1) := fo_29 (fw_get da_cX0_oftenIn_0 5 rfl)
theorem dX0_oftenIn_9 : decode cX0_oftenIn 9 = .ok (.if_icmp .ge 23, 3) := fo_162 (fw_get da_cX0_oftenIn_0 6 rfl) (by decide +kernel)
theorem dX0_oftenIn_12 : decode cX0_oftenIn 12 = .ok (.aload_n 0, 1) := fo_42 (fw_get da_cX0_oftenIn_0 7 rfl)
theorem dX0_oftenIn_13 : decode cX0_oftenIn 13 = .ok (.getfield 9, 3) := fo_180 (fw_get da_cX0_oftenIn_0 8 rfl)
theorem dX0_oftenIn_16 : decode cX0_oftenIn 16 = .ok (.iload 5, 2) := fo_21 (fw_get da_cX0_oftenIn_0 9 rfl)
theorem dX0_oftenIn_18 : decode cX0_oftenIn 18 = .ok (.iaload, 1) := fo_46 (fw_get da_cX0_oftenIn_0 10 rfl)
theorem dX0_oftenIn_19 : decode cX0_oftenIn 19 = .ok (.iload_n 1, 1) := fo_27 (fw_get da_cX0_oftenIn_0 11 rfl)
theorem dX0_oftenIn_20 : decode cX0_oftenIn 20 = .ok (.if_icmp .ne 6, 3) := fo_160 (fw_get da_cX0_oftenIn_0 12 rfl) (by decide +kernel)
theorem dX0_oftenIn_23 : decode cX0_oftenIn 23 = .ok (.iinc 4 1, 3) := fo_132 (fw_get da_cX0_oftenIn_0 13 rfl) rfl (by decide +kernel)
theorem dX0_oftenIn_26 : decode cX0_oftenIn 26 = .ok (.iinc 5 1, 3) := fo_132 (fw_get da_cX0_oftenIn_0 14 rfl) rfl (by decide +kernel)
theorem dX0_oftenIn_29 : decode cX0_oftenIn 29 = .ok (.goto (-23), 3) := fo_167 (fw_get da_cX0_oftenIn_0 15 rfl) (by decide +kernel)
theorem dX0_oftenIn_32 : decode cX0_oftenIn 32 = .ok (.iload 4, 2) := fo_21 (fw_get da_cX0_oftenIn_0 16 rfl)
theorem dX0_oftenIn_34 : decode cX0_oftenIn 34 = .ok (.ireturn, 1) := fo_172 (fw_get da_cX0_oftenIn_0 17 rfl)
def dt_cX5_times_0 : List (Nat × Nat × Nat × Nat) := [(0, 3, 0, 0), (1, 54, 1, 4), (3, 28, 0, 0), (4, 54, 1, 5), (6, 21, 1, 5), (8, 29, 0, 0), (9, 162, 2, 23), (12, 42, 0, 0), (13, 180, 2, 7), (16, 21, 1, 5), (18, 46, 0, 0), (19, 27, 0, 0), (20, 160, 2, 6), (23, 132, 2, 1025), (26, 132, 2, 1281), (29, 167, 2, 65513), (32, 21, 1, 4), (34, 172, 0, 0)]
theorem da_cX5_times_0 : fw dt_cX5_times_0 0 cX5_times.data.toList = true := by decide +kernel
theorem dX5_times_0 : decode cX5_times 0 = .ok (.iconst 0, 1) := fo_3 (fw_get da_cX5_times_0 0 rfl)
theorem dX5_times_1 : decode cX5_times 1 = .ok (.istore 4, 2) := fo_54 (fw_get da_cX5_times_0 1 rfl)
theorem dX5_times_3 : decode cX5_times 3 = .ok (.iload_n 2, 1) := fo_28 (fw_get da_cX5_times_0 2 rfl)
theorem dX5_times_4 : decode cX5_times 4 = .ok (.istore 5, 2) := fo_54 (fw_get da_cX5_times_0 3 rfl)
theorem dX5_times_6 : decode cX5_times 6 = .ok (.iload 5, 2) := fo_21 (fw_get da_cX5_times_0 4 rfl)
theorem dX5_times_8 : decode cX5_times 8 = .ok (.iload_n 3, 1) := fo_29 (fw_get da_cX5_times_0 5 rfl)
theorem dX5_times_9 : decode cX5_times 9 = .ok (.if_icmp .ge 23, 3) := fo_162 (fw_get da_cX5_times_0 6 rfl) (by decide +kernel)
theorem dX5_times_12 : decode cX5_times 12 = .ok (.aload_n 0, 1) := fo_42 (fw_get da_cX5_times_0 7 rfl)
theorem dX5_times_13 : decode cX5_times 13 = .ok (.getfield 7, 3) := fo_180 (fw_get da_cX5_times_0 8 rfl)
theorem dX5_times_16 : decode cX5_times 16 = .ok (.iload 5, 2) := fo_21 (fw_get da_cX5_times_0 9 rfl)
theorem dX5_times_18 : decode cX5_times 18 = .ok (.iaload, 1) := fo_46 (fw_get da_cX5_times_0 10 rfl)
theorem dX5_times_19 : decode cX5_times 19 = .ok (.iload_n 1, 1) := fo_27 (fw_get da_cX5_times_0 11 rfl)
theorem dX5_times_20 : decode cX5_times 20 = .ok (.if_icmp .ne 6, 3) := fo_160 (fw_get da_cX5_times_0 12 rfl) (by decide +kernel)
theorem dX5_times_23 : decode cX5_times 23 = .ok (.iinc 4 1, 3) := fo_132 (fw_get da_cX5_times_0 13 rfl) rfl (by decide +kernel)
theorem dX5_times_26 : decode cX5_times 26 = .ok (.iinc 5 1, 3) := fo_132 (fw_get da_cX5_times_0 14 rfl) rfl (by decide +kernel)
theorem dX5_times_29 : decode cX5_times 29 = .ok (.goto (-23), 3) := fo_167 (fw_get da_cX5_times_0 15 rfl) (by decide +kernel)
theorem dX5_times_32 : decode cX5_times 32 = .ok (.iload 4, 2) := fo_21 (fw_get da_cX5_times_0 16 rfl)
theorem dX5_times_34 : decode cX5_times 34 = .ok (.ireturn, 1) := fo_172 (fw_get da_cX5_times_0 17 rfl)

