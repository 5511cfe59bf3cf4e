abbrev cX5_thrown : ByteArray := prog_7_method_2_code
def yX5_thrown : MethodName := ⟨RX5, "thrown", "()I"⟩
def wsX5_thrown : List Cond := .code yX5_thrown cX5_thrown 1 (some .int) :: ([.fieldLink RX5 77 "MajorityIndexModel" "thrown" "I"] ++ wsX50)
def dt_cX5_thrown_0 : List (Nat × Instr × Nat) := [(0, .aload_n 0, 1), (1, .getfield 77, 3), (4, .ireturn, 1)]
theorem da_cX5_thrown_0 : dk_all cX5_thrown dt_cX5_thrown_0 = true := by decide +kernel
theorem dX5_thrown_0 : decode cX5_thrown 0 = .ok (.aload_n 0, 1) := dk_get _ da_cX5_thrown_0 0 _ _ _ rfl
theorem dX5_thrown_1 : decode cX5_thrown 1 = .ok (.getfield 77, 3) := dk_get _ da_cX5_thrown_0 1 _ _ _ rfl
theorem dX5_thrown_4 : decode cX5_thrown 4 = .ok (.ireturn, 1) := dk_get _ da_cX5_thrown_0 2 _ _ _ rfl


