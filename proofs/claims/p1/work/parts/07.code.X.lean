abbrev b_X_oneOf : ByteArray := prog_1_method_15_code
def y_X_oneOf : MethodName := ⟨"ExploreShares", "oneOf", "(II)I"⟩
def w_X_oneOf : List Cond := .code y_X_oneOf b_X_oneOf 2 (some .int) :: xU
theorem d_X_oneOf_0 : decode b_X_oneOf 0 = .ok (.iload_n 0, 1) := by decide +kernel
theorem d_X_oneOf_1 : decode b_X_oneOf 1 = .ok (.ifCond .le 12, 3) := by decide +kernel
theorem d_X_oneOf_4 : decode b_X_oneOf 4 = .ok (.iload_n 1, 1) := by decide +kernel
theorem d_X_oneOf_5 : decode b_X_oneOf 5 = .ok (.ldc 211, 2) := by decide +kernel
theorem d_X_oneOf_7 : decode b_X_oneOf 7 = .ok (.idiv, 1) := by decide +kernel
theorem d_X_oneOf_8 : decode b_X_oneOf 8 = .ok (.iload_n 0, 1) := by decide +kernel
theorem d_X_oneOf_9 : decode b_X_oneOf 9 = .ok (.irem, 1) := by decide +kernel
theorem d_X_oneOf_10 : decode b_X_oneOf 10 = .ok (.goto 4, 3) := by decide +kernel
theorem d_X_oneOf_14 : decode b_X_oneOf 14 = .ok (.ireturn, 1) := by decide +kernel
abbrev b_X_fillFlags : ByteArray := prog_1_method_16_code
def y_X_fillFlags : MethodName := ⟨"ExploreShares", "fillFlags", "([ZZ)V"⟩
def w_X_fillFlags : List Cond := .code y_X_fillFlags b_X_fillFlags 3 (none) :: xU
theorem d_X_fillFlags_0 : decode b_X_fillFlags 0 = .ok (.iconst 0, 1) := by decide +kernel
theorem d_X_fillFlags_1 : decode b_X_fillFlags 1 = .ok (.istore_n 2, 1) := by decide +kernel
theorem d_X_fillFlags_2 : decode b_X_fillFlags 2 = .ok (.iload_n 2, 1) := by decide +kernel
theorem d_X_fillFlags_3 : decode b_X_fillFlags 3 = .ok (.aload_n 0, 1) := by decide +kernel
theorem d_X_fillFlags_4 : decode b_X_fillFlags 4 = .ok (.arraylength, 1) := by decide +kernel
theorem d_X_fillFlags_5 : decode b_X_fillFlags 5 = .ok (.if_icmp .ge 13, 3) := by decide +kernel
theorem d_X_fillFlags_8 : decode b_X_fillFlags 8 = .ok (.aload_n 0, 1) := by decide +kernel
theorem d_X_fillFlags_9 : decode b_X_fillFlags 9 = .ok (.iload_n 2, 1) := by decide +kernel
theorem d_X_fillFlags_10 : decode b_X_fillFlags 10 = .ok (.iload_n 1, 1) := by decide +kernel
theorem d_X_fillFlags_11 : decode b_X_fillFlags 11 = .ok (.bastore, 1) := by decide +kernel
theorem d_X_fillFlags_12 : decode b_X_fillFlags 12 = .ok (.iinc 2 1, 3) := by decide +kernel
theorem d_X_fillFlags_15 : decode b_X_fillFlags 15 = .ok (.goto (-13), 3) := by decide +kernel
theorem d_X_fillFlags_18 : decode b_X_fillFlags 18 = .ok (.return_, 1) := by decide +kernel
abbrev b_X_numberBehind : ByteArray := prog_1_method_14_code
def y_X_numberBehind : MethodName := ⟨"ExploreShares", "numberBehind", "(I)I"⟩
def w_X_numberBehind : List Cond := .code y_X_numberBehind b_X_numberBehind 1 (some .int) :: xU
theorem d_X_numberBehind_0 : decode b_X_numberBehind 0 = .ok (.ldc 209, 2) := by decide +kernel
theorem d_X_numberBehind_2 : decode b_X_numberBehind 2 = .ok (.iload_n 0, 1) := by decide +kernel
theorem d_X_numberBehind_3 : decode b_X_numberBehind 3 = .ok (.imul, 1) := by decide +kernel
theorem d_X_numberBehind_4 : decode b_X_numberBehind 4 = .ok (.sipush 12345, 3) := by decide +kernel
theorem d_X_numberBehind_7 : decode b_X_numberBehind 7 = .ok (.iadd, 1) := by decide +kernel
theorem d_X_numberBehind_8 : decode b_X_numberBehind 8 = .ok (.ldc 210, 2) := by decide +kernel
theorem d_X_numberBehind_10 : decode b_X_numberBehind 10 = .ok (.iand, 1) := by decide +kernel
theorem d_X_numberBehind_11 : decode b_X_numberBehind 11 = .ok (.ireturn, 1) := by decide +kernel
