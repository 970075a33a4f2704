abbrev b_X_fillFlags : ByteArray := prog_1_method_16_code
def y_X_fillFlags : MethodName := ⟨"ExploreShares", "fillFlags", "([ZZ)V"⟩
def w_X_fillFlags : List Cond := .code y_X_fillFlags b_X_fillFlags 3 (none) :: xU
theorem d_X_fillFlags_0 : decode b_X_fillFlags 0 = .ok (.iconst 0, 1) := by decide +kernel
theorem d_X_fillFlags_1 : decode b_X_fillFlags 1 = .ok (.istore_n 2, 1) := by decide +kernel
theorem d_X_fillFlags_2 : decode b_X_fillFlags 2 = .ok (.iload_n 2, 1) := by decide +kernel
theorem d_X_fillFlags_3 : decode b_X_fillFlags 3 = .ok (.aload_n 0, 1) := by decide +kernel
theorem d_X_fillFlags_4 : decode b_X_fillFlags 4 = .ok (.arraylength, 1) := by decide +kernel
theorem d_X_fillFlags_5 : decode b_X_fillFlags 5 = .ok (.if_icmp .ge 13, 3) := by decide +kernel
theorem d_X_fillFlags_8 : decode b_X_fillFlags 8 = .ok (.aload_n 0, 1) := by decide +kernel
theorem d_X_fillFlags_9 : decode b_X_fillFlags 9 = .ok (.iload_n 2, 1) := by decide +kernel
theorem d_X_fillFlags_10 : decode b_X_fillFlags 10 = .ok (.iload_n 1, 1) := by decide +kernel
theorem d_X_fillFlags_11 : decode b_X_fillFlags 11 = .ok (.bastore, 1) := by decide +kernel
theorem d_X_fillFlags_12 : decode b_X_fillFlags 12 = .ok (.iinc 2 1, 3) := by decide +kernel
theorem d_X_fillFlags_15 : decode b_X_fillFlags 15 = .ok (.goto (-13), 3) := by decide +kernel
theorem d_X_fillFlags_18 : decode b_X_fillFlags 18 = .ok (.return_, 1) := by decide +kernel
