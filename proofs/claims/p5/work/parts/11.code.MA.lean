abbrev b_MA_floorMod : ByteArray := prog_17_method_50_code
def y_MA_floorMod : MethodName := ⟨"java/lang/Math", "floorMod", "(II)I"⟩
def w_MA_floorMod : List Cond := .code y_MA_floorMod b_MA_floorMod 3 (some .int) :: xU
theorem d_MA_floorMod_0 : decode b_MA_floorMod 0 = .ok (.iload_n 0, 1) := by decide +kernel
theorem d_MA_floorMod_1 : decode b_MA_floorMod 1 = .ok (.iload_n 1, 1) := by decide +kernel
theorem d_MA_floorMod_2 : decode b_MA_floorMod 2 = .ok (.irem, 1) := by decide +kernel
theorem d_MA_floorMod_3 : decode b_MA_floorMod 3 = .ok (.istore_n 2, 1) := by decide +kernel
theorem d_MA_floorMod_4 : decode b_MA_floorMod 4 = .ok (.iload_n 0, 1) := by decide +kernel
theorem d_MA_floorMod_5 : decode b_MA_floorMod 5 = .ok (.iload_n 1, 1) := by decide +kernel
theorem d_MA_floorMod_6 : decode b_MA_floorMod 6 = .ok (.ixor, 1) := by decide +kernel
theorem d_MA_floorMod_7 : decode b_MA_floorMod 7 = .ok (.ifCond .ge 11, 3) := by decide +kernel
theorem d_MA_floorMod_10 : decode b_MA_floorMod 10 = .ok (.iload_n 2, 1) := by decide +kernel
theorem d_MA_floorMod_11 : decode b_MA_floorMod 11 = .ok (.ifCond .eq 7, 3) := by decide +kernel
theorem d_MA_floorMod_14 : decode b_MA_floorMod 14 = .ok (.iload_n 2, 1) := by decide +kernel
theorem d_MA_floorMod_15 : decode b_MA_floorMod 15 = .ok (.iload_n 1, 1) := by decide +kernel
theorem d_MA_floorMod_16 : decode b_MA_floorMod 16 = .ok (.iadd, 1) := by decide +kernel
theorem d_MA_floorMod_17 : decode b_MA_floorMod 17 = .ok (.ireturn, 1) := by decide +kernel
theorem d_MA_floorMod_18 : decode b_MA_floorMod 18 = .ok (.iload_n 2, 1) := by decide +kernel
theorem d_MA_floorMod_19 : decode b_MA_floorMod 19 = .ok (.ireturn, 1) := by decide +kernel
