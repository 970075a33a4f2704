abbrev b_FL_init : ByteArray := prog_3_method_1_code
def y_FL_init : MethodName := ⟨"ExploreShares$FailLog", "<init>", "()V"⟩
def w_FL_init : List Cond := .code y_FL_init b_FL_init 1 (none) :: xU
theorem d_FL_init_0 : decode b_FL_init 0 = .ok (.aload_n 0, 1) := by decide +kernel
theorem d_FL_init_1 : decode b_FL_init 1 = .ok (.invokespecial 3, 3) := by decide +kernel
theorem d_FL_init_4 : decode b_FL_init 4 = .ok (.aload_n 0, 1) := by decide +kernel
theorem d_FL_init_5 : decode b_FL_init 5 = .ok (.bipush 16, 2) := by decide +kernel
theorem d_FL_init_7 : decode b_FL_init 7 = .ok (.newarray .int, 2) := by decide +kernel
theorem d_FL_init_9 : decode b_FL_init 9 = .ok (.putfield 9, 3) := by decide +kernel
theorem d_FL_init_12 : decode b_FL_init 12 = .ok (.aload_n 0, 1) := by decide +kernel
theorem d_FL_init_13 : decode b_FL_init 13 = .ok (.bipush 16, 2) := by decide +kernel
theorem d_FL_init_15 : decode b_FL_init 15 = .ok (.newarray .int, 2) := by decide +kernel
theorem d_FL_init_17 : decode b_FL_init 17 = .ok (.putfield 15, 3) := by decide +kernel
theorem d_FL_init_20 : decode b_FL_init 20 = .ok (.aload_n 0, 1) := by decide +kernel
theorem d_FL_init_21 : decode b_FL_init 21 = .ok (.bipush 16, 2) := by decide +kernel
theorem d_FL_init_23 : decode b_FL_init 23 = .ok (.newarray .int, 2) := by decide +kernel
theorem d_FL_init_25 : decode b_FL_init 25 = .ok (.putfield 18, 3) := by decide +kernel
theorem d_FL_init_28 : decode b_FL_init 28 = .ok (.return_, 1) := by decide +kernel
