abbrev b_WA_init : ByteArray := prog_10_method_1_code
def y_WA_init : MethodName := ⟨"ExploreShares$Ways", "<init>", "()V"⟩
def w_WA_init : List Cond := .code y_WA_init b_WA_init 1 (none) :: xU
theorem d_WA_init_0 : decode b_WA_init 0 = .ok (.aload_n 0, 1) := by decide +kernel
theorem d_WA_init_1 : decode b_WA_init 1 = .ok (.invokespecial 3, 3) := by decide +kernel
theorem d_WA_init_4 : decode b_WA_init 4 = .ok (.aload_n 0, 1) := by decide +kernel
theorem d_WA_init_5 : decode b_WA_init 5 = .ok (.sipush 200, 3) := by decide +kernel
theorem d_WA_init_8 : decode b_WA_init 8 = .ok (.newarray .boolean, 2) := by decide +kernel
theorem d_WA_init_10 : decode b_WA_init 10 = .ok (.putfield 9, 3) := by decide +kernel
theorem d_WA_init_13 : decode b_WA_init 13 = .ok (.return_, 1) := by decide +kernel
