abbrev b_QU_init : ByteArray := prog_8_method_1_code
def y_QU_init : MethodName := ⟨"ExploreShares$Queues", "<init>", "(I)V"⟩
def w_QU_init : List Cond := .code y_QU_init b_QU_init 2 (none) :: xU
theorem d_QU_init_0 : decode b_QU_init 0 = .ok (.aload_n 0, 1) := by decide +kernel
theorem d_QU_init_1 : decode b_QU_init 1 = .ok (.invokespecial 3, 3) := by decide +kernel
theorem d_QU_init_4 : decode b_QU_init 4 = .ok (.aload_n 0, 1) := by decide +kernel
theorem d_QU_init_5 : decode b_QU_init 5 = .ok (.bipush 16, 2) := by decide +kernel
theorem d_QU_init_7 : decode b_QU_init 7 = .ok (.bipush 8, 2) := by decide +kernel
theorem d_QU_init_9 : decode b_QU_init 9 = .ok (.multianewarray 9 2, 4) := by decide +kernel
theorem d_QU_init_13 : decode b_QU_init 13 = .ok (.putfield 11, 3) := by decide +kernel
theorem d_QU_init_16 : decode b_QU_init 16 = .ok (.aload_n 0, 1) := by decide +kernel
theorem d_QU_init_17 : decode b_QU_init 17 = .ok (.bipush 16, 2) := by decide +kernel
theorem d_QU_init_19 : decode b_QU_init 19 = .ok (.newarray .int, 2) := by decide +kernel
theorem d_QU_init_21 : decode b_QU_init 21 = .ok (.putfield 16, 3) := by decide +kernel
theorem d_QU_init_24 : decode b_QU_init 24 = .ok (.aload_n 0, 1) := by decide +kernel
theorem d_QU_init_25 : decode b_QU_init 25 = .ok (.bipush 16, 2) := by decide +kernel
theorem d_QU_init_27 : decode b_QU_init 27 = .ok (.newarray .int, 2) := by decide +kernel
theorem d_QU_init_29 : decode b_QU_init 29 = .ok (.putfield 20, 3) := by decide +kernel
theorem d_QU_init_32 : decode b_QU_init 32 = .ok (.aload_n 0, 1) := by decide +kernel
theorem d_QU_init_33 : decode b_QU_init 33 = .ok (.iload_n 1, 1) := by decide +kernel
theorem d_QU_init_34 : decode b_QU_init 34 = .ok (.putfield 23, 3) := by decide +kernel
theorem d_QU_init_37 : decode b_QU_init 37 = .ok (.return_, 1) := by decide +kernel
