abbrev b_LI_init : ByteArray := prog_6_method_1_code
def y_LI_init : MethodName := ⟨"ExploreShares$Lists", "<init>", "()V"⟩
def w_LI_init : List Cond := .code y_LI_init b_LI_init 1 (none) :: xU
theorem d_LI_init_0 : decode b_LI_init 0 = .ok (.aload_n 0, 1) := by decide +kernel
theorem d_LI_init_1 : decode b_LI_init 1 = .ok (.invokespecial 3, 3) := by decide +kernel
theorem d_LI_init_4 : decode b_LI_init 4 = .ok (.aload_n 0, 1) := by decide +kernel
theorem d_LI_init_5 : decode b_LI_init 5 = .ok (.bipush 16, 2) := by decide +kernel
theorem d_LI_init_7 : decode b_LI_init 7 = .ok (.sipush 200, 3) := by decide +kernel
theorem d_LI_init_10 : decode b_LI_init 10 = .ok (.multianewarray 9 2, 4) := by decide +kernel
theorem d_LI_init_14 : decode b_LI_init 14 = .ok (.putfield 11, 3) := by decide +kernel
theorem d_LI_init_17 : decode b_LI_init 17 = .ok (.aload_n 0, 1) := by decide +kernel
theorem d_LI_init_18 : decode b_LI_init 18 = .ok (.bipush 16, 2) := by decide +kernel
theorem d_LI_init_20 : decode b_LI_init 20 = .ok (.newarray .int, 2) := by decide +kernel
theorem d_LI_init_22 : decode b_LI_init 22 = .ok (.putfield 16, 3) := by decide +kernel
theorem d_LI_init_25 : decode b_LI_init 25 = .ok (.aload_n 0, 1) := by decide +kernel
theorem d_LI_init_26 : decode b_LI_init 26 = .ok (.bipush 16, 2) := by decide +kernel
theorem d_LI_init_28 : decode b_LI_init 28 = .ok (.newarray .int, 2) := by decide +kernel
theorem d_LI_init_30 : decode b_LI_init 30 = .ok (.putfield 20, 3) := by decide +kernel
theorem d_LI_init_33 : decode b_LI_init 33 = .ok (.aload_n 0, 1) := by decide +kernel
theorem d_LI_init_34 : decode b_LI_init 34 = .ok (.bipush 16, 2) := by decide +kernel
theorem d_LI_init_36 : decode b_LI_init 36 = .ok (.newarray .int, 2) := by decide +kernel
theorem d_LI_init_38 : decode b_LI_init 38 = .ok (.putfield 23, 3) := by decide +kernel
theorem d_LI_init_41 : decode b_LI_init 41 = .ok (.aload_n 0, 1) := by decide +kernel
theorem d_LI_init_42 : decode b_LI_init 42 = .ok (.bipush 16, 2) := by decide +kernel
theorem d_LI_init_44 : decode b_LI_init 44 = .ok (.newarray .boolean, 2) := by decide +kernel
theorem d_LI_init_46 : decode b_LI_init 46 = .ok (.putfield 26, 3) := by decide +kernel
theorem d_LI_init_49 : decode b_LI_init 49 = .ok (.aload_n 0, 1) := by decide +kernel
theorem d_LI_init_50 : decode b_LI_init 50 = .ok (.bipush 16, 2) := by decide +kernel
theorem d_LI_init_52 : decode b_LI_init 52 = .ok (.newarray .int, 2) := by decide +kernel
theorem d_LI_init_54 : decode b_LI_init 54 = .ok (.putfield 30, 3) := by decide +kernel
theorem d_LI_init_57 : decode b_LI_init 57 = .ok (.return_, 1) := by decide +kernel
