abbrev b_SE_forget : ByteArray := prog_9_method_2_code
def y_SE_forget : MethodName := ⟨"ExploreShares$Search", "forget", "()V"⟩
def w_SE_forget : List Cond := .code y_SE_forget b_SE_forget 1 (none) :: xU
theorem d_SE_forget_0 : decode b_SE_forget 0 = .ok (.aload_n 0, 1) := by decide +kernel
theorem d_SE_forget_1 : decode b_SE_forget 1 = .ok (.getfield 65, 3) := by decide +kernel
theorem d_SE_forget_4 : decode b_SE_forget 4 = .ok (.invokevirtual 76, 3) := by decide +kernel
theorem d_SE_forget_7 : decode b_SE_forget 7 = .ok (.aload_n 0, 1) := by decide +kernel
theorem d_SE_forget_8 : decode b_SE_forget 8 = .ok (.getfield 35, 3) := by decide +kernel
theorem d_SE_forget_11 : decode b_SE_forget 11 = .ok (.invokevirtual 79, 3) := by decide +kernel
theorem d_SE_forget_14 : decode b_SE_forget 14 = .ok (.aload_n 0, 1) := by decide +kernel
theorem d_SE_forget_15 : decode b_SE_forget 15 = .ok (.getfield 53, 3) := by decide +kernel
theorem d_SE_forget_18 : decode b_SE_forget 18 = .ok (.iconst 0, 1) := by decide +kernel
theorem d_SE_forget_19 : decode b_SE_forget 19 = .ok (.invokestatic 80, 3) := by decide +kernel
theorem d_SE_forget_22 : decode b_SE_forget 22 = .ok (.aload_n 0, 1) := by decide +kernel
theorem d_SE_forget_23 : decode b_SE_forget 23 = .ok (.getfield 72, 3) := by decide +kernel
theorem d_SE_forget_26 : decode b_SE_forget 26 = .ok (.iconst 0, 1) := by decide +kernel
theorem d_SE_forget_27 : decode b_SE_forget 27 = .ok (.putfield 86, 3) := by decide +kernel
theorem d_SE_forget_30 : decode b_SE_forget 30 = .ok (.aload_n 0, 1) := by decide +kernel
theorem d_SE_forget_31 : decode b_SE_forget 31 = .ok (.getfield 42, 3) := by decide +kernel
theorem d_SE_forget_34 : decode b_SE_forget 34 = .ok (.iconst 0, 1) := by decide +kernel
theorem d_SE_forget_35 : decode b_SE_forget 35 = .ok (.putfield 90, 3) := by decide +kernel
theorem d_SE_forget_38 : decode b_SE_forget 38 = .ok (.return_, 1) := by decide +kernel
abbrev b_SE_cameOwnedBy : ByteArray := prog_9_method_4_code
def y_SE_cameOwnedBy : MethodName := ⟨"ExploreShares$Search", "cameOwnedBy", "(I)I"⟩
def w_SE_cameOwnedBy : List Cond := .code y_SE_cameOwnedBy b_SE_cameOwnedBy 4 (some .int) :: xU
theorem d_SE_cameOwnedBy_0 : decode b_SE_cameOwnedBy 0 = .ok (.iconst 0, 1) := by decide +kernel
theorem d_SE_cameOwnedBy_1 : decode b_SE_cameOwnedBy 1 = .ok (.istore_n 2, 1) := by decide +kernel
theorem d_SE_cameOwnedBy_2 : decode b_SE_cameOwnedBy 2 = .ok (.iconst 0, 1) := by decide +kernel
theorem d_SE_cameOwnedBy_3 : decode b_SE_cameOwnedBy 3 = .ok (.istore_n 3, 1) := by decide +kernel
theorem d_SE_cameOwnedBy_4 : decode b_SE_cameOwnedBy 4 = .ok (.iload_n 3, 1) := by decide +kernel
theorem d_SE_cameOwnedBy_5 : decode b_SE_cameOwnedBy 5 = .ok (.aload_n 0, 1) := by decide +kernel
theorem d_SE_cameOwnedBy_6 : decode b_SE_cameOwnedBy 6 = .ok (.getfield 35, 3) := by decide +kernel
theorem d_SE_cameOwnedBy_9 : decode b_SE_cameOwnedBy 9 = .ok (.invokevirtual 118, 3) := by decide +kernel
theorem d_SE_cameOwnedBy_12 : decode b_SE_cameOwnedBy 12 = .ok (.if_icmp .ge 32, 3) := by decide +kernel
theorem d_SE_cameOwnedBy_44 : decode b_SE_cameOwnedBy 44 = .ok (.iload_n 2, 1) := by decide +kernel
theorem d_SE_cameOwnedBy_45 : decode b_SE_cameOwnedBy 45 = .ok (.ireturn, 1) := by decide +kernel
