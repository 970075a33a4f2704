abbrev b_SE_forget : ByteArray := prog_9_method_2_code
def y_SE_forget : MethodName := ⟨"ExploreShares$Search", "forget", "()V"⟩
def w_SE_forget : List Cond := .code y_SE_forget b_SE_forget 1 (none) :: xU
theorem d_SE_forget_0 : decode b_SE_forget 0 = .ok (.aload_n 0, 1) := by decide +kernel
theorem d_SE_forget_1 : decode b_SE_forget 1 = .ok (.getfield 65, 3) := by decide +kernel
theorem d_SE_forget_4 : decode b_SE_forget 4 = .ok (.invokevirtual 76, 3) := by decide +kernel
theorem d_SE_forget_7 : decode b_SE_forget 7 = .ok (.aload_n 0, 1) := by decide +kernel
theorem d_SE_forget_8 : decode b_SE_forget 8 = .ok (.getfield 35, 3) := by decide +kernel
theorem d_SE_forget_11 : decode b_SE_forget 11 = .ok (.invokevirtual 79, 3) := by decide +kernel
theorem d_SE_forget_14 : decode b_SE_forget 14 = .ok (.aload_n 0, 1) := by decide +kernel
theorem d_SE_forget_15 : decode b_SE_forget 15 = .ok (.getfield 53, 3) := by decide +kernel
theorem d_SE_forget_18 : decode b_SE_forget 18 = .ok (.iconst 0, 1) := by decide +kernel
theorem d_SE_forget_19 : decode b_SE_forget 19 = .ok (.invokestatic 80, 3) := by decide +kernel
theorem d_SE_forget_22 : decode b_SE_forget 22 = .ok (.aload_n 0, 1) := by decide +kernel
theorem d_SE_forget_23 : decode b_SE_forget 23 = .ok (.getfield 72, 3) := by decide +kernel
theorem d_SE_forget_26 : decode b_SE_forget 26 = .ok (.iconst 0, 1) := by decide +kernel
theorem d_SE_forget_27 : decode b_SE_forget 27 = .ok (.putfield 86, 3) := by decide +kernel
theorem d_SE_forget_30 : decode b_SE_forget 30 = .ok (.aload_n 0, 1) := by decide +kernel
theorem d_SE_forget_31 : decode b_SE_forget 31 = .ok (.getfield 42, 3) := by decide +kernel
theorem d_SE_forget_34 : decode b_SE_forget 34 = .ok (.iconst 0, 1) := by decide +kernel
theorem d_SE_forget_35 : decode b_SE_forget 35 = .ok (.putfield 90, 3) := by decide +kernel
theorem d_SE_forget_38 : decode b_SE_forget 38 = .ok (.return_, 1) := by decide +kernel
abbrev b_SE_cameOwnedBy : ByteArray := prog_9_method_4_code
def y_SE_cameOwnedBy : MethodName := ⟨"ExploreShares$Search", "cameOwnedBy", "(I)I"⟩
def w_SE_cameOwnedBy : List Cond := .code y_SE_cameOwnedBy b_SE_cameOwnedBy 4 (some .int) :: xU
theorem d_SE_cameOwnedBy_0 : decode b_SE_cameOwnedBy 0 = .ok (.iconst 0, 1) := by decide +kernel
theorem d_SE_cameOwnedBy_1 : decode b_SE_cameOwnedBy 1 = .ok (.istore_n 2, 1) := by decide +kernel
theorem d_SE_cameOwnedBy_2 : decode b_SE_cameOwnedBy 2 = .ok (.iconst 0, 1) := by decide +kernel
theorem d_SE_cameOwnedBy_3 : decode b_SE_cameOwnedBy 3 = .ok (.istore_n 3, 1) := by decide +kernel
theorem d_SE_cameOwnedBy_4 : decode b_SE_cameOwnedBy 4 = .ok (.iload_n 3, 1) := by decide +kernel
theorem d_SE_cameOwnedBy_5 : decode b_SE_cameOwnedBy 5 = .ok (.aload_n 0, 1) := by decide +kernel
theorem d_SE_cameOwnedBy_6 : decode b_SE_cameOwnedBy 6 = .ok (.getfield 35, 3) := by decide +kernel
theorem d_SE_cameOwnedBy_9 : decode b_SE_cameOwnedBy 9 = .ok (.invokevirtual 118, 3) := by decide +kernel
theorem d_SE_cameOwnedBy_12 : decode b_SE_cameOwnedBy 12 = .ok (.if_icmp .ge 32, 3) := by decide +kernel
theorem d_SE_cameOwnedBy_44 : decode b_SE_cameOwnedBy 44 = .ok (.iload_n 2, 1) := by decide +kernel
theorem d_SE_cameOwnedBy_45 : decode b_SE_cameOwnedBy 45 = .ok (.ireturn, 1) := by decide +kernel
abbrev b_SE_init : ByteArray := prog_9_method_1_code
def y_SE_init : MethodName := ⟨"ExploreShares$Search", "<init>", "(II)V"⟩
def w_SE_init : List Cond := .code y_SE_init b_SE_init 3 (none) :: xU
theorem d_SE_init_0 : decode b_SE_init 0 = .ok (.aload_n 0, 1) := by decide +kernel
theorem d_SE_init_1 : decode b_SE_init 1 = .ok (.invokespecial 3, 3) := by decide +kernel
theorem d_SE_init_4 : decode b_SE_init 4 = .ok (.aload_n 0, 1) := by decide +kernel
theorem d_SE_init_5 : decode b_SE_init 5 = .ok (.new 9, 3) := by decide +kernel
theorem d_SE_init_8 : decode b_SE_init 8 = .ok (.dup, 1) := by decide +kernel
theorem d_SE_init_9 : decode b_SE_init 9 = .ok (.invokespecial 11, 3) := by decide +kernel
theorem d_SE_init_12 : decode b_SE_init 12 = .ok (.putfield 12, 3) := by decide +kernel
theorem d_SE_init_15 : decode b_SE_init 15 = .ok (.aload_n 0, 1) := by decide +kernel
theorem d_SE_init_16 : decode b_SE_init 16 = .ok (.new 18, 3) := by decide +kernel
theorem d_SE_init_19 : decode b_SE_init 19 = .ok (.dup, 1) := by decide +kernel
theorem d_SE_init_20 : decode b_SE_init 20 = .ok (.invokespecial 20, 3) := by decide +kernel
theorem d_SE_init_23 : decode b_SE_init 23 = .ok (.putfield 21, 3) := by decide +kernel
theorem d_SE_init_26 : decode b_SE_init 26 = .ok (.aload_n 0, 1) := by decide +kernel
theorem d_SE_init_27 : decode b_SE_init 27 = .ok (.new 25, 3) := by decide +kernel
theorem d_SE_init_30 : decode b_SE_init 30 = .ok (.dup, 1) := by decide +kernel
theorem d_SE_init_31 : decode b_SE_init 31 = .ok (.invokespecial 27, 3) := by decide +kernel
theorem d_SE_init_34 : decode b_SE_init 34 = .ok (.putfield 28, 3) := by decide +kernel
theorem d_SE_init_37 : decode b_SE_init 37 = .ok (.aload_n 0, 1) := by decide +kernel
theorem d_SE_init_38 : decode b_SE_init 38 = .ok (.new 32, 3) := by decide +kernel
theorem d_SE_init_41 : decode b_SE_init 41 = .ok (.dup, 1) := by decide +kernel
theorem d_SE_init_42 : decode b_SE_init 42 = .ok (.invokespecial 34, 3) := by decide +kernel
theorem d_SE_init_45 : decode b_SE_init 45 = .ok (.putfield 35, 3) := by decide +kernel
theorem d_SE_init_48 : decode b_SE_init 48 = .ok (.aload_n 0, 1) := by decide +kernel
theorem d_SE_init_49 : decode b_SE_init 49 = .ok (.new 39, 3) := by decide +kernel
theorem d_SE_init_52 : decode b_SE_init 52 = .ok (.dup, 1) := by decide +kernel
theorem d_SE_init_53 : decode b_SE_init 53 = .ok (.invokespecial 41, 3) := by decide +kernel
theorem d_SE_init_56 : decode b_SE_init 56 = .ok (.putfield 42, 3) := by decide +kernel
theorem d_SE_init_59 : decode b_SE_init 59 = .ok (.aload_n 0, 1) := by decide +kernel
theorem d_SE_init_60 : decode b_SE_init 60 = .ok (.new 46, 3) := by decide +kernel
theorem d_SE_init_63 : decode b_SE_init 63 = .ok (.dup, 1) := by decide +kernel
theorem d_SE_init_64 : decode b_SE_init 64 = .ok (.invokespecial 48, 3) := by decide +kernel
theorem d_SE_init_67 : decode b_SE_init 67 = .ok (.putfield 49, 3) := by decide +kernel
theorem d_SE_init_70 : decode b_SE_init 70 = .ok (.aload_n 0, 1) := by decide +kernel
theorem d_SE_init_71 : decode b_SE_init 71 = .ok (.sipush 200, 3) := by decide +kernel
theorem d_SE_init_74 : decode b_SE_init 74 = .ok (.newarray .int, 2) := by decide +kernel
theorem d_SE_init_76 : decode b_SE_init 76 = .ok (.putfield 53, 3) := by decide +kernel
theorem d_SE_init_79 : decode b_SE_init 79 = .ok (.aload_n 0, 1) := by decide +kernel
theorem d_SE_init_80 : decode b_SE_init 80 = .ok (.bipush 16, 2) := by decide +kernel
theorem d_SE_init_82 : decode b_SE_init 82 = .ok (.newarray .int, 2) := by decide +kernel
theorem d_SE_init_84 : decode b_SE_init 84 = .ok (.putfield 57, 3) := by decide +kernel
theorem d_SE_init_87 : decode b_SE_init 87 = .ok (.aload_n 0, 1) := by decide +kernel
theorem d_SE_init_88 : decode b_SE_init 88 = .ok (.new 60, 3) := by decide +kernel
theorem d_SE_init_91 : decode b_SE_init 91 = .ok (.dup, 1) := by decide +kernel
theorem d_SE_init_92 : decode b_SE_init 92 = .ok (.iload_n 1, 1) := by decide +kernel
theorem d_SE_init_93 : decode b_SE_init 93 = .ok (.invokespecial 62, 3) := by decide +kernel
theorem d_SE_init_96 : decode b_SE_init 96 = .ok (.putfield 65, 3) := by decide +kernel
theorem d_SE_init_99 : decode b_SE_init 99 = .ok (.aload_n 0, 1) := by decide +kernel
theorem d_SE_init_100 : decode b_SE_init 100 = .ok (.new 69, 3) := by decide +kernel
theorem d_SE_init_103 : decode b_SE_init 103 = .ok (.dup, 1) := by decide +kernel
theorem d_SE_init_104 : decode b_SE_init 104 = .ok (.iload_n 2, 1) := by decide +kernel
theorem d_SE_init_105 : decode b_SE_init 105 = .ok (.invokespecial 71, 3) := by decide +kernel
theorem d_SE_init_108 : decode b_SE_init 108 = .ok (.putfield 72, 3) := by decide +kernel
theorem d_SE_init_111 : decode b_SE_init 111 = .ok (.return_, 1) := by decide +kernel
