abbrev b_SE_init : ByteArray := prog_9_method_1_code
def y_SE_init : MethodName := ⟨"ExploreShares$Search", "<init>", "(II)V"⟩
def w_SE_init : List Cond := .code y_SE_init b_SE_init 3 (none) :: xU
theorem d_SE_init_0 : decode b_SE_init 0 = .ok (.aload_n 0, 1) := by decide +kernel
theorem d_SE_init_1 : decode b_SE_init 1 = .ok (.invokespecial 3, 3) := by decide +kernel
theorem d_SE_init_4 : decode b_SE_init 4 = .ok (.aload_n 0, 1) := by decide +kernel
theorem d_SE_init_5 : decode b_SE_init 5 = .ok (.new 9, 3) := by decide +kernel
theorem d_SE_init_8 : decode b_SE_init 8 = .ok (.dup, 1) := by decide +kernel
theorem d_SE_init_9 : decode b_SE_init 9 = .ok (.invokespecial 11, 3) := by decide +kernel
theorem d_SE_init_12 : decode b_SE_init 12 = .ok (.putfield 12, 3) := by decide +kernel
theorem d_SE_init_15 : decode b_SE_init 15 = .ok (.aload_n 0, 1) := by decide +kernel
theorem d_SE_init_16 : decode b_SE_init 16 = .ok (.new 18, 3) := by decide +kernel
theorem d_SE_init_19 : decode b_SE_init 19 = .ok (.dup, 1) := by decide +kernel
theorem d_SE_init_20 : decode b_SE_init 20 = .ok (.invokespecial 20, 3) := by decide +kernel
theorem d_SE_init_23 : decode b_SE_init 23 = .ok (.putfield 21, 3) := by decide +kernel
theorem d_SE_init_26 : decode b_SE_init 26 = .ok (.aload_n 0, 1) := by decide +kernel
theorem d_SE_init_27 : decode b_SE_init 27 = .ok (.new 25, 3) := by decide +kernel
theorem d_SE_init_30 : decode b_SE_init 30 = .ok (.dup, 1) := by decide +kernel
theorem d_SE_init_31 : decode b_SE_init 31 = .ok (.invokespecial 27, 3) := by decide +kernel
theorem d_SE_init_34 : decode b_SE_init 34 = .ok (.putfield 28, 3) := by decide +kernel
theorem d_SE_init_37 : decode b_SE_init 37 = .ok (.aload_n 0, 1) := by decide +kernel
theorem d_SE_init_38 : decode b_SE_init 38 = .ok (.new 32, 3) := by decide +kernel
theorem d_SE_init_41 : decode b_SE_init 41 = .ok (.dup, 1) := by decide +kernel
theorem d_SE_init_42 : decode b_SE_init 42 = .ok (.invokespecial 34, 3) := by decide +kernel
theorem d_SE_init_45 : decode b_SE_init 45 = .ok (.putfield 35, 3) := by decide +kernel
theorem d_SE_init_48 : decode b_SE_init 48 = .ok (.aload_n 0, 1) := by decide +kernel
theorem d_SE_init_49 : decode b_SE_init 49 = .ok (.new 39, 3) := by decide +kernel
theorem d_SE_init_52 : decode b_SE_init 52 = .ok (.dup, 1) := by decide +kernel
theorem d_SE_init_53 : decode b_SE_init 53 = .ok (.invokespecial 41, 3) := by decide +kernel
theorem d_SE_init_56 : decode b_SE_init 56 = .ok (.putfield 42, 3) := by decide +kernel
theorem d_SE_init_59 : decode b_SE_init 59 = .ok (.aload_n 0, 1) := by decide +kernel
theorem d_SE_init_60 : decode b_SE_init 60 = .ok (.new 46, 3) := by decide +kernel
theorem d_SE_init_63 : decode b_SE_init 63 = .ok (.dup, 1) := by decide +kernel
theorem d_SE_init_64 : decode b_SE_init 64 = .ok (.invokespecial 48, 3) := by decide +kernel
theorem d_SE_init_67 : decode b_SE_init 67 = .ok (.putfield 49, 3) := by decide +kernel
theorem d_SE_init_70 : decode b_SE_init 70 = .ok (.aload_n 0, 1) := by decide +kernel
theorem d_SE_init_71 : decode b_SE_init 71 = .ok (.sipush 200, 3) := by decide +kernel
theorem d_SE_init_74 : decode b_SE_init 74 = .ok (.newarray .int, 2) := by decide +kernel
theorem d_SE_init_76 : decode b_SE_init 76 = .ok (.putfield 53, 3) := by decide +kernel
theorem d_SE_init_79 : decode b_SE_init 79 = .ok (.aload_n 0, 1) := by decide +kernel
theorem d_SE_init_80 : decode b_SE_init 80 = .ok (.bipush 16, 2) := by decide +kernel
theorem d_SE_init_82 : decode b_SE_init 82 = .ok (.newarray .int, 2) := by decide +kernel
theorem d_SE_init_84 : decode b_SE_init 84 = .ok (.putfield 57, 3) := by decide +kernel
theorem d_SE_init_87 : decode b_SE_init 87 = .ok (.aload_n 0, 1) := by decide +kernel
theorem d_SE_init_88 : decode b_SE_init 88 = .ok (.new 60, 3) := by decide +kernel
theorem d_SE_init_91 : decode b_SE_init 91 = .ok (.dup, 1) := by decide +kernel
theorem d_SE_init_92 : decode b_SE_init 92 = .ok (.iload_n 1, 1) := by decide +kernel
theorem d_SE_init_93 : decode b_SE_init 93 = .ok (.invokespecial 62, 3) := by decide +kernel
theorem d_SE_init_96 : decode b_SE_init 96 = .ok (.putfield 65, 3) := by decide +kernel
theorem d_SE_init_99 : decode b_SE_init 99 = .ok (.aload_n 0, 1) := by decide +kernel
theorem d_SE_init_100 : decode b_SE_init 100 = .ok (.new 69, 3) := by decide +kernel
theorem d_SE_init_103 : decode b_SE_init 103 = .ok (.dup, 1) := by decide +kernel
theorem d_SE_init_104 : decode b_SE_init 104 = .ok (.iload_n 2, 1) := by decide +kernel
theorem d_SE_init_105 : decode b_SE_init 105 = .ok (.invokespecial 71, 3) := by decide +kernel
theorem d_SE_init_108 : decode b_SE_init 108 = .ok (.putfield 72, 3) := by decide +kernel
theorem d_SE_init_111 : decode b_SE_init 111 = .ok (.return_, 1) := by decide +kernel
abbrev b_SE_beginLevel : ByteArray := prog_9_method_5_code
def y_SE_beginLevel : MethodName := ⟨"ExploreShares$Search", "beginLevel", "(I)V"⟩
def w_SE_beginLevel : List Cond := .code y_SE_beginLevel b_SE_beginLevel 4 (none) :: xU
theorem d_SE_beginLevel_0 : decode b_SE_beginLevel 0 = .ok (.aload_n 0, 1) := by decide +kernel
theorem d_SE_beginLevel_1 : decode b_SE_beginLevel 1 = .ok (.getfield 35, 3) := by decide +kernel
theorem d_SE_beginLevel_4 : decode b_SE_beginLevel 4 = .ok (.invokevirtual 129, 3) := by decide +kernel
theorem d_SE_beginLevel_7 : decode b_SE_beginLevel 7 = .ok (.aload_n 0, 1) := by decide +kernel
theorem d_SE_beginLevel_8 : decode b_SE_beginLevel 8 = .ok (.getfield 72, 3) := by decide +kernel
theorem d_SE_beginLevel_11 : decode b_SE_beginLevel 11 = .ok (.invokevirtual 132, 3) := by decide +kernel
theorem d_SE_beginLevel_14 : decode b_SE_beginLevel 14 = .ok (.aload_n 0, 1) := by decide +kernel
theorem d_SE_beginLevel_15 : decode b_SE_beginLevel 15 = .ok (.getfield 28, 3) := by decide +kernel
theorem d_SE_beginLevel_18 : decode b_SE_beginLevel 18 = .ok (.invokevirtual 135, 3) := by decide +kernel
theorem d_SE_beginLevel_21 : decode b_SE_beginLevel 21 = .ok (.aload_n 0, 1) := by decide +kernel
theorem d_SE_beginLevel_22 : decode b_SE_beginLevel 22 = .ok (.getfield 35, 3) := by decide +kernel
theorem d_SE_beginLevel_25 : decode b_SE_beginLevel 25 = .ok (.getfield 136, 3) := by decide +kernel
theorem d_SE_beginLevel_28 : decode b_SE_beginLevel 28 = .ok (.iload_n 1, 1) := by decide +kernel
theorem d_SE_beginLevel_29 : decode b_SE_beginLevel 29 = .ok (.iaload, 1) := by decide +kernel
theorem d_SE_beginLevel_30 : decode b_SE_beginLevel 30 = .ok (.istore_n 2, 1) := by decide +kernel
theorem d_SE_beginLevel_31 : decode b_SE_beginLevel 31 = .ok (.iload_n 2, 1) := by decide +kernel
theorem d_SE_beginLevel_32 : decode b_SE_beginLevel 32 = .ok (.aload_n 0, 1) := by decide +kernel
theorem d_SE_beginLevel_33 : decode b_SE_beginLevel 33 = .ok (.getfield 35, 3) := by decide +kernel
theorem d_SE_beginLevel_36 : decode b_SE_beginLevel 36 = .ok (.getfield 136, 3) := by decide +kernel
theorem d_SE_beginLevel_39 : decode b_SE_beginLevel 39 = .ok (.iload_n 1, 1) := by decide +kernel
theorem d_SE_beginLevel_40 : decode b_SE_beginLevel 40 = .ok (.iconst 1, 1) := by decide +kernel
theorem d_SE_beginLevel_41 : decode b_SE_beginLevel 41 = .ok (.iadd, 1) := by decide +kernel
theorem d_SE_beginLevel_42 : decode b_SE_beginLevel 42 = .ok (.iaload, 1) := by decide +kernel
theorem d_SE_beginLevel_43 : decode b_SE_beginLevel 43 = .ok (.if_icmp .ge 35, 3) := by decide +kernel
theorem d_SE_beginLevel_46 : decode b_SE_beginLevel 46 = .ok (.aload_n 0, 1) := by decide +kernel
theorem d_SE_beginLevel_47 : decode b_SE_beginLevel 47 = .ok (.getfield 35, 3) := by decide +kernel
theorem d_SE_beginLevel_50 : decode b_SE_beginLevel 50 = .ok (.getfield 122, 3) := by decide +kernel
theorem d_SE_beginLevel_53 : decode b_SE_beginLevel 53 = .ok (.iload_n 2, 1) := by decide +kernel
theorem d_SE_beginLevel_54 : decode b_SE_beginLevel 54 = .ok (.iaload, 1) := by decide +kernel
theorem d_SE_beginLevel_55 : decode b_SE_beginLevel 55 = .ok (.istore_n 3, 1) := by decide +kernel
theorem d_SE_beginLevel_56 : decode b_SE_beginLevel 56 = .ok (.aload_n 0, 1) := by decide +kernel
theorem d_SE_beginLevel_57 : decode b_SE_beginLevel 57 = .ok (.getfield 28, 3) := by decide +kernel
theorem d_SE_beginLevel_60 : decode b_SE_beginLevel 60 = .ok (.aload_n 0, 1) := by decide +kernel
theorem d_SE_beginLevel_61 : decode b_SE_beginLevel 61 = .ok (.getfield 65, 3) := by decide +kernel
theorem d_SE_beginLevel_64 : decode b_SE_beginLevel 64 = .ok (.iload_n 3, 1) := by decide +kernel
theorem d_SE_beginLevel_65 : decode b_SE_beginLevel 65 = .ok (.invokevirtual 125, 3) := by decide +kernel
theorem d_SE_beginLevel_68 : decode b_SE_beginLevel 68 = .ok (.iload_n 3, 1) := by decide +kernel
theorem d_SE_beginLevel_69 : decode b_SE_beginLevel 69 = .ok (.invokevirtual 139, 3) := by decide +kernel
theorem d_SE_beginLevel_72 : decode b_SE_beginLevel 72 = .ok (.iinc 2 1, 3) := by decide +kernel
theorem d_SE_beginLevel_75 : decode b_SE_beginLevel 75 = .ok (.goto (-44), 3) := by decide +kernel
theorem d_SE_beginLevel_78 : decode b_SE_beginLevel 78 = .ok (.return_, 1) := by decide +kernel
abbrev b_SE_cameOwnedBy : ByteArray := prog_9_method_4_code
def y_SE_cameOwnedBy : MethodName := ⟨"ExploreShares$Search", "cameOwnedBy", "(I)I"⟩
def w_SE_cameOwnedBy : List Cond := .code y_SE_cameOwnedBy b_SE_cameOwnedBy 4 (some .int) :: xU
theorem d_SE_cameOwnedBy_0 : decode b_SE_cameOwnedBy 0 = .ok (.iconst 0, 1) := by decide +kernel
theorem d_SE_cameOwnedBy_1 : decode b_SE_cameOwnedBy 1 = .ok (.istore_n 2, 1) := by decide +kernel
theorem d_SE_cameOwnedBy_2 : decode b_SE_cameOwnedBy 2 = .ok (.iconst 0, 1) := by decide +kernel
theorem d_SE_cameOwnedBy_3 : decode b_SE_cameOwnedBy 3 = .ok (.istore_n 3, 1) := by decide +kernel
theorem d_SE_cameOwnedBy_4 : decode b_SE_cameOwnedBy 4 = .ok (.iload_n 3, 1) := by decide +kernel
theorem d_SE_cameOwnedBy_5 : decode b_SE_cameOwnedBy 5 = .ok (.aload_n 0, 1) := by decide +kernel
theorem d_SE_cameOwnedBy_6 : decode b_SE_cameOwnedBy 6 = .ok (.getfield 35, 3) := by decide +kernel
theorem d_SE_cameOwnedBy_9 : decode b_SE_cameOwnedBy 9 = .ok (.invokevirtual 118, 3) := by decide +kernel
theorem d_SE_cameOwnedBy_12 : decode b_SE_cameOwnedBy 12 = .ok (.if_icmp .ge 32, 3) := by decide +kernel
theorem d_SE_cameOwnedBy_15 : decode b_SE_cameOwnedBy 15 = .ok (.aload_n 0, 1) := by decide +kernel
theorem d_SE_cameOwnedBy_16 : decode b_SE_cameOwnedBy 16 = .ok (.getfield 65, 3) := by decide +kernel
theorem d_SE_cameOwnedBy_19 : decode b_SE_cameOwnedBy 19 = .ok (.aload_n 0, 1) := by decide +kernel
theorem d_SE_cameOwnedBy_20 : decode b_SE_cameOwnedBy 20 = .ok (.getfield 35, 3) := by decide +kernel
theorem d_SE_cameOwnedBy_23 : decode b_SE_cameOwnedBy 23 = .ok (.getfield 122, 3) := by decide +kernel
theorem d_SE_cameOwnedBy_26 : decode b_SE_cameOwnedBy 26 = .ok (.iload_n 3, 1) := by decide +kernel
theorem d_SE_cameOwnedBy_27 : decode b_SE_cameOwnedBy 27 = .ok (.iaload, 1) := by decide +kernel
theorem d_SE_cameOwnedBy_28 : decode b_SE_cameOwnedBy 28 = .ok (.invokevirtual 125, 3) := by decide +kernel
theorem d_SE_cameOwnedBy_31 : decode b_SE_cameOwnedBy 31 = .ok (.iload_n 1, 1) := by decide +kernel
theorem d_SE_cameOwnedBy_32 : decode b_SE_cameOwnedBy 32 = .ok (.if_icmp .ne 6, 3) := by decide +kernel
theorem d_SE_cameOwnedBy_35 : decode b_SE_cameOwnedBy 35 = .ok (.iinc 2 1, 3) := by decide +kernel
theorem d_SE_cameOwnedBy_38 : decode b_SE_cameOwnedBy 38 = .ok (.iinc 3 1, 3) := by decide +kernel
theorem d_SE_cameOwnedBy_41 : decode b_SE_cameOwnedBy 41 = .ok (.goto (-37), 3) := by decide +kernel
theorem d_SE_cameOwnedBy_44 : decode b_SE_cameOwnedBy 44 = .ok (.iload_n 2, 1) := by decide +kernel
theorem d_SE_cameOwnedBy_45 : decode b_SE_cameOwnedBy 45 = .ok (.ireturn, 1) := by decide +kernel
abbrev b_SE_explore : ByteArray := prog_9_method_3_code
def y_SE_explore : MethodName := ⟨"ExploreShares$Search", "explore", "(I)V"⟩
def w_SE_explore : List Cond := .code y_SE_explore b_SE_explore 4 (none) :: xU
theorem d_SE_explore_0 : decode b_SE_explore 0 = .ok (.aload_n 0, 1) := by decide +kernel
theorem d_SE_explore_1 : decode b_SE_explore 1 = .ok (.invokevirtual 93, 3) := by decide +kernel
theorem d_SE_explore_4 : decode b_SE_explore 4 = .ok (.aload_n 0, 1) := by decide +kernel
theorem d_SE_explore_5 : decode b_SE_explore 5 = .ok (.iload_n 1, 1) := by decide +kernel
theorem d_SE_explore_6 : decode b_SE_explore 6 = .ok (.ldc 96, 2) := by decide +kernel
theorem d_SE_explore_8 : decode b_SE_explore 8 = .ok (.iand, 1) := by decide +kernel
theorem d_SE_explore_9 : decode b_SE_explore 9 = .ok (.putfield 97, 3) := by decide +kernel
theorem d_SE_explore_12 : decode b_SE_explore 12 = .ok (.aload_n 0, 1) := by decide +kernel
theorem d_SE_explore_13 : decode b_SE_explore 13 = .ok (.getfield 35, 3) := by decide +kernel
theorem d_SE_explore_16 : decode b_SE_explore 16 = .ok (.iconst 0, 1) := by decide +kernel
theorem d_SE_explore_17 : decode b_SE_explore 17 = .ok (.invokevirtual 100, 3) := by decide +kernel
theorem d_SE_explore_20 : decode b_SE_explore 20 = .ok (.aload_n 0, 1) := by decide +kernel
theorem d_SE_explore_21 : decode b_SE_explore 21 = .ok (.getfield 35, 3) := by decide +kernel
theorem d_SE_explore_24 : decode b_SE_explore 24 = .ok (.aload_n 0, 1) := by decide +kernel
theorem d_SE_explore_25 : decode b_SE_explore 25 = .ok (.getfield 12, 3) := by decide +kernel
theorem d_SE_explore_28 : decode b_SE_explore 28 = .ok (.getfield 103, 3) := by decide +kernel
theorem d_SE_explore_31 : decode b_SE_explore 31 = .ok (.invokevirtual 106, 3) := by decide +kernel
theorem d_SE_explore_34 : decode b_SE_explore 34 = .ok (.iconst 0, 1) := by decide +kernel
theorem d_SE_explore_35 : decode b_SE_explore 35 = .ok (.istore_n 2, 1) := by decide +kernel
theorem d_SE_explore_36 : decode b_SE_explore 36 = .ok (.iconst 0, 1) := by decide +kernel
theorem d_SE_explore_37 : decode b_SE_explore 37 = .ok (.istore_n 3, 1) := by decide +kernel
theorem d_SE_explore_38 : decode b_SE_explore 38 = .ok (.iload_n 3, 1) := by decide +kernel
theorem d_SE_explore_39 : decode b_SE_explore 39 = .ok (.sipush 216, 3) := by decide +kernel
theorem d_SE_explore_42 : decode b_SE_explore 42 = .ok (.if_icmp .ge 50, 3) := by decide +kernel
theorem d_SE_explore_45 : decode b_SE_explore 45 = .ok (.iload_n 2, 1) := by decide +kernel
theorem d_SE_explore_46 : decode b_SE_explore 46 = .ok (.aload_n 0, 1) := by decide +kernel
theorem d_SE_explore_47 : decode b_SE_explore 47 = .ok (.getfield 35, 3) := by decide +kernel
theorem d_SE_explore_50 : decode b_SE_explore 50 = .ok (.getfield 109, 3) := by decide +kernel
theorem d_SE_explore_53 : decode b_SE_explore 53 = .ok (.if_icmp .ge 39, 3) := by decide +kernel
theorem d_SE_explore_56 : decode b_SE_explore 56 = .ok (.aload_n 0, 1) := by decide +kernel
theorem d_SE_explore_57 : decode b_SE_explore 57 = .ok (.iload_n 2, 1) := by decide +kernel
theorem d_SE_explore_58 : decode b_SE_explore 58 = .ok (.invokevirtual 111, 3) := by decide +kernel
theorem d_SE_explore_61 : decode b_SE_explore 61 = .ok (.aload_n 0, 1) := by decide +kernel
theorem d_SE_explore_62 : decode b_SE_explore 62 = .ok (.iload_n 2, 1) := by decide +kernel
theorem d_SE_explore_63 : decode b_SE_explore 63 = .ok (.invokevirtual 114, 3) := by decide +kernel
theorem d_SE_explore_66 : decode b_SE_explore 66 = .ok (.ifCond .eq 20, 3) := by decide +kernel
theorem d_SE_explore_69 : decode b_SE_explore 69 = .ok (.aload_n 0, 1) := by decide +kernel
theorem d_SE_explore_70 : decode b_SE_explore 70 = .ok (.getfield 35, 3) := by decide +kernel
theorem d_SE_explore_73 : decode b_SE_explore 73 = .ok (.aload_n 0, 1) := by decide +kernel
theorem d_SE_explore_74 : decode b_SE_explore 74 = .ok (.getfield 12, 3) := by decide +kernel
theorem d_SE_explore_77 : decode b_SE_explore 77 = .ok (.getfield 103, 3) := by decide +kernel
theorem d_SE_explore_80 : decode b_SE_explore 80 = .ok (.invokevirtual 106, 3) := by decide +kernel
theorem d_SE_explore_83 : decode b_SE_explore 83 = .ok (.iinc 2 1, 3) := by decide +kernel
theorem d_SE_explore_86 : decode b_SE_explore 86 = .ok (.iinc 3 1, 3) := by decide +kernel
theorem d_SE_explore_89 : decode b_SE_explore 89 = .ok (.goto (-51), 3) := by decide +kernel
theorem d_SE_explore_92 : decode b_SE_explore 92 = .ok (.return_, 1) := by decide +kernel
abbrev b_SE_forget : ByteArray := prog_9_method_2_code
def y_SE_forget : MethodName := ⟨"ExploreShares$Search", "forget", "()V"⟩
def w_SE_forget : List Cond := .code y_SE_forget b_SE_forget 1 (none) :: xU
theorem d_SE_forget_0 : decode b_SE_forget 0 = .ok (.aload_n 0, 1) := by decide +kernel
theorem d_SE_forget_1 : decode b_SE_forget 1 = .ok (.getfield 65, 3) := by decide +kernel
theorem d_SE_forget_4 : decode b_SE_forget 4 = .ok (.invokevirtual 76, 3) := by decide +kernel
theorem d_SE_forget_7 : decode b_SE_forget 7 = .ok (.aload_n 0, 1) := by decide +kernel
theorem d_SE_forget_8 : decode b_SE_forget 8 = .ok (.getfield 35, 3) := by decide +kernel
theorem d_SE_forget_11 : decode b_SE_forget 11 = .ok (.invokevirtual 79, 3) := by decide +kernel
theorem d_SE_forget_14 : decode b_SE_forget 14 = .ok (.aload_n 0, 1) := by decide +kernel
theorem d_SE_forget_15 : decode b_SE_forget 15 = .ok (.getfield 53, 3) := by decide +kernel
theorem d_SE_forget_18 : decode b_SE_forget 18 = .ok (.iconst 0, 1) := by decide +kernel
theorem d_SE_forget_19 : decode b_SE_forget 19 = .ok (.invokestatic 80, 3) := by decide +kernel
theorem d_SE_forget_22 : decode b_SE_forget 22 = .ok (.aload_n 0, 1) := by decide +kernel
theorem d_SE_forget_23 : decode b_SE_forget 23 = .ok (.getfield 72, 3) := by decide +kernel
theorem d_SE_forget_26 : decode b_SE_forget 26 = .ok (.iconst 0, 1) := by decide +kernel
theorem d_SE_forget_27 : decode b_SE_forget 27 = .ok (.putfield 86, 3) := by decide +kernel
theorem d_SE_forget_30 : decode b_SE_forget 30 = .ok (.aload_n 0, 1) := by decide +kernel
theorem d_SE_forget_31 : decode b_SE_forget 31 = .ok (.getfield 42, 3) := by decide +kernel
theorem d_SE_forget_34 : decode b_SE_forget 34 = .ok (.iconst 0, 1) := by decide +kernel
theorem d_SE_forget_35 : decode b_SE_forget 35 = .ok (.putfield 90, 3) := by decide +kernel
theorem d_SE_forget_38 : decode b_SE_forget 38 = .ok (.return_, 1) := by decide +kernel
abbrev b_SE_handOver : ByteArray := prog_9_method_11_code
def y_SE_handOver : MethodName := ⟨"ExploreShares$Search", "handOver", "(II)Z"⟩
def w_SE_handOver : List Cond := .code y_SE_handOver b_SE_handOver 4 (some .boolean) :: xU
theorem d_SE_handOver_0 : decode b_SE_handOver 0 = .ok (.aload_n 0, 1) := by decide +kernel
theorem d_SE_handOver_1 : decode b_SE_handOver 1 = .ok (.getfield 65, 3) := by decide +kernel
theorem d_SE_handOver_4 : decode b_SE_handOver 4 = .ok (.iload_n 2, 1) := by decide +kernel
theorem d_SE_handOver_5 : decode b_SE_handOver 5 = .ok (.invokevirtual 125, 3) := by decide +kernel
theorem d_SE_handOver_8 : decode b_SE_handOver 8 = .ok (.istore_n 3, 1) := by decide +kernel
theorem d_SE_handOver_9 : decode b_SE_handOver 9 = .ok (.iload_n 3, 1) := by decide +kernel
theorem d_SE_handOver_10 : decode b_SE_handOver 10 = .ok (.iload_n 1, 1) := by decide +kernel
theorem d_SE_handOver_11 : decode b_SE_handOver 11 = .ok (.if_icmp .ne 13, 3) := by decide +kernel
theorem d_SE_handOver_14 : decode b_SE_handOver 14 = .ok (.aload_n 0, 1) := by decide +kernel
theorem d_SE_handOver_15 : decode b_SE_handOver 15 = .ok (.getfield 35, 3) := by decide +kernel
theorem d_SE_handOver_18 : decode b_SE_handOver 18 = .ok (.iload_n 2, 1) := by decide +kernel
theorem d_SE_handOver_19 : decode b_SE_handOver 19 = .ok (.invokevirtual 100, 3) := by decide +kernel
theorem d_SE_handOver_22 : decode b_SE_handOver 22 = .ok (.iconst 1, 1) := by decide +kernel
theorem d_SE_handOver_23 : decode b_SE_handOver 23 = .ok (.ireturn, 1) := by decide +kernel
theorem d_SE_handOver_24 : decode b_SE_handOver 24 = .ok (.aload_n 0, 1) := by decide +kernel
theorem d_SE_handOver_25 : decode b_SE_handOver 25 = .ok (.getfield 72, 3) := by decide +kernel
theorem d_SE_handOver_28 : decode b_SE_handOver 28 = .ok (.iload_n 3, 1) := by decide +kernel
theorem d_SE_handOver_29 : decode b_SE_handOver 29 = .ok (.invokevirtual 223, 3) := by decide +kernel
theorem d_SE_handOver_32 : decode b_SE_handOver 32 = .ok (.ifCond .eq 5, 3) := by decide +kernel
theorem d_SE_handOver_35 : decode b_SE_handOver 35 = .ok (.iconst 0, 1) := by decide +kernel
theorem d_SE_handOver_36 : decode b_SE_handOver 36 = .ok (.ireturn, 1) := by decide +kernel
theorem d_SE_handOver_37 : decode b_SE_handOver 37 = .ok (.aload_n 0, 1) := by decide +kernel
theorem d_SE_handOver_38 : decode b_SE_handOver 38 = .ok (.getfield 72, 3) := by decide +kernel
theorem d_SE_handOver_41 : decode b_SE_handOver 41 = .ok (.iload_n 3, 1) := by decide +kernel
theorem d_SE_handOver_42 : decode b_SE_handOver 42 = .ok (.iload_n 2, 1) := by decide +kernel
theorem d_SE_handOver_43 : decode b_SE_handOver 43 = .ok (.invokevirtual 226, 3) := by decide +kernel
theorem d_SE_handOver_46 : decode b_SE_handOver 46 = .ok (.iconst 1, 1) := by decide +kernel
theorem d_SE_handOver_47 : decode b_SE_handOver 47 = .ok (.ireturn, 1) := by decide +kernel
abbrev b_SE_isToFail : ByteArray := prog_9_method_8_code
def y_SE_isToFail : MethodName := ⟨"ExploreShares$Search", "isToFail", "(II)Z"⟩
def w_SE_isToFail : List Cond := .code y_SE_isToFail b_SE_isToFail 3 (some .boolean) :: xU
theorem d_SE_isToFail_0 : decode b_SE_isToFail 0 = .ok (.aload_n 0, 1) := by decide +kernel
theorem d_SE_isToFail_1 : decode b_SE_isToFail 1 = .ok (.getfield 65, 3) := by decide +kernel
theorem d_SE_isToFail_4 : decode b_SE_isToFail 4 = .ok (.getfield 179, 3) := by decide +kernel
theorem d_SE_isToFail_7 : decode b_SE_isToFail 7 = .ok (.iconst 1, 1) := by decide +kernel
theorem d_SE_isToFail_8 : decode b_SE_isToFail 8 = .ok (.if_icmp .le 30, 3) := by decide +kernel
theorem d_SE_isToFail_11 : decode b_SE_isToFail 11 = .ok (.aload_n 0, 1) := by decide +kernel
theorem d_SE_isToFail_12 : decode b_SE_isToFail 12 = .ok (.getfield 21, 3) := by decide +kernel
theorem d_SE_isToFail_15 : decode b_SE_isToFail 15 = .ok (.iload_n 1, 1) := by decide +kernel
theorem d_SE_isToFail_16 : decode b_SE_isToFail 16 = .ok (.iload_n 2, 1) := by decide +kernel
theorem d_SE_isToFail_17 : decode b_SE_isToFail 17 = .ok (.invokevirtual 182, 3) := by decide +kernel
theorem d_SE_isToFail_20 : decode b_SE_isToFail 20 = .ok (.aload_n 0, 1) := by decide +kernel
theorem d_SE_isToFail_21 : decode b_SE_isToFail 21 = .ok (.getfield 28, 3) := by decide +kernel
theorem d_SE_isToFail_24 : decode b_SE_isToFail 24 = .ok (.getfield 185, 3) := by decide +kernel
theorem d_SE_isToFail_27 : decode b_SE_isToFail 27 = .ok (.iload_n 1, 1) := by decide +kernel
theorem d_SE_isToFail_28 : decode b_SE_isToFail 28 = .ok (.iaload, 1) := by decide +kernel
theorem d_SE_isToFail_29 : decode b_SE_isToFail 29 = .ok (.iconst 1, 1) := by decide +kernel
theorem d_SE_isToFail_30 : decode b_SE_isToFail 30 = .ok (.iadd, 1) := by decide +kernel
theorem d_SE_isToFail_31 : decode b_SE_isToFail 31 = .ok (.if_icmp .ne 7, 3) := by decide +kernel
theorem d_SE_isToFail_34 : decode b_SE_isToFail 34 = .ok (.iconst 1, 1) := by decide +kernel
theorem d_SE_isToFail_35 : decode b_SE_isToFail 35 = .ok (.goto 4, 3) := by decide +kernel
theorem d_SE_isToFail_38 : decode b_SE_isToFail 38 = .ok (.iconst 0, 1) := by decide +kernel
theorem d_SE_isToFail_39 : decode b_SE_isToFail 39 = .ok (.ireturn, 1) := by decide +kernel
abbrev b_SE_takeMove : ByteArray := prog_9_method_10_code
def y_SE_takeMove : MethodName := ⟨"ExploreShares$Search", "takeMove", "(I)V"⟩
def w_SE_takeMove : List Cond := .code y_SE_takeMove b_SE_takeMove 5 (none) :: xU
theorem d_SE_takeMove_0 : decode b_SE_takeMove 0 = .ok (.aload_n 0, 1) := by decide +kernel
theorem d_SE_takeMove_1 : decode b_SE_takeMove 1 = .ok (.getfield 28, 3) := by decide +kernel
theorem d_SE_takeMove_4 : decode b_SE_takeMove 4 = .ok (.iload_n 1, 1) := by decide +kernel
theorem d_SE_takeMove_5 : decode b_SE_takeMove 5 = .ok (.invokevirtual 200, 3) := by decide +kernel
theorem d_SE_takeMove_8 : decode b_SE_takeMove 8 = .ok (.istore_n 2, 1) := by decide +kernel
theorem d_SE_takeMove_9 : decode b_SE_takeMove 9 = .ok (.aload_n 0, 1) := by decide +kernel
theorem d_SE_takeMove_10 : decode b_SE_takeMove 10 = .ok (.getfield 28, 3) := by decide +kernel
theorem d_SE_takeMove_13 : decode b_SE_takeMove 13 = .ok (.getfield 203, 3) := by decide +kernel
theorem d_SE_takeMove_16 : decode b_SE_takeMove 16 = .ok (.iload_n 1, 1) := by decide +kernel
theorem d_SE_takeMove_17 : decode b_SE_takeMove 17 = .ok (.baload, 1) := by decide +kernel
theorem d_SE_takeMove_18 : decode b_SE_takeMove 18 = .ok (.ifCond .ne 23, 3) := by decide +kernel
theorem d_SE_takeMove_21 : decode b_SE_takeMove 21 = .ok (.aload_n 0, 1) := by decide +kernel
theorem d_SE_takeMove_22 : decode b_SE_takeMove 22 = .ok (.getfield 28, 3) := by decide +kernel
theorem d_SE_takeMove_25 : decode b_SE_takeMove 25 = .ok (.getfield 203, 3) := by decide +kernel
theorem d_SE_takeMove_28 : decode b_SE_takeMove 28 = .ok (.iload_n 1, 1) := by decide +kernel
theorem d_SE_takeMove_29 : decode b_SE_takeMove 29 = .ok (.iconst 1, 1) := by decide +kernel
theorem d_SE_takeMove_30 : decode b_SE_takeMove 30 = .ok (.bastore, 1) := by decide +kernel
theorem d_SE_takeMove_31 : decode b_SE_takeMove 31 = .ok (.aload_n 0, 1) := by decide +kernel
theorem d_SE_takeMove_32 : decode b_SE_takeMove 32 = .ok (.getfield 53, 3) := by decide +kernel
theorem d_SE_takeMove_35 : decode b_SE_takeMove 35 = .ok (.iload_n 2, 1) := by decide +kernel
theorem d_SE_takeMove_36 : decode b_SE_takeMove 36 = .ok (.dup2, 1) := by decide +kernel
theorem d_SE_takeMove_37 : decode b_SE_takeMove 37 = .ok (.iaload, 1) := by decide +kernel
theorem d_SE_takeMove_38 : decode b_SE_takeMove 38 = .ok (.iconst 1, 1) := by decide +kernel
theorem d_SE_takeMove_39 : decode b_SE_takeMove 39 = .ok (.iadd, 1) := by decide +kernel
theorem d_SE_takeMove_40 : decode b_SE_takeMove 40 = .ok (.iastore, 1) := by decide +kernel
theorem d_SE_takeMove_41 : decode b_SE_takeMove 41 = .ok (.aload_n 0, 1) := by decide +kernel
theorem d_SE_takeMove_42 : decode b_SE_takeMove 42 = .ok (.getfield 12, 3) := by decide +kernel
theorem d_SE_takeMove_45 : decode b_SE_takeMove 45 = .ok (.getfield 207, 3) := by decide +kernel
theorem d_SE_takeMove_48 : decode b_SE_takeMove 48 = .ok (.iload_n 2, 1) := by decide +kernel
theorem d_SE_takeMove_49 : decode b_SE_takeMove 49 = .ok (.iaload, 1) := by decide +kernel
theorem d_SE_takeMove_50 : decode b_SE_takeMove 50 = .ok (.aload_n 0, 1) := by decide +kernel
theorem d_SE_takeMove_51 : decode b_SE_takeMove 51 = .ok (.getfield 28, 3) := by decide +kernel
theorem d_SE_takeMove_54 : decode b_SE_takeMove 54 = .ok (.getfield 208, 3) := by decide +kernel
theorem d_SE_takeMove_57 : decode b_SE_takeMove 57 = .ok (.iload_n 1, 1) := by decide +kernel
theorem d_SE_takeMove_58 : decode b_SE_takeMove 58 = .ok (.iaload, 1) := by decide +kernel
theorem d_SE_takeMove_59 : decode b_SE_takeMove 59 = .ok (.iadd, 1) := by decide +kernel
theorem d_SE_takeMove_60 : decode b_SE_takeMove 60 = .ok (.istore_n 3, 1) := by decide +kernel
theorem d_SE_takeMove_61 : decode b_SE_takeMove 61 = .ok (.aload_n 0, 1) := by decide +kernel
theorem d_SE_takeMove_62 : decode b_SE_takeMove 62 = .ok (.getfield 12, 3) := by decide +kernel
theorem d_SE_takeMove_65 : decode b_SE_takeMove 65 = .ok (.getfield 207, 3) := by decide +kernel
theorem d_SE_takeMove_68 : decode b_SE_takeMove 68 = .ok (.iload_n 2, 1) := by decide +kernel
theorem d_SE_takeMove_69 : decode b_SE_takeMove 69 = .ok (.iconst 1, 1) := by decide +kernel
theorem d_SE_takeMove_70 : decode b_SE_takeMove 70 = .ok (.iadd, 1) := by decide +kernel
theorem d_SE_takeMove_71 : decode b_SE_takeMove 71 = .ok (.iaload, 1) := by decide +kernel
theorem d_SE_takeMove_72 : decode b_SE_takeMove 72 = .ok (.istore 4, 2) := by decide +kernel
theorem d_SE_takeMove_74 : decode b_SE_takeMove 74 = .ok (.iload_n 3, 1) := by decide +kernel
theorem d_SE_takeMove_75 : decode b_SE_takeMove 75 = .ok (.iload 4, 2) := by decide +kernel
theorem d_SE_takeMove_77 : decode b_SE_takeMove 77 = .ok (.if_icmp .ge 34, 3) := by decide +kernel
theorem d_SE_takeMove_80 : decode b_SE_takeMove 80 = .ok (.aload_n 0, 1) := by decide +kernel
theorem d_SE_takeMove_81 : decode b_SE_takeMove 81 = .ok (.iload_n 1, 1) := by decide +kernel
theorem d_SE_takeMove_82 : decode b_SE_takeMove 82 = .ok (.aload_n 0, 1) := by decide +kernel
theorem d_SE_takeMove_83 : decode b_SE_takeMove 83 = .ok (.getfield 12, 3) := by decide +kernel
theorem d_SE_takeMove_86 : decode b_SE_takeMove 86 = .ok (.getfield 211, 3) := by decide +kernel
theorem d_SE_takeMove_89 : decode b_SE_takeMove 89 = .ok (.iload_n 3, 1) := by decide +kernel
theorem d_SE_takeMove_90 : decode b_SE_takeMove 90 = .ok (.iaload, 1) := by decide +kernel
theorem d_SE_takeMove_91 : decode b_SE_takeMove 91 = .ok (.invokevirtual 214, 3) := by decide +kernel
theorem d_SE_takeMove_94 : decode b_SE_takeMove 94 = .ok (.ifCond .ne 17, 3) := by decide +kernel
theorem d_SE_takeMove_97 : decode b_SE_takeMove 97 = .ok (.aload_n 0, 1) := by decide +kernel
theorem d_SE_takeMove_98 : decode b_SE_takeMove 98 = .ok (.getfield 65, 3) := by decide +kernel
theorem d_SE_takeMove_101 : decode b_SE_takeMove 101 = .ok (.getfield 217, 3) := by decide +kernel
theorem d_SE_takeMove_104 : decode b_SE_takeMove 104 = .ok (.iload_n 1, 1) := by decide +kernel
theorem d_SE_takeMove_105 : decode b_SE_takeMove 105 = .ok (.dup2, 1) := by decide +kernel
theorem d_SE_takeMove_106 : decode b_SE_takeMove 106 = .ok (.iaload, 1) := by decide +kernel
theorem d_SE_takeMove_107 : decode b_SE_takeMove 107 = .ok (.iconst 1, 1) := by decide +kernel
theorem d_SE_takeMove_108 : decode b_SE_takeMove 108 = .ok (.iadd, 1) := by decide +kernel
theorem d_SE_takeMove_109 : decode b_SE_takeMove 109 = .ok (.iastore, 1) := by decide +kernel
theorem d_SE_takeMove_110 : decode b_SE_takeMove 110 = .ok (.return_, 1) := by decide +kernel
theorem d_SE_takeMove_111 : decode b_SE_takeMove 111 = .ok (.aload_n 0, 1) := by decide +kernel
theorem d_SE_takeMove_112 : decode b_SE_takeMove 112 = .ok (.getfield 28, 3) := by decide +kernel
theorem d_SE_takeMove_115 : decode b_SE_takeMove 115 = .ok (.getfield 208, 3) := by decide +kernel
theorem d_SE_takeMove_118 : decode b_SE_takeMove 118 = .ok (.iload_n 1, 1) := by decide +kernel
theorem d_SE_takeMove_119 : decode b_SE_takeMove 119 = .ok (.dup2, 1) := by decide +kernel
theorem d_SE_takeMove_120 : decode b_SE_takeMove 120 = .ok (.iaload, 1) := by decide +kernel
theorem d_SE_takeMove_121 : decode b_SE_takeMove 121 = .ok (.iconst 1, 1) := by decide +kernel
theorem d_SE_takeMove_122 : decode b_SE_takeMove 122 = .ok (.iadd, 1) := by decide +kernel
theorem d_SE_takeMove_123 : decode b_SE_takeMove 123 = .ok (.iastore, 1) := by decide +kernel
theorem d_SE_takeMove_124 : decode b_SE_takeMove 124 = .ok (.iload_n 3, 1) := by decide +kernel
theorem d_SE_takeMove_125 : decode b_SE_takeMove 125 = .ok (.iconst 1, 1) := by decide +kernel
theorem d_SE_takeMove_126 : decode b_SE_takeMove 126 = .ok (.iadd, 1) := by decide +kernel
theorem d_SE_takeMove_127 : decode b_SE_takeMove 127 = .ok (.iload 4, 2) := by decide +kernel
theorem d_SE_takeMove_129 : decode b_SE_takeMove 129 = .ok (.if_icmp .lt 11, 3) := by decide +kernel
theorem d_SE_takeMove_132 : decode b_SE_takeMove 132 = .ok (.aload_n 0, 1) := by decide +kernel
theorem d_SE_takeMove_133 : decode b_SE_takeMove 133 = .ok (.getfield 28, 3) := by decide +kernel
theorem d_SE_takeMove_136 : decode b_SE_takeMove 136 = .ok (.iload_n 1, 1) := by decide +kernel
theorem d_SE_takeMove_137 : decode b_SE_takeMove 137 = .ok (.invokevirtual 220, 3) := by decide +kernel
theorem d_SE_takeMove_140 : decode b_SE_takeMove 140 = .ok (.return_, 1) := by decide +kernel
abbrev b_SE_takeTurn : ByteArray := prog_9_method_9_code
def y_SE_takeTurn : MethodName := ⟨"ExploreShares$Search", "takeTurn", "(I)V"⟩
def w_SE_takeTurn : List Cond := .code y_SE_takeTurn b_SE_takeTurn 2 (none) :: xU
theorem d_SE_takeTurn_0 : decode b_SE_takeTurn 0 = .ok (.aload_n 0, 1) := by decide +kernel
theorem d_SE_takeTurn_1 : decode b_SE_takeTurn 1 = .ok (.getfield 65, 3) := by decide +kernel
theorem d_SE_takeTurn_4 : decode b_SE_takeTurn 4 = .ok (.iload_n 1, 1) := by decide +kernel
theorem d_SE_takeTurn_5 : decode b_SE_takeTurn 5 = .ok (.invokevirtual 188, 3) := by decide +kernel
theorem d_SE_takeTurn_8 : decode b_SE_takeTurn 8 = .ok (.aload_n 0, 1) := by decide +kernel
theorem d_SE_takeTurn_9 : decode b_SE_takeTurn 9 = .ok (.getfield 28, 3) := by decide +kernel
theorem d_SE_takeTurn_12 : decode b_SE_takeTurn 12 = .ok (.getfield 185, 3) := by decide +kernel
theorem d_SE_takeTurn_15 : decode b_SE_takeTurn 15 = .ok (.iload_n 1, 1) := by decide +kernel
theorem d_SE_takeTurn_16 : decode b_SE_takeTurn 16 = .ok (.dup2, 1) := by decide +kernel
theorem d_SE_takeTurn_17 : decode b_SE_takeTurn 17 = .ok (.iaload, 1) := by decide +kernel
theorem d_SE_takeTurn_18 : decode b_SE_takeTurn 18 = .ok (.iconst 1, 1) := by decide +kernel
theorem d_SE_takeTurn_19 : decode b_SE_takeTurn 19 = .ok (.iadd, 1) := by decide +kernel
theorem d_SE_takeTurn_20 : decode b_SE_takeTurn 20 = .ok (.iastore, 1) := by decide +kernel
theorem d_SE_takeTurn_21 : decode b_SE_takeTurn 21 = .ok (.aload_n 0, 1) := by decide +kernel
theorem d_SE_takeTurn_22 : decode b_SE_takeTurn 22 = .ok (.getfield 72, 3) := by decide +kernel
theorem d_SE_takeTurn_25 : decode b_SE_takeTurn 25 = .ok (.iload_n 1, 1) := by decide +kernel
theorem d_SE_takeTurn_26 : decode b_SE_takeTurn 26 = .ok (.invokevirtual 169, 3) := by decide +kernel
theorem d_SE_takeTurn_29 : decode b_SE_takeTurn 29 = .ok (.ifCond .ne 34, 3) := by decide +kernel
theorem d_SE_takeTurn_32 : decode b_SE_takeTurn 32 = .ok (.aload_n 0, 1) := by decide +kernel
theorem d_SE_takeTurn_33 : decode b_SE_takeTurn 33 = .ok (.getfield 65, 3) := by decide +kernel
theorem d_SE_takeTurn_36 : decode b_SE_takeTurn 36 = .ok (.getfield 191, 3) := by decide +kernel
theorem d_SE_takeTurn_39 : decode b_SE_takeTurn 39 = .ok (.iload_n 1, 1) := by decide +kernel
theorem d_SE_takeTurn_40 : decode b_SE_takeTurn 40 = .ok (.dup2, 1) := by decide +kernel
theorem d_SE_takeTurn_41 : decode b_SE_takeTurn 41 = .ok (.iaload, 1) := by decide +kernel
theorem d_SE_takeTurn_42 : decode b_SE_takeTurn 42 = .ok (.iconst 1, 1) := by decide +kernel
theorem d_SE_takeTurn_43 : decode b_SE_takeTurn 43 = .ok (.iadd, 1) := by decide +kernel
theorem d_SE_takeTurn_44 : decode b_SE_takeTurn 44 = .ok (.iastore, 1) := by decide +kernel
theorem d_SE_takeTurn_45 : decode b_SE_takeTurn 45 = .ok (.aload_n 0, 1) := by decide +kernel
theorem d_SE_takeTurn_46 : decode b_SE_takeTurn 46 = .ok (.getfield 35, 3) := by decide +kernel
theorem d_SE_takeTurn_49 : decode b_SE_takeTurn 49 = .ok (.aload_n 0, 1) := by decide +kernel
theorem d_SE_takeTurn_50 : decode b_SE_takeTurn 50 = .ok (.getfield 72, 3) := by decide +kernel
theorem d_SE_takeTurn_53 : decode b_SE_takeTurn 53 = .ok (.iload_n 1, 1) := by decide +kernel
theorem d_SE_takeTurn_54 : decode b_SE_takeTurn 54 = .ok (.invokevirtual 194, 3) := by decide +kernel
theorem d_SE_takeTurn_57 : decode b_SE_takeTurn 57 = .ok (.invokevirtual 100, 3) := by decide +kernel
theorem d_SE_takeTurn_60 : decode b_SE_takeTurn 60 = .ok (.goto 19, 3) := by decide +kernel
theorem d_SE_takeTurn_63 : decode b_SE_takeTurn 63 = .ok (.aload_n 0, 1) := by decide +kernel
theorem d_SE_takeTurn_64 : decode b_SE_takeTurn 64 = .ok (.getfield 28, 3) := by decide +kernel
theorem d_SE_takeTurn_67 : decode b_SE_takeTurn 67 = .ok (.iload_n 1, 1) := by decide +kernel
theorem d_SE_takeTurn_68 : decode b_SE_takeTurn 68 = .ok (.invokevirtual 166, 3) := by decide +kernel
theorem d_SE_takeTurn_71 : decode b_SE_takeTurn 71 = .ok (.ifCond .eq 8, 3) := by decide +kernel
theorem d_SE_takeTurn_74 : decode b_SE_takeTurn 74 = .ok (.aload_n 0, 1) := by decide +kernel
theorem d_SE_takeTurn_75 : decode b_SE_takeTurn 75 = .ok (.iload_n 1, 1) := by decide +kernel
theorem d_SE_takeTurn_76 : decode b_SE_takeTurn 76 = .ok (.invokevirtual 197, 3) := by decide +kernel
theorem d_SE_takeTurn_79 : decode b_SE_takeTurn 79 = .ok (.return_, 1) := by decide +kernel
abbrev b_SE_takeTurns : ByteArray := prog_9_method_6_code
def y_SE_takeTurns : MethodName := ⟨"ExploreShares$Search", "takeTurns", "(I)Z"⟩
def w_SE_takeTurns : List Cond := .code y_SE_takeTurns b_SE_takeTurns 4 (some .boolean) :: xU
theorem d_SE_takeTurns_0 : decode b_SE_takeTurns 0 = .ok (.iconst 0, 1) := by decide +kernel
theorem d_SE_takeTurns_1 : decode b_SE_takeTurns 1 = .ok (.istore_n 2, 1) := by decide +kernel
theorem d_SE_takeTurns_2 : decode b_SE_takeTurns 2 = .ok (.iload_n 2, 1) := by decide +kernel
theorem d_SE_takeTurns_3 : decode b_SE_takeTurns 3 = .ok (.ldc 143, 2) := by decide +kernel
theorem d_SE_takeTurns_5 : decode b_SE_takeTurns 5 = .ok (.if_icmp .ge 61, 3) := by decide +kernel
theorem d_SE_takeTurns_8 : decode b_SE_takeTurns 8 = .ok (.aload_n 0, 1) := by decide +kernel
theorem d_SE_takeTurns_9 : decode b_SE_takeTurns 9 = .ok (.invokevirtual 144, 3) := by decide +kernel
theorem d_SE_takeTurns_12 : decode b_SE_takeTurns 12 = .ok (.istore_n 3, 1) := by decide +kernel
theorem d_SE_takeTurns_13 : decode b_SE_takeTurns 13 = .ok (.iload_n 3, 1) := by decide +kernel
theorem d_SE_takeTurns_14 : decode b_SE_takeTurns 14 = .ok (.iconst (-1), 1) := by decide +kernel
theorem d_SE_takeTurns_15 : decode b_SE_takeTurns 15 = .ok (.if_icmp .ne 5, 3) := by decide +kernel
theorem d_SE_takeTurns_18 : decode b_SE_takeTurns 18 = .ok (.iconst 1, 1) := by decide +kernel
theorem d_SE_takeTurns_19 : decode b_SE_takeTurns 19 = .ok (.ireturn, 1) := by decide +kernel
theorem d_SE_takeTurns_20 : decode b_SE_takeTurns 20 = .ok (.aload_n 0, 1) := by decide +kernel
theorem d_SE_takeTurns_21 : decode b_SE_takeTurns 21 = .ok (.iload_n 3, 1) := by decide +kernel
theorem d_SE_takeTurns_22 : decode b_SE_takeTurns 22 = .ok (.iload_n 1, 1) := by decide +kernel
theorem d_SE_takeTurns_23 : decode b_SE_takeTurns 23 = .ok (.invokevirtual 147, 3) := by decide +kernel
theorem d_SE_takeTurns_26 : decode b_SE_takeTurns 26 = .ok (.ifCond .eq 29, 3) := by decide +kernel
theorem d_SE_takeTurns_29 : decode b_SE_takeTurns 29 = .ok (.aload_n 0, 1) := by decide +kernel
theorem d_SE_takeTurns_30 : decode b_SE_takeTurns 30 = .ok (.getfield 42, 3) := by decide +kernel
theorem d_SE_takeTurns_33 : decode b_SE_takeTurns 33 = .ok (.iload_n 3, 1) := by decide +kernel
theorem d_SE_takeTurns_34 : decode b_SE_takeTurns 34 = .ok (.iload_n 1, 1) := by decide +kernel
theorem d_SE_takeTurns_35 : decode b_SE_takeTurns 35 = .ok (.aload_n 0, 1) := by decide +kernel
theorem d_SE_takeTurns_36 : decode b_SE_takeTurns 36 = .ok (.getfield 65, 3) := by decide +kernel
theorem d_SE_takeTurns_39 : decode b_SE_takeTurns 39 = .ok (.getfield 151, 3) := by decide +kernel
theorem d_SE_takeTurns_42 : decode b_SE_takeTurns 42 = .ok (.invokevirtual 154, 3) := by decide +kernel
theorem d_SE_takeTurns_45 : decode b_SE_takeTurns 45 = .ok (.aload_n 0, 1) := by decide +kernel
theorem d_SE_takeTurns_46 : decode b_SE_takeTurns 46 = .ok (.getfield 65, 3) := by decide +kernel
theorem d_SE_takeTurns_49 : decode b_SE_takeTurns 49 = .ok (.iload_n 3, 1) := by decide +kernel
theorem d_SE_takeTurns_50 : decode b_SE_takeTurns 50 = .ok (.invokevirtual 157, 3) := by decide +kernel
theorem d_SE_takeTurns_53 : decode b_SE_takeTurns 53 = .ok (.iconst 0, 1) := by decide +kernel
theorem d_SE_takeTurns_54 : decode b_SE_takeTurns 54 = .ok (.ireturn, 1) := by decide +kernel
theorem d_SE_takeTurns_55 : decode b_SE_takeTurns 55 = .ok (.aload_n 0, 1) := by decide +kernel
theorem d_SE_takeTurns_56 : decode b_SE_takeTurns 56 = .ok (.iload_n 3, 1) := by decide +kernel
theorem d_SE_takeTurns_57 : decode b_SE_takeTurns 57 = .ok (.invokevirtual 160, 3) := by decide +kernel
theorem d_SE_takeTurns_60 : decode b_SE_takeTurns 60 = .ok (.iinc 2 1, 3) := by decide +kernel
theorem d_SE_takeTurns_63 : decode b_SE_takeTurns 63 = .ok (.goto (-61), 3) := by decide +kernel
theorem d_SE_takeTurns_66 : decode b_SE_takeTurns 66 = .ok (.iconst 1, 1) := by decide +kernel
theorem d_SE_takeTurns_67 : decode b_SE_takeTurns 67 = .ok (.ireturn, 1) := by decide +kernel
abbrev b_SE_workerOfNextTurn : ByteArray := prog_9_method_7_code
def y_SE_workerOfNextTurn : MethodName := ⟨"ExploreShares$Search", "workerOfNextTurn", "()I"⟩
def w_SE_workerOfNextTurn : List Cond := .code y_SE_workerOfNextTurn b_SE_workerOfNextTurn 3 (some .int) :: xU
theorem d_SE_workerOfNextTurn_0 : decode b_SE_workerOfNextTurn 0 = .ok (.iconst 0, 1) := by decide +kernel
theorem d_SE_workerOfNextTurn_1 : decode b_SE_workerOfNextTurn 1 = .ok (.istore_n 1, 1) := by decide +kernel
theorem d_SE_workerOfNextTurn_2 : decode b_SE_workerOfNextTurn 2 = .ok (.iconst 0, 1) := by decide +kernel
theorem d_SE_workerOfNextTurn_3 : decode b_SE_workerOfNextTurn 3 = .ok (.istore_n 2, 1) := by decide +kernel
theorem d_SE_workerOfNextTurn_4 : decode b_SE_workerOfNextTurn 4 = .ok (.iload_n 2, 1) := by decide +kernel
theorem d_SE_workerOfNextTurn_5 : decode b_SE_workerOfNextTurn 5 = .ok (.aload_n 0, 1) := by decide +kernel
theorem d_SE_workerOfNextTurn_6 : decode b_SE_workerOfNextTurn 6 = .ok (.getfield 65, 3) := by decide +kernel
theorem d_SE_workerOfNextTurn_9 : decode b_SE_workerOfNextTurn 9 = .ok (.getfield 163, 3) := by decide +kernel
theorem d_SE_workerOfNextTurn_12 : decode b_SE_workerOfNextTurn 12 = .ok (.if_icmp .ge 41, 3) := by decide +kernel
theorem d_SE_workerOfNextTurn_15 : decode b_SE_workerOfNextTurn 15 = .ok (.aload_n 0, 1) := by decide +kernel
theorem d_SE_workerOfNextTurn_16 : decode b_SE_workerOfNextTurn 16 = .ok (.getfield 28, 3) := by decide +kernel
theorem d_SE_workerOfNextTurn_19 : decode b_SE_workerOfNextTurn 19 = .ok (.iload_n 2, 1) := by decide +kernel
theorem d_SE_workerOfNextTurn_20 : decode b_SE_workerOfNextTurn 20 = .ok (.invokevirtual 166, 3) := by decide +kernel
theorem d_SE_workerOfNextTurn_23 : decode b_SE_workerOfNextTurn 23 = .ok (.ifCond .ne 14, 3) := by decide +kernel
theorem d_SE_workerOfNextTurn_26 : decode b_SE_workerOfNextTurn 26 = .ok (.aload_n 0, 1) := by decide +kernel
theorem d_SE_workerOfNextTurn_27 : decode b_SE_workerOfNextTurn 27 = .ok (.getfield 72, 3) := by decide +kernel
theorem d_SE_workerOfNextTurn_30 : decode b_SE_workerOfNextTurn 30 = .ok (.iload_n 2, 1) := by decide +kernel
theorem d_SE_workerOfNextTurn_31 : decode b_SE_workerOfNextTurn 31 = .ok (.invokevirtual 169, 3) := by decide +kernel
theorem d_SE_workerOfNextTurn_34 : decode b_SE_workerOfNextTurn 34 = .ok (.ifCond .ne 13, 3) := by decide +kernel
theorem d_SE_workerOfNextTurn_37 : decode b_SE_workerOfNextTurn 37 = .ok (.aload_n 0, 1) := by decide +kernel
theorem d_SE_workerOfNextTurn_38 : decode b_SE_workerOfNextTurn 38 = .ok (.getfield 57, 3) := by decide +kernel
theorem d_SE_workerOfNextTurn_41 : decode b_SE_workerOfNextTurn 41 = .ok (.iload_n 1, 1) := by decide +kernel
theorem d_SE_workerOfNextTurn_42 : decode b_SE_workerOfNextTurn 42 = .ok (.iload_n 2, 1) := by decide +kernel
theorem d_SE_workerOfNextTurn_43 : decode b_SE_workerOfNextTurn 43 = .ok (.iastore, 1) := by decide +kernel
theorem d_SE_workerOfNextTurn_44 : decode b_SE_workerOfNextTurn 44 = .ok (.iinc 1 1, 3) := by decide +kernel
theorem d_SE_workerOfNextTurn_47 : decode b_SE_workerOfNextTurn 47 = .ok (.iinc 2 1, 3) := by decide +kernel
theorem d_SE_workerOfNextTurn_50 : decode b_SE_workerOfNextTurn 50 = .ok (.goto (-46), 3) := by decide +kernel
theorem d_SE_workerOfNextTurn_53 : decode b_SE_workerOfNextTurn 53 = .ok (.iload_n 1, 1) := by decide +kernel
theorem d_SE_workerOfNextTurn_54 : decode b_SE_workerOfNextTurn 54 = .ok (.ifCond .ne 5, 3) := by decide +kernel
theorem d_SE_workerOfNextTurn_57 : decode b_SE_workerOfNextTurn 57 = .ok (.iconst (-1), 1) := by decide +kernel
theorem d_SE_workerOfNextTurn_58 : decode b_SE_workerOfNextTurn 58 = .ok (.ireturn, 1) := by decide +kernel
theorem d_SE_workerOfNextTurn_59 : decode b_SE_workerOfNextTurn 59 = .ok (.aload_n 0, 1) := by decide +kernel
theorem d_SE_workerOfNextTurn_60 : decode b_SE_workerOfNextTurn 60 = .ok (.aload_n 0, 1) := by decide +kernel
theorem d_SE_workerOfNextTurn_61 : decode b_SE_workerOfNextTurn 61 = .ok (.getfield 97, 3) := by decide +kernel
theorem d_SE_workerOfNextTurn_64 : decode b_SE_workerOfNextTurn 64 = .ok (.invokestatic 172, 3) := by decide +kernel
theorem d_SE_workerOfNextTurn_67 : decode b_SE_workerOfNextTurn 67 = .ok (.putfield 97, 3) := by decide +kernel
theorem d_SE_workerOfNextTurn_70 : decode b_SE_workerOfNextTurn 70 = .ok (.aload_n 0, 1) := by decide +kernel
theorem d_SE_workerOfNextTurn_71 : decode b_SE_workerOfNextTurn 71 = .ok (.getfield 57, 3) := by decide +kernel
theorem d_SE_workerOfNextTurn_74 : decode b_SE_workerOfNextTurn 74 = .ok (.iload_n 1, 1) := by decide +kernel
theorem d_SE_workerOfNextTurn_75 : decode b_SE_workerOfNextTurn 75 = .ok (.aload_n 0, 1) := by decide +kernel
theorem d_SE_workerOfNextTurn_76 : decode b_SE_workerOfNextTurn 76 = .ok (.getfield 97, 3) := by decide +kernel
theorem d_SE_workerOfNextTurn_79 : decode b_SE_workerOfNextTurn 79 = .ok (.invokestatic 175, 3) := by decide +kernel
theorem d_SE_workerOfNextTurn_82 : decode b_SE_workerOfNextTurn 82 = .ok (.iaload, 1) := by decide +kernel
theorem d_SE_workerOfNextTurn_83 : decode b_SE_workerOfNextTurn 83 = .ok (.ireturn, 1) := by decide +kernel
