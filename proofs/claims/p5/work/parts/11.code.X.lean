abbrev b_X_init : ByteArray := prog_1_method_1_code
def y_X_init : MethodName := ⟨"ExploreShares", "<init>", "(II)V"⟩
def w_X_init : List Cond := .code y_X_init b_X_init 3 (none) :: xU
theorem d_X_init_0 : decode b_X_init 0 = .ok (.aload_n 0, 1) := by decide +kernel
theorem d_X_init_1 : decode b_X_init 1 = .ok (.invokespecial 1, 3) := by decide +kernel
theorem d_X_init_4 : decode b_X_init 4 = .ok (.aload_n 0, 1) := by decide +kernel
theorem d_X_init_5 : decode b_X_init 5 = .ok (.new 7, 3) := by decide +kernel
theorem d_X_init_8 : decode b_X_init 8 = .ok (.dup, 1) := by decide +kernel
theorem d_X_init_9 : decode b_X_init 9 = .ok (.iconst 1, 1) := by decide +kernel
theorem d_X_init_10 : decode b_X_init 10 = .ok (.iload_n 1, 1) := by decide +kernel
theorem d_X_init_11 : decode b_X_init 11 = .ok (.iconst 1, 1) := by decide +kernel
theorem d_X_init_12 : decode b_X_init 12 = .ok (.isub, 1) := by decide +kernel
theorem d_X_init_13 : decode b_X_init 13 = .ok (.bipush 16, 2) := by decide +kernel
theorem d_X_init_15 : decode b_X_init 15 = .ok (.invokestatic 11, 3) := by decide +kernel
theorem d_X_init_18 : decode b_X_init 18 = .ok (.iadd, 1) := by decide +kernel
theorem d_X_init_19 : decode b_X_init 19 = .ok (.iconst 1, 1) := by decide +kernel
theorem d_X_init_20 : decode b_X_init 20 = .ok (.iload_n 2, 1) := by decide +kernel
theorem d_X_init_21 : decode b_X_init 21 = .ok (.iconst 1, 1) := by decide +kernel
theorem d_X_init_22 : decode b_X_init 22 = .ok (.isub, 1) := by decide +kernel
theorem d_X_init_23 : decode b_X_init 23 = .ok (.bipush 8, 2) := by decide +kernel
theorem d_X_init_25 : decode b_X_init 25 = .ok (.invokestatic 11, 3) := by decide +kernel
theorem d_X_init_28 : decode b_X_init 28 = .ok (.iadd, 1) := by decide +kernel
theorem d_X_init_29 : decode b_X_init 29 = .ok (.invokespecial 17, 3) := by decide +kernel
theorem d_X_init_32 : decode b_X_init 32 = .ok (.putfield 20, 3) := by decide +kernel
theorem d_X_init_35 : decode b_X_init 35 = .ok (.aload_n 0, 1) := by decide +kernel
theorem d_X_init_36 : decode b_X_init 36 = .ok (.aload_n 0, 1) := by decide +kernel
theorem d_X_init_37 : decode b_X_init 37 = .ok (.getfield 20, 3) := by decide +kernel
theorem d_X_init_40 : decode b_X_init 40 = .ok (.getfield 24, 3) := by decide +kernel
theorem d_X_init_43 : decode b_X_init 43 = .ok (.putfield 28, 3) := by decide +kernel
theorem d_X_init_46 : decode b_X_init 46 = .ok (.aload_n 0, 1) := by decide +kernel
theorem d_X_init_47 : decode b_X_init 47 = .ok (.aload_n 0, 1) := by decide +kernel
theorem d_X_init_48 : decode b_X_init 48 = .ok (.getfield 20, 3) := by decide +kernel
theorem d_X_init_51 : decode b_X_init 51 = .ok (.getfield 29, 3) := by decide +kernel
theorem d_X_init_54 : decode b_X_init 54 = .ok (.putfield 33, 3) := by decide +kernel
theorem d_X_init_57 : decode b_X_init 57 = .ok (.aload_n 0, 1) := by decide +kernel
theorem d_X_init_58 : decode b_X_init 58 = .ok (.aload_n 0, 1) := by decide +kernel
theorem d_X_init_59 : decode b_X_init 59 = .ok (.getfield 20, 3) := by decide +kernel
theorem d_X_init_62 : decode b_X_init 62 = .ok (.getfield 34, 3) := by decide +kernel
theorem d_X_init_65 : decode b_X_init 65 = .ok (.putfield 38, 3) := by decide +kernel
theorem d_X_init_68 : decode b_X_init 68 = .ok (.return_, 1) := by decide +kernel
abbrev b_X_count : ByteArray := prog_1_method_13_code
def y_X_count : MethodName := ⟨"ExploreShares", "count", "(I)I"⟩
def w_X_count : List Cond := .code y_X_count b_X_count 2 (some .int) :: xU
theorem d_X_count_0 : decode b_X_count 0 = .ok (.iload_n 1, 1) := by decide +kernel
theorem d_X_count_1 : decode b_X_count 1 = .ok (.tableswitch 162 0 10 #[59, 67, 78, 86, 94, 102, 113, 124, 132, 143, 151], 59) := by decide +kernel
theorem d_X_count_60 : decode b_X_count 60 = .ok (.aload_n 0, 1) := by decide +kernel
theorem d_X_count_61 : decode b_X_count 61 = .ok (.getfield 38, 3) := by decide +kernel
theorem d_X_count_64 : decode b_X_count 64 = .ok (.getfield 188, 3) := by decide +kernel
theorem d_X_count_67 : decode b_X_count 67 = .ok (.ireturn, 1) := by decide +kernel
theorem d_X_count_68 : decode b_X_count 68 = .ok (.aload_n 0, 1) := by decide +kernel
theorem d_X_count_69 : decode b_X_count 69 = .ok (.getfield 20, 3) := by decide +kernel
theorem d_X_count_72 : decode b_X_count 72 = .ok (.getfield 191, 3) := by decide +kernel
theorem d_X_count_75 : decode b_X_count 75 = .ok (.getfield 195, 3) := by decide +kernel
theorem d_X_count_78 : decode b_X_count 78 = .ok (.ireturn, 1) := by decide +kernel
theorem d_X_count_79 : decode b_X_count 79 = .ok (.aload_n 0, 1) := by decide +kernel
theorem d_X_count_80 : decode b_X_count 80 = .ok (.getfield 28, 3) := by decide +kernel
theorem d_X_count_83 : decode b_X_count 83 = .ok (.getfield 39, 3) := by decide +kernel
theorem d_X_count_86 : decode b_X_count 86 = .ok (.ireturn, 1) := by decide +kernel
theorem d_X_count_87 : decode b_X_count 87 = .ok (.aload_n 0, 1) := by decide +kernel
theorem d_X_count_88 : decode b_X_count 88 = .ok (.getfield 28, 3) := by decide +kernel
theorem d_X_count_91 : decode b_X_count 91 = .ok (.getfield 68, 3) := by decide +kernel
theorem d_X_count_94 : decode b_X_count 94 = .ok (.ireturn, 1) := by decide +kernel
theorem d_X_count_95 : decode b_X_count 95 = .ok (.aload_n 0, 1) := by decide +kernel
theorem d_X_count_96 : decode b_X_count 96 = .ok (.getfield 33, 3) := by decide +kernel
theorem d_X_count_99 : decode b_X_count 99 = .ok (.getfield 86, 3) := by decide +kernel
theorem d_X_count_102 : decode b_X_count 102 = .ok (.ireturn, 1) := by decide +kernel
theorem d_X_count_103 : decode b_X_count 103 = .ok (.aload_n 0, 1) := by decide +kernel
theorem d_X_count_104 : decode b_X_count 104 = .ok (.getfield 20, 3) := by decide +kernel
theorem d_X_count_107 : decode b_X_count 107 = .ok (.getfield 109, 3) := by decide +kernel
theorem d_X_count_110 : decode b_X_count 110 = .ok (.invokevirtual 113, 3) := by decide +kernel
theorem d_X_count_113 : decode b_X_count 113 = .ok (.ireturn, 1) := by decide +kernel
theorem d_X_count_114 : decode b_X_count 114 = .ok (.aload_n 0, 1) := by decide +kernel
theorem d_X_count_115 : decode b_X_count 115 = .ok (.getfield 20, 3) := by decide +kernel
theorem d_X_count_118 : decode b_X_count 118 = .ok (.getfield 109, 3) := by decide +kernel
theorem d_X_count_121 : decode b_X_count 121 = .ok (.getfield 181, 3) := by decide +kernel
theorem d_X_count_124 : decode b_X_count 124 = .ok (.ireturn, 1) := by decide +kernel
theorem d_X_count_125 : decode b_X_count 125 = .ok (.aload_n 0, 1) := by decide +kernel
theorem d_X_count_126 : decode b_X_count 126 = .ok (.getfield 38, 3) := by decide +kernel
theorem d_X_count_129 : decode b_X_count 129 = .ok (.getfield 200, 3) := by decide +kernel
theorem d_X_count_132 : decode b_X_count 132 = .ok (.ireturn, 1) := by decide +kernel
theorem d_X_count_133 : decode b_X_count 133 = .ok (.aload_n 0, 1) := by decide +kernel
theorem d_X_count_134 : decode b_X_count 134 = .ok (.getfield 20, 3) := by decide +kernel
theorem d_X_count_137 : decode b_X_count 137 = .ok (.getfield 191, 3) := by decide +kernel
theorem d_X_count_140 : decode b_X_count 140 = .ok (.getfield 203, 3) := by decide +kernel
theorem d_X_count_143 : decode b_X_count 143 = .ok (.ireturn, 1) := by decide +kernel
theorem d_X_count_144 : decode b_X_count 144 = .ok (.aload_n 0, 1) := by decide +kernel
theorem d_X_count_145 : decode b_X_count 145 = .ok (.getfield 38, 3) := by decide +kernel
theorem d_X_count_148 : decode b_X_count 148 = .ok (.getfield 206, 3) := by decide +kernel
theorem d_X_count_151 : decode b_X_count 151 = .ok (.ireturn, 1) := by decide +kernel
theorem d_X_count_152 : decode b_X_count 152 = .ok (.aload_n 0, 1) := by decide +kernel
theorem d_X_count_153 : decode b_X_count 153 = .ok (.getfield 20, 3) := by decide +kernel
theorem d_X_count_156 : decode b_X_count 156 = .ok (.getfield 159, 3) := by decide +kernel
theorem d_X_count_159 : decode b_X_count 159 = .ok (.getfield 163, 3) := by decide +kernel
theorem d_X_count_162 : decode b_X_count 162 = .ok (.ireturn, 1) := by decide +kernel
theorem d_X_count_163 : decode b_X_count 163 = .ok (.iconst (-1), 1) := by decide +kernel
theorem d_X_count_164 : decode b_X_count 164 = .ok (.ireturn, 1) := by decide +kernel
abbrev b_X_fail : ByteArray := prog_1_method_4_code
def y_X_fail : MethodName := ⟨"ExploreShares", "fail", "(III)I"⟩
def w_X_fail : List Cond := .code y_X_fail b_X_fail 4 (some .int) :: xU
theorem d_X_fail_0 : decode b_X_fail 0 = .ok (.aload_n 0, 1) := by decide +kernel
theorem d_X_fail_1 : decode b_X_fail 1 = .ok (.getfield 38, 3) := by decide +kernel
theorem d_X_fail_4 : decode b_X_fail 4 = .ok (.iload_n 1, 1) := by decide +kernel
theorem d_X_fail_5 : decode b_X_fail 5 = .ok (.invokevirtual 76, 3) := by decide +kernel
theorem d_X_fail_8 : decode b_X_fail 8 = .ok (.ifCond .ne 13, 3) := by decide +kernel
theorem d_X_fail_11 : decode b_X_fail 11 = .ok (.new 79, 3) := by decide +kernel
theorem d_X_fail_14 : decode b_X_fail 14 = .ok (.dup, 1) := by decide +kernel
theorem d_X_fail_15 : decode b_X_fail 15 = .ok (.ldc 81, 2) := by decide +kernel
theorem d_X_fail_17 : decode b_X_fail 17 = .ok (.invokespecial 83, 3) := by decide +kernel
theorem d_X_fail_20 : decode b_X_fail 20 = .ok (.athrow, 1) := by decide +kernel
theorem d_X_fail_21 : decode b_X_fail 21 = .ok (.iload_n 2, 1) := by decide +kernel
theorem d_X_fail_22 : decode b_X_fail 22 = .ok (.ifCond .lt 21, 3) := by decide +kernel
theorem d_X_fail_25 : decode b_X_fail 25 = .ok (.iload_n 2, 1) := by decide +kernel
theorem d_X_fail_26 : decode b_X_fail 26 = .ok (.sipush 200, 3) := by decide +kernel
theorem d_X_fail_29 : decode b_X_fail 29 = .ok (.if_icmp .ge 14, 3) := by decide +kernel
theorem d_X_fail_32 : decode b_X_fail 32 = .ok (.iload_n 3, 1) := by decide +kernel
theorem d_X_fail_33 : decode b_X_fail 33 = .ok (.ifCond .lt 10, 3) := by decide +kernel
theorem d_X_fail_36 : decode b_X_fail 36 = .ok (.iload_n 3, 1) := by decide +kernel
theorem d_X_fail_37 : decode b_X_fail 37 = .ok (.sipush 1000, 3) := by decide +kernel
theorem d_X_fail_40 : decode b_X_fail 40 = .ok (.if_icmp .le 13, 3) := by decide +kernel
theorem d_X_fail_43 : decode b_X_fail 43 = .ok (.new 63, 3) := by decide +kernel
theorem d_X_fail_46 : decode b_X_fail 46 = .ok (.dup, 1) := by decide +kernel
theorem d_X_fail_47 : decode b_X_fail 47 = .ok (.ldc 84, 2) := by decide +kernel
theorem d_X_fail_49 : decode b_X_fail 49 = .ok (.invokespecial 67, 3) := by decide +kernel
theorem d_X_fail_52 : decode b_X_fail 52 = .ok (.athrow, 1) := by decide +kernel
theorem d_X_fail_53 : decode b_X_fail 53 = .ok (.aload_n 0, 1) := by decide +kernel
theorem d_X_fail_54 : decode b_X_fail 54 = .ok (.getfield 33, 3) := by decide +kernel
theorem d_X_fail_57 : decode b_X_fail 57 = .ok (.getfield 86, 3) := by decide +kernel
theorem d_X_fail_60 : decode b_X_fail 60 = .ok (.bipush 20, 2) := by decide +kernel
theorem d_X_fail_62 : decode b_X_fail 62 = .ok (.if_icmp .lt 26, 3) := by decide +kernel
theorem d_X_fail_65 : decode b_X_fail 65 = .ok (.aload_n 0, 1) := by decide +kernel
theorem d_X_fail_66 : decode b_X_fail 66 = .ok (.getfield 33, 3) := by decide +kernel
theorem d_X_fail_69 : decode b_X_fail 69 = .ok (.iload_n 1, 1) := by decide +kernel
theorem d_X_fail_70 : decode b_X_fail 70 = .ok (.iload_n 2, 1) := by decide +kernel
theorem d_X_fail_71 : decode b_X_fail 71 = .ok (.invokevirtual 91, 3) := by decide +kernel
theorem d_X_fail_74 : decode b_X_fail 74 = .ok (.iconst (-1), 1) := by decide +kernel
theorem d_X_fail_75 : decode b_X_fail 75 = .ok (.if_icmp .ne 13, 3) := by decide +kernel
theorem d_X_fail_78 : decode b_X_fail 78 = .ok (.new 45, 3) := by decide +kernel
theorem d_X_fail_81 : decode b_X_fail 81 = .ok (.dup, 1) := by decide +kernel
theorem d_X_fail_82 : decode b_X_fail 82 = .ok (.ldc 94, 2) := by decide +kernel
theorem d_X_fail_84 : decode b_X_fail 84 = .ok (.invokespecial 49, 3) := by decide +kernel
theorem d_X_fail_87 : decode b_X_fail 87 = .ok (.athrow, 1) := by decide +kernel
theorem d_X_fail_88 : decode b_X_fail 88 = .ok (.aload_n 0, 1) := by decide +kernel
theorem d_X_fail_89 : decode b_X_fail 89 = .ok (.getfield 20, 3) := by decide +kernel
theorem d_X_fail_92 : decode b_X_fail 92 = .ok (.invokevirtual 52, 3) := by decide +kernel
theorem d_X_fail_95 : decode b_X_fail 95 = .ok (.aload_n 0, 1) := by decide +kernel
theorem d_X_fail_96 : decode b_X_fail 96 = .ok (.getfield 33, 3) := by decide +kernel
theorem d_X_fail_99 : decode b_X_fail 99 = .ok (.iload_n 1, 1) := by decide +kernel
theorem d_X_fail_100 : decode b_X_fail 100 = .ok (.iload_n 2, 1) := by decide +kernel
theorem d_X_fail_101 : decode b_X_fail 101 = .ok (.iload_n 3, 1) := by decide +kernel
theorem d_X_fail_102 : decode b_X_fail 102 = .ok (.invokevirtual 96, 3) := by decide +kernel
theorem d_X_fail_105 : decode b_X_fail 105 = .ok (.aload_n 0, 1) := by decide +kernel
theorem d_X_fail_106 : decode b_X_fail 106 = .ok (.getfield 33, 3) := by decide +kernel
theorem d_X_fail_109 : decode b_X_fail 109 = .ok (.getfield 86, 3) := by decide +kernel
theorem d_X_fail_112 : decode b_X_fail 112 = .ok (.ireturn, 1) := by decide +kernel
abbrev b_X_failed : ByteArray := prog_1_method_11_code
def y_X_failed : MethodName := ⟨"ExploreShares", "failed", "(II)I"⟩
def w_X_failed : List Cond := .code y_X_failed b_X_failed 4 (some .int) :: xU
theorem d_X_failed_0 : decode b_X_failed 0 = .ok (.aload_n 0, 1) := by decide +kernel
theorem d_X_failed_1 : decode b_X_failed 1 = .ok (.getfield 20, 3) := by decide +kernel
theorem d_X_failed_4 : decode b_X_failed 4 = .ok (.getfield 159, 3) := by decide +kernel
theorem d_X_failed_7 : decode b_X_failed 7 = .ok (.astore_n 3, 1) := by decide +kernel
theorem d_X_failed_8 : decode b_X_failed 8 = .ok (.iload_n 1, 1) := by decide +kernel
theorem d_X_failed_9 : decode b_X_failed 9 = .ok (.ifCond .lt 11, 3) := by decide +kernel
theorem d_X_failed_12 : decode b_X_failed 12 = .ok (.iload_n 1, 1) := by decide +kernel
theorem d_X_failed_13 : decode b_X_failed 13 = .ok (.aload_n 3, 1) := by decide +kernel
theorem d_X_failed_14 : decode b_X_failed 14 = .ok (.getfield 163, 3) := by decide +kernel
theorem d_X_failed_17 : decode b_X_failed 17 = .ok (.if_icmp .lt 13, 3) := by decide +kernel
theorem d_X_failed_20 : decode b_X_failed 20 = .ok (.new 79, 3) := by decide +kernel
theorem d_X_failed_23 : decode b_X_failed 23 = .ok (.dup, 1) := by decide +kernel
theorem d_X_failed_24 : decode b_X_failed 24 = .ok (.ldc 168, 2) := by decide +kernel
theorem d_X_failed_26 : decode b_X_failed 26 = .ok (.invokespecial 83, 3) := by decide +kernel
theorem d_X_failed_29 : decode b_X_failed 29 = .ok (.athrow, 1) := by decide +kernel
theorem d_X_failed_30 : decode b_X_failed 30 = .ok (.iload_n 2, 1) := by decide +kernel
theorem d_X_failed_31 : decode b_X_failed 31 = .ok (.tableswitch 46 0 2 #[25, 32, 39], 25) := by decide +kernel
theorem d_X_failed_56 : decode b_X_failed 56 = .ok (.aload_n 3, 1) := by decide +kernel
theorem d_X_failed_57 : decode b_X_failed 57 = .ok (.getfield 170, 3) := by decide +kernel
theorem d_X_failed_60 : decode b_X_failed 60 = .ok (.iload_n 1, 1) := by decide +kernel
theorem d_X_failed_61 : decode b_X_failed 61 = .ok (.iaload, 1) := by decide +kernel
theorem d_X_failed_62 : decode b_X_failed 62 = .ok (.ireturn, 1) := by decide +kernel
theorem d_X_failed_63 : decode b_X_failed 63 = .ok (.aload_n 3, 1) := by decide +kernel
theorem d_X_failed_64 : decode b_X_failed 64 = .ok (.getfield 173, 3) := by decide +kernel
theorem d_X_failed_67 : decode b_X_failed 67 = .ok (.iload_n 1, 1) := by decide +kernel
theorem d_X_failed_68 : decode b_X_failed 68 = .ok (.iaload, 1) := by decide +kernel
theorem d_X_failed_69 : decode b_X_failed 69 = .ok (.ireturn, 1) := by decide +kernel
theorem d_X_failed_70 : decode b_X_failed 70 = .ok (.aload_n 3, 1) := by decide +kernel
theorem d_X_failed_71 : decode b_X_failed 71 = .ok (.getfield 176, 3) := by decide +kernel
theorem d_X_failed_74 : decode b_X_failed 74 = .ok (.iload_n 1, 1) := by decide +kernel
theorem d_X_failed_75 : decode b_X_failed 75 = .ok (.iaload, 1) := by decide +kernel
theorem d_X_failed_76 : decode b_X_failed 76 = .ok (.ireturn, 1) := by decide +kernel
theorem d_X_failed_77 : decode b_X_failed 77 = .ok (.new 79, 3) := by decide +kernel
theorem d_X_failed_80 : decode b_X_failed 80 = .ok (.dup, 1) := by decide +kernel
theorem d_X_failed_81 : decode b_X_failed 81 = .ok (.ldc 179, 2) := by decide +kernel
theorem d_X_failed_83 : decode b_X_failed 83 = .ok (.invokespecial 83, 3) := by decide +kernel
theorem d_X_failed_86 : decode b_X_failed 86 = .ok (.athrow, 1) := by decide +kernel
abbrev b_X_fillFlags : ByteArray := prog_1_method_16_code
def y_X_fillFlags : MethodName := ⟨"ExploreShares", "fillFlags", "([ZZ)V"⟩
def w_X_fillFlags : List Cond := .code y_X_fillFlags b_X_fillFlags 3 (none) :: xU
theorem d_X_fillFlags_0 : decode b_X_fillFlags 0 = .ok (.iconst 0, 1) := by decide +kernel
theorem d_X_fillFlags_1 : decode b_X_fillFlags 1 = .ok (.istore_n 2, 1) := by decide +kernel
theorem d_X_fillFlags_2 : decode b_X_fillFlags 2 = .ok (.iload_n 2, 1) := by decide +kernel
theorem d_X_fillFlags_3 : decode b_X_fillFlags 3 = .ok (.aload_n 0, 1) := by decide +kernel
theorem d_X_fillFlags_4 : decode b_X_fillFlags 4 = .ok (.arraylength, 1) := by decide +kernel
theorem d_X_fillFlags_5 : decode b_X_fillFlags 5 = .ok (.if_icmp .ge 13, 3) := by decide +kernel
theorem d_X_fillFlags_8 : decode b_X_fillFlags 8 = .ok (.aload_n 0, 1) := by decide +kernel
theorem d_X_fillFlags_9 : decode b_X_fillFlags 9 = .ok (.iload_n 2, 1) := by decide +kernel
theorem d_X_fillFlags_10 : decode b_X_fillFlags 10 = .ok (.iload_n 1, 1) := by decide +kernel
theorem d_X_fillFlags_11 : decode b_X_fillFlags 11 = .ok (.bastore, 1) := by decide +kernel
theorem d_X_fillFlags_12 : decode b_X_fillFlags 12 = .ok (.iinc 2 1, 3) := by decide +kernel
theorem d_X_fillFlags_15 : decode b_X_fillFlags 15 = .ok (.goto (-13), 3) := by decide +kernel
theorem d_X_fillFlags_18 : decode b_X_fillFlags 18 = .ok (.return_, 1) := by decide +kernel
abbrev b_X_level : ByteArray := prog_1_method_6_code
def y_X_level : MethodName := ⟨"ExploreShares", "level", "(I)I"⟩
def w_X_level : List Cond := .code y_X_level b_X_level 2 (some .int) :: xU
theorem d_X_level_0 : decode b_X_level 0 = .ok (.aload_n 0, 1) := by decide +kernel
theorem d_X_level_1 : decode b_X_level 1 = .ok (.getfield 28, 3) := by decide +kernel
theorem d_X_level_4 : decode b_X_level 4 = .ok (.iload_n 1, 1) := by decide +kernel
theorem d_X_level_5 : decode b_X_level 5 = .ok (.invokevirtual 59, 3) := by decide +kernel
theorem d_X_level_8 : decode b_X_level 8 = .ok (.ifCond .ne 13, 3) := by decide +kernel
theorem d_X_level_11 : decode b_X_level 11 = .ok (.new 79, 3) := by decide +kernel
theorem d_X_level_14 : decode b_X_level 14 = .ok (.dup, 1) := by decide +kernel
theorem d_X_level_15 : decode b_X_level 15 = .ok (.ldc 65, 2) := by decide +kernel
theorem d_X_level_17 : decode b_X_level 17 = .ok (.invokespecial 83, 3) := by decide +kernel
theorem d_X_level_20 : decode b_X_level 20 = .ok (.athrow, 1) := by decide +kernel
theorem d_X_level_21 : decode b_X_level 21 = .ok (.aload_n 0, 1) := by decide +kernel
theorem d_X_level_22 : decode b_X_level 22 = .ok (.getfield 20, 3) := by decide +kernel
theorem d_X_level_25 : decode b_X_level 25 = .ok (.getfield 109, 3) := by decide +kernel
theorem d_X_level_28 : decode b_X_level 28 = .ok (.getfield 118, 3) := by decide +kernel
theorem d_X_level_31 : decode b_X_level 31 = .ok (.iload_n 1, 1) := by decide +kernel
theorem d_X_level_32 : decode b_X_level 32 = .ok (.iaload, 1) := by decide +kernel
theorem d_X_level_33 : decode b_X_level 33 = .ok (.ireturn, 1) := by decide +kernel
abbrev b_X_move : ByteArray := prog_1_method_3_code
def y_X_move : MethodName := ⟨"ExploreShares", "move", "(II)I"⟩
def w_X_move : List Cond := .code y_X_move b_X_move 3 (some .int) :: xU
theorem d_X_move_0 : decode b_X_move 0 = .ok (.aload_n 0, 1) := by decide +kernel
theorem d_X_move_1 : decode b_X_move 1 = .ok (.getfield 28, 3) := by decide +kernel
theorem d_X_move_4 : decode b_X_move 4 = .ok (.iload_n 1, 1) := by decide +kernel
theorem d_X_move_5 : decode b_X_move 5 = .ok (.invokevirtual 59, 3) := by decide +kernel
theorem d_X_move_8 : decode b_X_move 8 = .ok (.ifCond .eq 14, 3) := by decide +kernel
theorem d_X_move_11 : decode b_X_move 11 = .ok (.aload_n 0, 1) := by decide +kernel
theorem d_X_move_12 : decode b_X_move 12 = .ok (.getfield 28, 3) := by decide +kernel
theorem d_X_move_15 : decode b_X_move 15 = .ok (.iload_n 2, 1) := by decide +kernel
theorem d_X_move_16 : decode b_X_move 16 = .ok (.invokevirtual 59, 3) := by decide +kernel
theorem d_X_move_19 : decode b_X_move 19 = .ok (.ifCond .ne 13, 3) := by decide +kernel
theorem d_X_move_22 : decode b_X_move 22 = .ok (.new 63, 3) := by decide +kernel
theorem d_X_move_25 : decode b_X_move 25 = .ok (.dup, 1) := by decide +kernel
theorem d_X_move_26 : decode b_X_move 26 = .ok (.ldc 65, 2) := by decide +kernel
theorem d_X_move_28 : decode b_X_move 28 = .ok (.invokespecial 67, 3) := by decide +kernel
theorem d_X_move_31 : decode b_X_move 31 = .ok (.athrow, 1) := by decide +kernel
theorem d_X_move_32 : decode b_X_move 32 = .ok (.aload_n 0, 1) := by decide +kernel
theorem d_X_move_33 : decode b_X_move 33 = .ok (.getfield 28, 3) := by decide +kernel
theorem d_X_move_36 : decode b_X_move 36 = .ok (.getfield 68, 3) := by decide +kernel
theorem d_X_move_39 : decode b_X_move 39 = .ok (.sipush 600, 3) := by decide +kernel
theorem d_X_move_42 : decode b_X_move 42 = .ok (.if_icmp .lt 13, 3) := by decide +kernel
theorem d_X_move_45 : decode b_X_move 45 = .ok (.new 45, 3) := by decide +kernel
theorem d_X_move_48 : decode b_X_move 48 = .ok (.dup, 1) := by decide +kernel
theorem d_X_move_49 : decode b_X_move 49 = .ok (.ldc 71, 2) := by decide +kernel
theorem d_X_move_51 : decode b_X_move 51 = .ok (.invokespecial 49, 3) := by decide +kernel
theorem d_X_move_54 : decode b_X_move 54 = .ok (.athrow, 1) := by decide +kernel
theorem d_X_move_55 : decode b_X_move 55 = .ok (.aload_n 0, 1) := by decide +kernel
theorem d_X_move_56 : decode b_X_move 56 = .ok (.getfield 20, 3) := by decide +kernel
theorem d_X_move_59 : decode b_X_move 59 = .ok (.invokevirtual 52, 3) := by decide +kernel
theorem d_X_move_62 : decode b_X_move 62 = .ok (.aload_n 0, 1) := by decide +kernel
theorem d_X_move_63 : decode b_X_move 63 = .ok (.getfield 28, 3) := by decide +kernel
theorem d_X_move_66 : decode b_X_move 66 = .ok (.iload_n 1, 1) := by decide +kernel
theorem d_X_move_67 : decode b_X_move 67 = .ok (.iload_n 2, 1) := by decide +kernel
theorem d_X_move_68 : decode b_X_move 68 = .ok (.invokevirtual 73, 3) := by decide +kernel
theorem d_X_move_71 : decode b_X_move 71 = .ok (.aload_n 0, 1) := by decide +kernel
theorem d_X_move_72 : decode b_X_move 72 = .ok (.getfield 28, 3) := by decide +kernel
theorem d_X_move_75 : decode b_X_move 75 = .ok (.getfield 68, 3) := by decide +kernel
theorem d_X_move_78 : decode b_X_move 78 = .ok (.ireturn, 1) := by decide +kernel
abbrev b_X_numberBehind : ByteArray := prog_1_method_14_code
def y_X_numberBehind : MethodName := ⟨"ExploreShares", "numberBehind", "(I)I"⟩
def w_X_numberBehind : List Cond := .code y_X_numberBehind b_X_numberBehind 1 (some .int) :: xU
theorem d_X_numberBehind_0 : decode b_X_numberBehind 0 = .ok (.ldc 209, 2) := by decide +kernel
theorem d_X_numberBehind_2 : decode b_X_numberBehind 2 = .ok (.iload_n 0, 1) := by decide +kernel
theorem d_X_numberBehind_3 : decode b_X_numberBehind 3 = .ok (.imul, 1) := by decide +kernel
theorem d_X_numberBehind_4 : decode b_X_numberBehind 4 = .ok (.sipush 12345, 3) := by decide +kernel
theorem d_X_numberBehind_7 : decode b_X_numberBehind 7 = .ok (.iadd, 1) := by decide +kernel
theorem d_X_numberBehind_8 : decode b_X_numberBehind 8 = .ok (.ldc 210, 2) := by decide +kernel
theorem d_X_numberBehind_10 : decode b_X_numberBehind 10 = .ok (.iand, 1) := by decide +kernel
theorem d_X_numberBehind_11 : decode b_X_numberBehind 11 = .ok (.ireturn, 1) := by decide +kernel
abbrev b_X_oneOf : ByteArray := prog_1_method_15_code
def y_X_oneOf : MethodName := ⟨"ExploreShares", "oneOf", "(II)I"⟩
def w_X_oneOf : List Cond := .code y_X_oneOf b_X_oneOf 2 (some .int) :: xU
theorem d_X_oneOf_0 : decode b_X_oneOf 0 = .ok (.iload_n 0, 1) := by decide +kernel
theorem d_X_oneOf_1 : decode b_X_oneOf 1 = .ok (.ifCond .le 12, 3) := by decide +kernel
theorem d_X_oneOf_4 : decode b_X_oneOf 4 = .ok (.iload_n 1, 1) := by decide +kernel
theorem d_X_oneOf_5 : decode b_X_oneOf 5 = .ok (.ldc 211, 2) := by decide +kernel
theorem d_X_oneOf_7 : decode b_X_oneOf 7 = .ok (.idiv, 1) := by decide +kernel
theorem d_X_oneOf_8 : decode b_X_oneOf 8 = .ok (.iload_n 0, 1) := by decide +kernel
theorem d_X_oneOf_9 : decode b_X_oneOf 9 = .ok (.irem, 1) := by decide +kernel
theorem d_X_oneOf_10 : decode b_X_oneOf 10 = .ok (.goto 4, 3) := by decide +kernel
theorem d_X_oneOf_13 : decode b_X_oneOf 13 = .ok (.iconst 0, 1) := by decide +kernel
theorem d_X_oneOf_14 : decode b_X_oneOf 14 = .ok (.ireturn, 1) := by decide +kernel
abbrev b_X_owner : ByteArray := prog_1_method_7_code
def y_X_owner : MethodName := ⟨"ExploreShares", "owner", "(I)I"⟩
def w_X_owner : List Cond := .code y_X_owner b_X_owner 2 (some .int) :: xU
theorem d_X_owner_0 : decode b_X_owner 0 = .ok (.aload_n 0, 1) := by decide +kernel
theorem d_X_owner_1 : decode b_X_owner 1 = .ok (.getfield 28, 3) := by decide +kernel
theorem d_X_owner_4 : decode b_X_owner 4 = .ok (.iload_n 1, 1) := by decide +kernel
theorem d_X_owner_5 : decode b_X_owner 5 = .ok (.invokevirtual 59, 3) := by decide +kernel
theorem d_X_owner_8 : decode b_X_owner 8 = .ok (.ifCond .ne 13, 3) := by decide +kernel
theorem d_X_owner_11 : decode b_X_owner 11 = .ok (.new 79, 3) := by decide +kernel
theorem d_X_owner_14 : decode b_X_owner 14 = .ok (.dup, 1) := by decide +kernel
theorem d_X_owner_15 : decode b_X_owner 15 = .ok (.ldc 65, 2) := by decide +kernel
theorem d_X_owner_17 : decode b_X_owner 17 = .ok (.invokespecial 83, 3) := by decide +kernel
theorem d_X_owner_20 : decode b_X_owner 20 = .ok (.athrow, 1) := by decide +kernel
theorem d_X_owner_21 : decode b_X_owner 21 = .ok (.aload_n 0, 1) := by decide +kernel
theorem d_X_owner_22 : decode b_X_owner 22 = .ok (.getfield 38, 3) := by decide +kernel
theorem d_X_owner_25 : decode b_X_owner 25 = .ok (.iload_n 1, 1) := by decide +kernel
theorem d_X_owner_26 : decode b_X_owner 26 = .ok (.invokevirtual 122, 3) := by decide +kernel
theorem d_X_owner_29 : decode b_X_owner 29 = .ok (.ireturn, 1) := by decide +kernel
abbrev b_X_run : ByteArray := prog_1_method_5_code
def y_X_run : MethodName := ⟨"ExploreShares", "run", "(I)I"⟩
def w_X_run : List Cond := .code y_X_run b_X_run 2 (some .int) :: xU
theorem d_X_run_0 : decode b_X_run 0 = .ok (.aload_n 0, 1) := by decide +kernel
theorem d_X_run_1 : decode b_X_run 1 = .ok (.getfield 28, 3) := by decide +kernel
theorem d_X_run_4 : decode b_X_run 4 = .ok (.getfield 39, 3) := by decide +kernel
theorem d_X_run_7 : decode b_X_run 7 = .ok (.ifCond .ne 13, 3) := by decide +kernel
theorem d_X_run_10 : decode b_X_run 10 = .ok (.new 100, 3) := by decide +kernel
theorem d_X_run_13 : decode b_X_run 13 = .ok (.dup, 1) := by decide +kernel
theorem d_X_run_14 : decode b_X_run 14 = .ok (.ldc 102, 2) := by decide +kernel
theorem d_X_run_16 : decode b_X_run 16 = .ok (.invokespecial 104, 3) := by decide +kernel
theorem d_X_run_19 : decode b_X_run 19 = .ok (.athrow, 1) := by decide +kernel
theorem d_X_run_20 : decode b_X_run 20 = .ok (.aload_n 0, 1) := by decide +kernel
theorem d_X_run_21 : decode b_X_run 21 = .ok (.getfield 20, 3) := by decide +kernel
theorem d_X_run_24 : decode b_X_run 24 = .ok (.iload_n 1, 1) := by decide +kernel
theorem d_X_run_25 : decode b_X_run 25 = .ok (.invokevirtual 105, 3) := by decide +kernel
theorem d_X_run_28 : decode b_X_run 28 = .ok (.aload_n 0, 1) := by decide +kernel
theorem d_X_run_29 : decode b_X_run 29 = .ok (.getfield 20, 3) := by decide +kernel
theorem d_X_run_32 : decode b_X_run 32 = .ok (.getfield 109, 3) := by decide +kernel
theorem d_X_run_35 : decode b_X_run 35 = .ok (.invokevirtual 113, 3) := by decide +kernel
theorem d_X_run_38 : decode b_X_run 38 = .ok (.ireturn, 1) := by decide +kernel
abbrev b_X_size : ByteArray := prog_1_method_12_code
def y_X_size : MethodName := ⟨"ExploreShares", "size", "(I)I"⟩
def w_X_size : List Cond := .code y_X_size b_X_size 3 (some .int) :: xU
theorem d_X_size_0 : decode b_X_size 0 = .ok (.aload_n 0, 1) := by decide +kernel
theorem d_X_size_1 : decode b_X_size 1 = .ok (.getfield 20, 3) := by decide +kernel
theorem d_X_size_4 : decode b_X_size 4 = .ok (.getfield 109, 3) := by decide +kernel
theorem d_X_size_7 : decode b_X_size 7 = .ok (.astore_n 2, 1) := by decide +kernel
theorem d_X_size_8 : decode b_X_size 8 = .ok (.iload_n 1, 1) := by decide +kernel
theorem d_X_size_9 : decode b_X_size 9 = .ok (.ifCond .lt 11, 3) := by decide +kernel
theorem d_X_size_12 : decode b_X_size 12 = .ok (.iload_n 1, 1) := by decide +kernel
theorem d_X_size_13 : decode b_X_size 13 = .ok (.aload_n 2, 1) := by decide +kernel
theorem d_X_size_14 : decode b_X_size 14 = .ok (.getfield 181, 3) := by decide +kernel
theorem d_X_size_17 : decode b_X_size 17 = .ok (.if_icmp .lt 13, 3) := by decide +kernel
theorem d_X_size_20 : decode b_X_size 20 = .ok (.new 79, 3) := by decide +kernel
theorem d_X_size_23 : decode b_X_size 23 = .ok (.dup, 1) := by decide +kernel
theorem d_X_size_24 : decode b_X_size 24 = .ok (.ldc 183, 2) := by decide +kernel
theorem d_X_size_26 : decode b_X_size 26 = .ok (.invokespecial 83, 3) := by decide +kernel
theorem d_X_size_29 : decode b_X_size 29 = .ok (.athrow, 1) := by decide +kernel
theorem d_X_size_30 : decode b_X_size 30 = .ok (.aload_n 2, 1) := by decide +kernel
theorem d_X_size_31 : decode b_X_size 31 = .ok (.getfield 185, 3) := by decide +kernel
theorem d_X_size_34 : decode b_X_size 34 = .ok (.iload_n 1, 1) := by decide +kernel
theorem d_X_size_35 : decode b_X_size 35 = .ok (.iconst 1, 1) := by decide +kernel
theorem d_X_size_36 : decode b_X_size 36 = .ok (.iadd, 1) := by decide +kernel
theorem d_X_size_37 : decode b_X_size 37 = .ok (.iaload, 1) := by decide +kernel
theorem d_X_size_38 : decode b_X_size 38 = .ok (.aload_n 2, 1) := by decide +kernel
theorem d_X_size_39 : decode b_X_size 39 = .ok (.getfield 185, 3) := by decide +kernel
theorem d_X_size_42 : decode b_X_size 42 = .ok (.iload_n 1, 1) := by decide +kernel
theorem d_X_size_43 : decode b_X_size 43 = .ok (.iaload, 1) := by decide +kernel
theorem d_X_size_44 : decode b_X_size 44 = .ok (.isub, 1) := by decide +kernel
theorem d_X_size_45 : decode b_X_size 45 = .ok (.ireturn, 1) := by decide +kernel
abbrev b_X_state : ByteArray := prog_1_method_2_code
def y_X_state : MethodName := ⟨"ExploreShares", "state", "()I"⟩
def w_X_state : List Cond := .code y_X_state b_X_state 1 (some .int) :: xU
theorem d_X_state_0 : decode b_X_state 0 = .ok (.aload_n 0, 1) := by decide +kernel
theorem d_X_state_1 : decode b_X_state 1 = .ok (.getfield 28, 3) := by decide +kernel
theorem d_X_state_4 : decode b_X_state 4 = .ok (.getfield 39, 3) := by decide +kernel
theorem d_X_state_7 : decode b_X_state 7 = .ok (.sipush 200, 3) := by decide +kernel
theorem d_X_state_10 : decode b_X_state 10 = .ok (.if_icmp .lt 13, 3) := by decide +kernel
theorem d_X_state_13 : decode b_X_state 13 = .ok (.new 45, 3) := by decide +kernel
theorem d_X_state_16 : decode b_X_state 16 = .ok (.dup, 1) := by decide +kernel
theorem d_X_state_17 : decode b_X_state 17 = .ok (.ldc 47, 2) := by decide +kernel
theorem d_X_state_19 : decode b_X_state 19 = .ok (.invokespecial 49, 3) := by decide +kernel
theorem d_X_state_22 : decode b_X_state 22 = .ok (.athrow, 1) := by decide +kernel
theorem d_X_state_23 : decode b_X_state 23 = .ok (.aload_n 0, 1) := by decide +kernel
theorem d_X_state_24 : decode b_X_state 24 = .ok (.getfield 20, 3) := by decide +kernel
theorem d_X_state_27 : decode b_X_state 27 = .ok (.invokevirtual 52, 3) := by decide +kernel
theorem d_X_state_30 : decode b_X_state 30 = .ok (.aload_n 0, 1) := by decide +kernel
theorem d_X_state_31 : decode b_X_state 31 = .ok (.getfield 28, 3) := by decide +kernel
theorem d_X_state_34 : decode b_X_state 34 = .ok (.invokevirtual 55, 3) := by decide +kernel
theorem d_X_state_37 : decode b_X_state 37 = .ok (.ireturn, 1) := by decide +kernel
abbrev b_X_times : ByteArray := prog_1_method_8_code
def y_X_times : MethodName := ⟨"ExploreShares", "times", "(I)I"⟩
def w_X_times : List Cond := .code y_X_times b_X_times 2 (some .int) :: xU
theorem d_X_times_0 : decode b_X_times 0 = .ok (.aload_n 0, 1) := by decide +kernel
theorem d_X_times_1 : decode b_X_times 1 = .ok (.getfield 28, 3) := by decide +kernel
theorem d_X_times_4 : decode b_X_times 4 = .ok (.iload_n 1, 1) := by decide +kernel
theorem d_X_times_5 : decode b_X_times 5 = .ok (.invokevirtual 59, 3) := by decide +kernel
theorem d_X_times_8 : decode b_X_times 8 = .ok (.ifCond .ne 13, 3) := by decide +kernel
theorem d_X_times_11 : decode b_X_times 11 = .ok (.new 79, 3) := by decide +kernel
theorem d_X_times_14 : decode b_X_times 14 = .ok (.dup, 1) := by decide +kernel
theorem d_X_times_15 : decode b_X_times 15 = .ok (.ldc 65, 2) := by decide +kernel
theorem d_X_times_17 : decode b_X_times 17 = .ok (.invokespecial 83, 3) := by decide +kernel
theorem d_X_times_20 : decode b_X_times 20 = .ok (.athrow, 1) := by decide +kernel
theorem d_X_times_21 : decode b_X_times 21 = .ok (.aload_n 0, 1) := by decide +kernel
theorem d_X_times_22 : decode b_X_times 22 = .ok (.getfield 20, 3) := by decide +kernel
theorem d_X_times_25 : decode b_X_times 25 = .ok (.getfield 126, 3) := by decide +kernel
theorem d_X_times_28 : decode b_X_times 28 = .ok (.iload_n 1, 1) := by decide +kernel
theorem d_X_times_29 : decode b_X_times 29 = .ok (.iaload, 1) := by decide +kernel
theorem d_X_times_30 : decode b_X_times 30 = .ok (.ireturn, 1) := by decide +kernel
abbrev b_X_way : ByteArray := prog_1_method_9_code
def y_X_way : MethodName := ⟨"ExploreShares", "way", "(II)I"⟩
def w_X_way : List Cond := .code y_X_way b_X_way 3 (some .int) :: xU
theorem d_X_way_0 : decode b_X_way 0 = .ok (.aload_n 0, 1) := by decide +kernel
theorem d_X_way_1 : decode b_X_way 1 = .ok (.getfield 28, 3) := by decide +kernel
theorem d_X_way_4 : decode b_X_way 4 = .ok (.iload_n 1, 1) := by decide +kernel
theorem d_X_way_5 : decode b_X_way 5 = .ok (.invokevirtual 59, 3) := by decide +kernel
theorem d_X_way_8 : decode b_X_way 8 = .ok (.ifCond .eq 23, 3) := by decide +kernel
theorem d_X_way_11 : decode b_X_way 11 = .ok (.iload_n 2, 1) := by decide +kernel
theorem d_X_way_12 : decode b_X_way 12 = .ok (.ifCond .lt 19, 3) := by decide +kernel
theorem d_X_way_15 : decode b_X_way 15 = .ok (.iload_n 2, 1) := by decide +kernel
theorem d_X_way_16 : decode b_X_way 16 = .ok (.aload_n 0, 1) := by decide +kernel
theorem d_X_way_17 : decode b_X_way 17 = .ok (.getfield 20, 3) := by decide +kernel
theorem d_X_way_20 : decode b_X_way 20 = .ok (.getfield 109, 3) := by decide +kernel
theorem d_X_way_23 : decode b_X_way 23 = .ok (.getfield 118, 3) := by decide +kernel
theorem d_X_way_26 : decode b_X_way 26 = .ok (.iload_n 1, 1) := by decide +kernel
theorem d_X_way_27 : decode b_X_way 27 = .ok (.iaload, 1) := by decide +kernel
theorem d_X_way_28 : decode b_X_way 28 = .ok (.if_icmp .le 13, 3) := by decide +kernel
theorem d_X_way_31 : decode b_X_way 31 = .ok (.new 79, 3) := by decide +kernel
theorem d_X_way_34 : decode b_X_way 34 = .ok (.dup, 1) := by decide +kernel
theorem d_X_way_35 : decode b_X_way 35 = .ok (.ldc 129, 2) := by decide +kernel
theorem d_X_way_37 : decode b_X_way 37 = .ok (.invokespecial 83, 3) := by decide +kernel
theorem d_X_way_40 : decode b_X_way 40 = .ok (.athrow, 1) := by decide +kernel
theorem d_X_way_41 : decode b_X_way 41 = .ok (.aload_n 0, 1) := by decide +kernel
theorem d_X_way_42 : decode b_X_way 42 = .ok (.getfield 20, 3) := by decide +kernel
theorem d_X_way_45 : decode b_X_way 45 = .ok (.getfield 131, 3) := by decide +kernel
theorem d_X_way_48 : decode b_X_way 48 = .ok (.aload_n 0, 1) := by decide +kernel
theorem d_X_way_49 : decode b_X_way 49 = .ok (.getfield 28, 3) := by decide +kernel
theorem d_X_way_52 : decode b_X_way 52 = .ok (.aload_n 0, 1) := by decide +kernel
theorem d_X_way_53 : decode b_X_way 53 = .ok (.getfield 20, 3) := by decide +kernel
theorem d_X_way_56 : decode b_X_way 56 = .ok (.getfield 109, 3) := by decide +kernel
theorem d_X_way_59 : decode b_X_way 59 = .ok (.iload_n 1, 1) := by decide +kernel
theorem d_X_way_60 : decode b_X_way 60 = .ok (.iload_n 2, 1) := by decide +kernel
theorem d_X_way_61 : decode b_X_way 61 = .ok (.invokevirtual 135, 3) := by decide +kernel
theorem d_X_way_64 : decode b_X_way 64 = .ok (.ireturn, 1) := by decide +kernel
abbrev b_X_worker : ByteArray := prog_1_method_10_code
def y_X_worker : MethodName := ⟨"ExploreShares", "worker", "(II)I"⟩
def w_X_worker : List Cond := .code y_X_worker b_X_worker 3 (some .int) :: xU
theorem d_X_worker_0 : decode b_X_worker 0 = .ok (.aload_n 0, 1) := by decide +kernel
theorem d_X_worker_1 : decode b_X_worker 1 = .ok (.getfield 38, 3) := by decide +kernel
theorem d_X_worker_4 : decode b_X_worker 4 = .ok (.iload_n 1, 1) := by decide +kernel
theorem d_X_worker_5 : decode b_X_worker 5 = .ok (.invokevirtual 76, 3) := by decide +kernel
theorem d_X_worker_8 : decode b_X_worker 8 = .ok (.ifCond .ne 13, 3) := by decide +kernel
theorem d_X_worker_11 : decode b_X_worker 11 = .ok (.new 79, 3) := by decide +kernel
theorem d_X_worker_14 : decode b_X_worker 14 = .ok (.dup, 1) := by decide +kernel
theorem d_X_worker_15 : decode b_X_worker 15 = .ok (.ldc 81, 2) := by decide +kernel
theorem d_X_worker_17 : decode b_X_worker 17 = .ok (.invokespecial 83, 3) := by decide +kernel
theorem d_X_worker_20 : decode b_X_worker 20 = .ok (.athrow, 1) := by decide +kernel
theorem d_X_worker_21 : decode b_X_worker 21 = .ok (.iload_n 2, 1) := by decide +kernel
theorem d_X_worker_22 : decode b_X_worker 22 = .ok (.tableswitch 107 0 4 #[34, 44, 54, 64, 89], 34) := by decide +kernel
theorem d_X_worker_56 : decode b_X_worker 56 = .ok (.aload_n 0, 1) := by decide +kernel
theorem d_X_worker_57 : decode b_X_worker 57 = .ok (.getfield 38, 3) := by decide +kernel
theorem d_X_worker_60 : decode b_X_worker 60 = .ok (.getfield 141, 3) := by decide +kernel
theorem d_X_worker_63 : decode b_X_worker 63 = .ok (.iload_n 1, 1) := by decide +kernel
theorem d_X_worker_64 : decode b_X_worker 64 = .ok (.iaload, 1) := by decide +kernel
theorem d_X_worker_65 : decode b_X_worker 65 = .ok (.ireturn, 1) := by decide +kernel
theorem d_X_worker_66 : decode b_X_worker 66 = .ok (.aload_n 0, 1) := by decide +kernel
theorem d_X_worker_67 : decode b_X_worker 67 = .ok (.getfield 38, 3) := by decide +kernel
theorem d_X_worker_70 : decode b_X_worker 70 = .ok (.getfield 144, 3) := by decide +kernel
theorem d_X_worker_73 : decode b_X_worker 73 = .ok (.iload_n 1, 1) := by decide +kernel
theorem d_X_worker_74 : decode b_X_worker 74 = .ok (.iaload, 1) := by decide +kernel
theorem d_X_worker_75 : decode b_X_worker 75 = .ok (.ireturn, 1) := by decide +kernel
theorem d_X_worker_76 : decode b_X_worker 76 = .ok (.aload_n 0, 1) := by decide +kernel
theorem d_X_worker_77 : decode b_X_worker 77 = .ok (.getfield 38, 3) := by decide +kernel
theorem d_X_worker_80 : decode b_X_worker 80 = .ok (.getfield 147, 3) := by decide +kernel
theorem d_X_worker_83 : decode b_X_worker 83 = .ok (.iload_n 1, 1) := by decide +kernel
theorem d_X_worker_84 : decode b_X_worker 84 = .ok (.iaload, 1) := by decide +kernel
theorem d_X_worker_85 : decode b_X_worker 85 = .ok (.ireturn, 1) := by decide +kernel
theorem d_X_worker_86 : decode b_X_worker 86 = .ok (.aload_n 0, 1) := by decide +kernel
theorem d_X_worker_87 : decode b_X_worker 87 = .ok (.getfield 38, 3) := by decide +kernel
theorem d_X_worker_90 : decode b_X_worker 90 = .ok (.getfield 150, 3) := by decide +kernel
theorem d_X_worker_93 : decode b_X_worker 93 = .ok (.iload_n 1, 1) := by decide +kernel
theorem d_X_worker_94 : decode b_X_worker 94 = .ok (.baload, 1) := by decide +kernel
theorem d_X_worker_95 : decode b_X_worker 95 = .ok (.ifCond .eq 14, 3) := by decide +kernel
theorem d_X_worker_98 : decode b_X_worker 98 = .ok (.aload_n 0, 1) := by decide +kernel
theorem d_X_worker_99 : decode b_X_worker 99 = .ok (.getfield 20, 3) := by decide +kernel
theorem d_X_worker_102 : decode b_X_worker 102 = .ok (.iload_n 1, 1) := by decide +kernel
theorem d_X_worker_103 : decode b_X_worker 103 = .ok (.invokevirtual 154, 3) := by decide +kernel
theorem d_X_worker_106 : decode b_X_worker 106 = .ok (.goto 4, 3) := by decide +kernel
theorem d_X_worker_109 : decode b_X_worker 109 = .ok (.iconst (-1), 1) := by decide +kernel
theorem d_X_worker_110 : decode b_X_worker 110 = .ok (.ireturn, 1) := by decide +kernel
theorem d_X_worker_111 : decode b_X_worker 111 = .ok (.aload_n 0, 1) := by decide +kernel
theorem d_X_worker_112 : decode b_X_worker 112 = .ok (.getfield 38, 3) := by decide +kernel
theorem d_X_worker_115 : decode b_X_worker 115 = .ok (.getfield 150, 3) := by decide +kernel
theorem d_X_worker_118 : decode b_X_worker 118 = .ok (.iload_n 1, 1) := by decide +kernel
theorem d_X_worker_119 : decode b_X_worker 119 = .ok (.baload, 1) := by decide +kernel
theorem d_X_worker_120 : decode b_X_worker 120 = .ok (.ifCond .eq 7, 3) := by decide +kernel
theorem d_X_worker_123 : decode b_X_worker 123 = .ok (.iconst 1, 1) := by decide +kernel
theorem d_X_worker_124 : decode b_X_worker 124 = .ok (.goto 4, 3) := by decide +kernel
theorem d_X_worker_127 : decode b_X_worker 127 = .ok (.iconst 0, 1) := by decide +kernel
theorem d_X_worker_128 : decode b_X_worker 128 = .ok (.ireturn, 1) := by decide +kernel
theorem d_X_worker_129 : decode b_X_worker 129 = .ok (.new 79, 3) := by decide +kernel
theorem d_X_worker_132 : decode b_X_worker 132 = .ok (.dup, 1) := by decide +kernel
theorem d_X_worker_133 : decode b_X_worker 133 = .ok (.ldc 157, 2) := by decide +kernel
theorem d_X_worker_135 : decode b_X_worker 135 = .ok (.invokespecial 83, 3) := by decide +kernel
theorem d_X_worker_138 : decode b_X_worker 138 = .ok (.athrow, 1) := by decide +kernel
