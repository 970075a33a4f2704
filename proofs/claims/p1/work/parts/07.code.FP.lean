abbrev b_FP_placeOf : ByteArray := prog_4_method_2_code
def y_FP_placeOf : MethodName := ⟨"ExploreShares$FailPlan", "placeOf", "(II)I"⟩
def w_FP_placeOf : List Cond := .code y_FP_placeOf b_FP_placeOf 4 (some .int) :: xU
theorem d_FP_placeOf_0 : decode b_FP_placeOf 0 = .ok (.iconst 0, 1) := by decide +kernel
theorem d_FP_placeOf_1 : decode b_FP_placeOf 1 = .ok (.istore_n 3, 1) := by decide +kernel
theorem d_FP_placeOf_2 : decode b_FP_placeOf 2 = .ok (.iload_n 3, 1) := by decide +kernel
theorem d_FP_placeOf_3 : decode b_FP_placeOf 3 = .ok (.aload_n 0, 1) := by decide +kernel
theorem d_FP_placeOf_4 : decode b_FP_placeOf 4 = .ok (.getfield 21, 3) := by decide +kernel
theorem d_FP_placeOf_7 : decode b_FP_placeOf 7 = .ok (.if_icmp .ge 31, 3) := by decide +kernel
theorem d_FP_placeOf_38 : decode b_FP_placeOf 38 = .ok (.iconst (-1), 1) := by decide +kernel
theorem d_FP_placeOf_39 : decode b_FP_placeOf 39 = .ok (.ireturn, 1) := by decide +kernel
abbrev b_FP_tell : ByteArray := prog_4_method_3_code
def y_FP_tell : MethodName := ⟨"ExploreShares$FailPlan", "tell", "(III)V"⟩
def w_FP_tell : List Cond := .code y_FP_tell b_FP_tell 5 (none) :: xU
theorem d_FP_tell_0 : decode b_FP_tell 0 = .ok (.aload_n 0, 1) := by decide +kernel
theorem d_FP_tell_1 : decode b_FP_tell 1 = .ok (.iload_n 1, 1) := by decide +kernel
theorem d_FP_tell_2 : decode b_FP_tell 2 = .ok (.iload_n 2, 1) := by decide +kernel
theorem d_FP_tell_3 : decode b_FP_tell 3 = .ok (.invokevirtual 25, 3) := by decide +kernel
theorem d_FP_tell_6 : decode b_FP_tell 6 = .ok (.istore 4, 2) := by decide +kernel
theorem d_FP_tell_8 : decode b_FP_tell 8 = .ok (.iload 4, 2) := by decide +kernel
theorem d_FP_tell_10 : decode b_FP_tell 10 = .ok (.iconst (-1), 1) := by decide +kernel
theorem d_FP_tell_11 : decode b_FP_tell 11 = .ok (.if_icmp .eq 16, 3) := by decide +kernel
theorem d_FP_tell_27 : decode b_FP_tell 27 = .ok (.iload 4, 2) := by decide +kernel
theorem d_FP_tell_29 : decode b_FP_tell 29 = .ok (.iconst (-1), 1) := by decide +kernel
theorem d_FP_tell_30 : decode b_FP_tell 30 = .ok (.if_icmp .eq 14, 3) := by decide +kernel
theorem d_FP_tell_44 : decode b_FP_tell 44 = .ok (.iload_n 3, 1) := by decide +kernel
theorem d_FP_tell_45 : decode b_FP_tell 45 = .ok (.ifCond .eq 52, 3) := by decide +kernel
theorem d_FP_tell_48 : decode b_FP_tell 48 = .ok (.aload_n 0, 1) := by decide +kernel
theorem d_FP_tell_49 : decode b_FP_tell 49 = .ok (.getfield 21, 3) := by decide +kernel
theorem d_FP_tell_52 : decode b_FP_tell 52 = .ok (.bipush 20, 2) := by decide +kernel
theorem d_FP_tell_54 : decode b_FP_tell 54 = .ok (.if_icmp .ge 43, 3) := by decide +kernel
theorem d_FP_tell_57 : decode b_FP_tell 57 = .ok (.aload_n 0, 1) := by decide +kernel
theorem d_FP_tell_58 : decode b_FP_tell 58 = .ok (.getfield 9, 3) := by decide +kernel
theorem d_FP_tell_61 : decode b_FP_tell 61 = .ok (.aload_n 0, 1) := by decide +kernel
theorem d_FP_tell_62 : decode b_FP_tell 62 = .ok (.getfield 21, 3) := by decide +kernel
theorem d_FP_tell_65 : decode b_FP_tell 65 = .ok (.iload_n 1, 1) := by decide +kernel
theorem d_FP_tell_66 : decode b_FP_tell 66 = .ok (.iastore, 1) := by decide +kernel
theorem d_FP_tell_67 : decode b_FP_tell 67 = .ok (.aload_n 0, 1) := by decide +kernel
theorem d_FP_tell_68 : decode b_FP_tell 68 = .ok (.getfield 15, 3) := by decide +kernel
theorem d_FP_tell_71 : decode b_FP_tell 71 = .ok (.aload_n 0, 1) := by decide +kernel
theorem d_FP_tell_72 : decode b_FP_tell 72 = .ok (.getfield 21, 3) := by decide +kernel
theorem d_FP_tell_75 : decode b_FP_tell 75 = .ok (.iload_n 2, 1) := by decide +kernel
theorem d_FP_tell_76 : decode b_FP_tell 76 = .ok (.iastore, 1) := by decide +kernel
theorem d_FP_tell_77 : decode b_FP_tell 77 = .ok (.aload_n 0, 1) := by decide +kernel
theorem d_FP_tell_78 : decode b_FP_tell 78 = .ok (.getfield 18, 3) := by decide +kernel
theorem d_FP_tell_81 : decode b_FP_tell 81 = .ok (.aload_n 0, 1) := by decide +kernel
theorem d_FP_tell_82 : decode b_FP_tell 82 = .ok (.getfield 21, 3) := by decide +kernel
theorem d_FP_tell_85 : decode b_FP_tell 85 = .ok (.iload_n 3, 1) := by decide +kernel
theorem d_FP_tell_86 : decode b_FP_tell 86 = .ok (.iastore, 1) := by decide +kernel
theorem d_FP_tell_87 : decode b_FP_tell 87 = .ok (.aload_n 0, 1) := by decide +kernel
theorem d_FP_tell_88 : decode b_FP_tell 88 = .ok (.dup, 1) := by decide +kernel
theorem d_FP_tell_89 : decode b_FP_tell 89 = .ok (.getfield 21, 3) := by decide +kernel
theorem d_FP_tell_92 : decode b_FP_tell 92 = .ok (.iconst 1, 1) := by decide +kernel
theorem d_FP_tell_93 : decode b_FP_tell 93 = .ok (.iadd, 1) := by decide +kernel
theorem d_FP_tell_94 : decode b_FP_tell 94 = .ok (.putfield 21, 3) := by decide +kernel
theorem d_FP_tell_97 : decode b_FP_tell 97 = .ok (.return_, 1) := by decide +kernel
abbrev b_FP_init : ByteArray := prog_4_method_1_code
def y_FP_init : MethodName := ⟨"ExploreShares$FailPlan", "<init>", "()V"⟩
def w_FP_init : List Cond := .code y_FP_init b_FP_init 1 (none) :: xU
theorem d_FP_init_0 : decode b_FP_init 0 = .ok (.aload_n 0, 1) := by decide +kernel
theorem d_FP_init_1 : decode b_FP_init 1 = .ok (.invokespecial 3, 3) := by decide +kernel
theorem d_FP_init_4 : decode b_FP_init 4 = .ok (.aload_n 0, 1) := by decide +kernel
theorem d_FP_init_5 : decode b_FP_init 5 = .ok (.bipush 20, 2) := by decide +kernel
theorem d_FP_init_7 : decode b_FP_init 7 = .ok (.newarray .int, 2) := by decide +kernel
theorem d_FP_init_9 : decode b_FP_init 9 = .ok (.putfield 9, 3) := by decide +kernel
theorem d_FP_init_12 : decode b_FP_init 12 = .ok (.aload_n 0, 1) := by decide +kernel
theorem d_FP_init_13 : decode b_FP_init 13 = .ok (.bipush 20, 2) := by decide +kernel
theorem d_FP_init_15 : decode b_FP_init 15 = .ok (.newarray .int, 2) := by decide +kernel
theorem d_FP_init_17 : decode b_FP_init 17 = .ok (.putfield 15, 3) := by decide +kernel
theorem d_FP_init_20 : decode b_FP_init 20 = .ok (.aload_n 0, 1) := by decide +kernel
theorem d_FP_init_21 : decode b_FP_init 21 = .ok (.bipush 20, 2) := by decide +kernel
theorem d_FP_init_23 : decode b_FP_init 23 = .ok (.newarray .int, 2) := by decide +kernel
theorem d_FP_init_25 : decode b_FP_init 25 = .ok (.putfield 18, 3) := by decide +kernel
theorem d_FP_init_28 : decode b_FP_init 28 = .ok (.return_, 1) := by decide +kernel
