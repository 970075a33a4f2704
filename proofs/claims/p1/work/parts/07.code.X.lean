abbrev b_X_oneOf : ByteArray := prog_1_method_15_code
def y_X_oneOf : MethodName := ⟨"ExploreShares", "oneOf", "(II)I"⟩
def w_X_oneOf : List Cond := .code y_X_oneOf b_X_oneOf 2 (some .int) :: xU
theorem d_X_oneOf_0 : decode b_X_oneOf 0 = .ok (.iload_n 0, 1) := by decide +kernel
theorem d_X_oneOf_1 : decode b_X_oneOf 1 = .ok (.ifCond .le 12, 3) := by decide +kernel
theorem d_X_oneOf_4 : decode b_X_oneOf 4 = .ok (.iload_n 1, 1) := by decide +kernel
theorem d_X_oneOf_5 : decode b_X_oneOf 5 = .ok (.ldc 211, 2) := by decide +kernel
theorem d_X_oneOf_7 : decode b_X_oneOf 7 = .ok (.idiv, 1) := by decide +kernel
theorem d_X_oneOf_8 : decode b_X_oneOf 8 = .ok (.iload_n 0, 1) := by decide +kernel
theorem d_X_oneOf_9 : decode b_X_oneOf 9 = .ok (.irem, 1) := by decide +kernel
theorem d_X_oneOf_10 : decode b_X_oneOf 10 = .ok (.goto 4, 3) := by decide +kernel
theorem d_X_oneOf_14 : decode b_X_oneOf 14 = .ok (.ireturn, 1) := by decide +kernel
abbrev b_X_fillFlags : ByteArray := prog_1_method_16_code
def y_X_fillFlags : MethodName := ⟨"ExploreShares", "fillFlags", "([ZZ)V"⟩
def w_X_fillFlags : List Cond := .code y_X_fillFlags b_X_fillFlags 3 (none) :: xU
theorem d_X_fillFlags_0 : decode b_X_fillFlags 0 = .ok (.iconst 0, 1) := by decide +kernel
theorem d_X_fillFlags_1 : decode b_X_fillFlags 1 = .ok (.istore_n 2, 1) := by decide +kernel
theorem d_X_fillFlags_2 : decode b_X_fillFlags 2 = .ok (.iload_n 2, 1) := by decide +kernel
theorem d_X_fillFlags_3 : decode b_X_fillFlags 3 = .ok (.aload_n 0, 1) := by decide +kernel
theorem d_X_fillFlags_4 : decode b_X_fillFlags 4 = .ok (.arraylength, 1) := by decide +kernel
theorem d_X_fillFlags_5 : decode b_X_fillFlags 5 = .ok (.if_icmp .ge 13, 3) := by decide +kernel
theorem d_X_fillFlags_8 : decode b_X_fillFlags 8 = .ok (.aload_n 0, 1) := by decide +kernel
theorem d_X_fillFlags_9 : decode b_X_fillFlags 9 = .ok (.iload_n 2, 1) := by decide +kernel
theorem d_X_fillFlags_10 : decode b_X_fillFlags 10 = .ok (.iload_n 1, 1) := by decide +kernel
theorem d_X_fillFlags_11 : decode b_X_fillFlags 11 = .ok (.bastore, 1) := by decide +kernel
theorem d_X_fillFlags_12 : decode b_X_fillFlags 12 = .ok (.iinc 2 1, 3) := by decide +kernel
theorem d_X_fillFlags_15 : decode b_X_fillFlags 15 = .ok (.goto (-13), 3) := by decide +kernel
theorem d_X_fillFlags_18 : decode b_X_fillFlags 18 = .ok (.return_, 1) := by decide +kernel
abbrev b_X_numberBehind : ByteArray := prog_1_method_14_code
def y_X_numberBehind : MethodName := ⟨"ExploreShares", "numberBehind", "(I)I"⟩
def w_X_numberBehind : List Cond := .code y_X_numberBehind b_X_numberBehind 1 (some .int) :: xU
theorem d_X_numberBehind_0 : decode b_X_numberBehind 0 = .ok (.ldc 209, 2) := by decide +kernel
theorem d_X_numberBehind_2 : decode b_X_numberBehind 2 = .ok (.iload_n 0, 1) := by decide +kernel
theorem d_X_numberBehind_3 : decode b_X_numberBehind 3 = .ok (.imul, 1) := by decide +kernel
theorem d_X_numberBehind_4 : decode b_X_numberBehind 4 = .ok (.sipush 12345, 3) := by decide +kernel
theorem d_X_numberBehind_7 : decode b_X_numberBehind 7 = .ok (.iadd, 1) := by decide +kernel
theorem d_X_numberBehind_8 : decode b_X_numberBehind 8 = .ok (.ldc 210, 2) := by decide +kernel
theorem d_X_numberBehind_10 : decode b_X_numberBehind 10 = .ok (.iand, 1) := by decide +kernel
theorem d_X_numberBehind_11 : decode b_X_numberBehind 11 = .ok (.ireturn, 1) := by decide +kernel
abbrev b_X_init : ByteArray := prog_1_method_1_code
def y_X_init : MethodName := ⟨"ExploreShares", "<init>", "(II)V"⟩
def w_X_init : List Cond := .code y_X_init b_X_init 3 (none) :: xU
theorem d_X_init_0 : decode b_X_init 0 = .ok (.aload_n 0, 1) := by decide +kernel
theorem d_X_init_1 : decode b_X_init 1 = .ok (.invokespecial 1, 3) := by decide +kernel
theorem d_X_init_4 : decode b_X_init 4 = .ok (.aload_n 0, 1) := by decide +kernel
theorem d_X_init_5 : decode b_X_init 5 = .ok (.new 7, 3) := by decide +kernel
theorem d_X_init_8 : decode b_X_init 8 = .ok (.dup, 1) := by decide +kernel
theorem d_X_init_9 : decode b_X_init 9 = .ok (.iconst 1, 1) := by decide +kernel
theorem d_X_init_10 : decode b_X_init 10 = .ok (.iload_n 1, 1) := by decide +kernel
theorem d_X_init_11 : decode b_X_init 11 = .ok (.iconst 1, 1) := by decide +kernel
theorem d_X_init_12 : decode b_X_init 12 = .ok (.isub, 1) := by decide +kernel
theorem d_X_init_13 : decode b_X_init 13 = .ok (.bipush 16, 2) := by decide +kernel
theorem d_X_init_15 : decode b_X_init 15 = .ok (.invokestatic 11, 3) := by decide +kernel
theorem d_X_init_18 : decode b_X_init 18 = .ok (.iadd, 1) := by decide +kernel
theorem d_X_init_19 : decode b_X_init 19 = .ok (.iconst 1, 1) := by decide +kernel
theorem d_X_init_20 : decode b_X_init 20 = .ok (.iload_n 2, 1) := by decide +kernel
theorem d_X_init_21 : decode b_X_init 21 = .ok (.iconst 1, 1) := by decide +kernel
theorem d_X_init_22 : decode b_X_init 22 = .ok (.isub, 1) := by decide +kernel
theorem d_X_init_23 : decode b_X_init 23 = .ok (.bipush 8, 2) := by decide +kernel
theorem d_X_init_25 : decode b_X_init 25 = .ok (.invokestatic 11, 3) := by decide +kernel
theorem d_X_init_28 : decode b_X_init 28 = .ok (.iadd, 1) := by decide +kernel
theorem d_X_init_29 : decode b_X_init 29 = .ok (.invokespecial 17, 3) := by decide +kernel
theorem d_X_init_32 : decode b_X_init 32 = .ok (.putfield 20, 3) := by decide +kernel
theorem d_X_init_35 : decode b_X_init 35 = .ok (.aload_n 0, 1) := by decide +kernel
theorem d_X_init_36 : decode b_X_init 36 = .ok (.aload_n 0, 1) := by decide +kernel
theorem d_X_init_37 : decode b_X_init 37 = .ok (.getfield 20, 3) := by decide +kernel
theorem d_X_init_40 : decode b_X_init 40 = .ok (.getfield 24, 3) := by decide +kernel
theorem d_X_init_43 : decode b_X_init 43 = .ok (.putfield 28, 3) := by decide +kernel
theorem d_X_init_46 : decode b_X_init 46 = .ok (.aload_n 0, 1) := by decide +kernel
theorem d_X_init_47 : decode b_X_init 47 = .ok (.aload_n 0, 1) := by decide +kernel
theorem d_X_init_48 : decode b_X_init 48 = .ok (.getfield 20, 3) := by decide +kernel
theorem d_X_init_51 : decode b_X_init 51 = .ok (.getfield 29, 3) := by decide +kernel
theorem d_X_init_54 : decode b_X_init 54 = .ok (.putfield 33, 3) := by decide +kernel
theorem d_X_init_57 : decode b_X_init 57 = .ok (.aload_n 0, 1) := by decide +kernel
theorem d_X_init_58 : decode b_X_init 58 = .ok (.aload_n 0, 1) := by decide +kernel
theorem d_X_init_59 : decode b_X_init 59 = .ok (.getfield 20, 3) := by decide +kernel
theorem d_X_init_62 : decode b_X_init 62 = .ok (.getfield 34, 3) := by decide +kernel
theorem d_X_init_65 : decode b_X_init 65 = .ok (.putfield 38, 3) := by decide +kernel
theorem d_X_init_68 : decode b_X_init 68 = .ok (.return_, 1) := by decide +kernel
