abbrev b_LE_emptySets : ByteArray := prog_5_method_3_code
def y_LE_emptySets : MethodName := ⟨"ExploreShares$Levels", "emptySets", "()V"⟩
def w_LE_emptySets : List Cond := .code y_LE_emptySets b_LE_emptySets 1 (none) :: xU
theorem d_LE_emptySets_0 : decode b_LE_emptySets 0 = .ok (.aload_n 0, 1) := by decide +kernel
theorem d_LE_emptySets_1 : decode b_LE_emptySets 1 = .ok (.getfield 21, 3) := by decide +kernel
theorem d_LE_emptySets_4 : decode b_LE_emptySets 4 = .ok (.iconst 0, 1) := by decide +kernel
theorem d_LE_emptySets_5 : decode b_LE_emptySets 5 = .ok (.invokestatic 38, 3) := by decide +kernel
theorem d_LE_emptySets_8 : decode b_LE_emptySets 8 = .ok (.return_, 1) := by decide +kernel
abbrev b_LE_startAnew : ByteArray := prog_5_method_2_code
def y_LE_startAnew : MethodName := ⟨"ExploreShares$Levels", "startAnew", "()V"⟩
def w_LE_startAnew : List Cond := .code y_LE_startAnew b_LE_startAnew 1 (none) :: xU
theorem d_LE_startAnew_0 : decode b_LE_startAnew 0 = .ok (.aload_n 0, 1) := by decide +kernel
theorem d_LE_startAnew_1 : decode b_LE_startAnew 1 = .ok (.getfield 9, 3) := by decide +kernel
theorem d_LE_startAnew_4 : decode b_LE_startAnew 4 = .ok (.iconst (-1), 1) := by decide +kernel
theorem d_LE_startAnew_5 : decode b_LE_startAnew 5 = .ok (.invokestatic 25, 3) := by decide +kernel
theorem d_LE_startAnew_8 : decode b_LE_startAnew 8 = .ok (.aload_n 0, 1) := by decide +kernel
theorem d_LE_startAnew_9 : decode b_LE_startAnew 9 = .ok (.iconst 0, 1) := by decide +kernel
theorem d_LE_startAnew_10 : decode b_LE_startAnew 10 = .ok (.putfield 31, 3) := by decide +kernel
theorem d_LE_startAnew_13 : decode b_LE_startAnew 13 = .ok (.aload_n 0, 1) := by decide +kernel
theorem d_LE_startAnew_14 : decode b_LE_startAnew 14 = .ok (.invokevirtual 35, 3) := by decide +kernel
theorem d_LE_startAnew_17 : decode b_LE_startAnew 17 = .ok (.return_, 1) := by decide +kernel
abbrev b_LE_cameInAll : ByteArray := prog_5_method_4_code
def y_LE_cameInAll : MethodName := ⟨"ExploreShares$Levels", "cameInAll", "()I"⟩
def w_LE_cameInAll : List Cond := .code y_LE_cameInAll b_LE_cameInAll 1 (some .int) :: xU
theorem d_LE_cameInAll_0 : decode b_LE_cameInAll 0 = .ok (.aload_n 0, 1) := by decide +kernel
theorem d_LE_cameInAll_1 : decode b_LE_cameInAll 1 = .ok (.getfield 18, 3) := by decide +kernel
theorem d_LE_cameInAll_4 : decode b_LE_cameInAll 4 = .ok (.aload_n 0, 1) := by decide +kernel
theorem d_LE_cameInAll_5 : decode b_LE_cameInAll 5 = .ok (.getfield 31, 3) := by decide +kernel
theorem d_LE_cameInAll_8 : decode b_LE_cameInAll 8 = .ok (.iaload, 1) := by decide +kernel
theorem d_LE_cameInAll_9 : decode b_LE_cameInAll 9 = .ok (.ireturn, 1) := by decide +kernel
abbrev b_LE_init : ByteArray := prog_5_method_1_code
def y_LE_init : MethodName := ⟨"ExploreShares$Levels", "<init>", "()V"⟩
def w_LE_init : List Cond := .code y_LE_init b_LE_init 1 (none) :: xU
theorem d_LE_init_0 : decode b_LE_init 0 = .ok (.aload_n 0, 1) := by decide +kernel
theorem d_LE_init_1 : decode b_LE_init 1 = .ok (.invokespecial 3, 3) := by decide +kernel
theorem d_LE_init_4 : decode b_LE_init 4 = .ok (.aload_n 0, 1) := by decide +kernel
theorem d_LE_init_5 : decode b_LE_init 5 = .ok (.sipush 200, 3) := by decide +kernel
theorem d_LE_init_8 : decode b_LE_init 8 = .ok (.newarray .int, 2) := by decide +kernel
theorem d_LE_init_10 : decode b_LE_init 10 = .ok (.putfield 9, 3) := by decide +kernel
theorem d_LE_init_13 : decode b_LE_init 13 = .ok (.aload_n 0, 1) := by decide +kernel
theorem d_LE_init_14 : decode b_LE_init 14 = .ok (.sipush 200, 3) := by decide +kernel
theorem d_LE_init_17 : decode b_LE_init 17 = .ok (.newarray .int, 2) := by decide +kernel
theorem d_LE_init_19 : decode b_LE_init 19 = .ok (.putfield 15, 3) := by decide +kernel
theorem d_LE_init_22 : decode b_LE_init 22 = .ok (.aload_n 0, 1) := by decide +kernel
theorem d_LE_init_23 : decode b_LE_init 23 = .ok (.sipush 201, 3) := by decide +kernel
theorem d_LE_init_26 : decode b_LE_init 26 = .ok (.newarray .int, 2) := by decide +kernel
theorem d_LE_init_28 : decode b_LE_init 28 = .ok (.putfield 18, 3) := by decide +kernel
theorem d_LE_init_31 : decode b_LE_init 31 = .ok (.aload_n 0, 1) := by decide +kernel
theorem d_LE_init_32 : decode b_LE_init 32 = .ok (.sipush 200, 3) := by decide +kernel
theorem d_LE_init_35 : decode b_LE_init 35 = .ok (.newarray .boolean, 2) := by decide +kernel
theorem d_LE_init_37 : decode b_LE_init 37 = .ok (.putfield 21, 3) := by decide +kernel
theorem d_LE_init_40 : decode b_LE_init 40 = .ok (.aload_n 0, 1) := by decide +kernel
theorem d_LE_init_41 : decode b_LE_init 41 = .ok (.getfield 9, 3) := by decide +kernel
theorem d_LE_init_44 : decode b_LE_init 44 = .ok (.iconst (-1), 1) := by decide +kernel
theorem d_LE_init_45 : decode b_LE_init 45 = .ok (.invokestatic 25, 3) := by decide +kernel
theorem d_LE_init_48 : decode b_LE_init 48 = .ok (.return_, 1) := by decide +kernel
