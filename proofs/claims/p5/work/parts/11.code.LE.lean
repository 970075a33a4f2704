abbrev b_LE_init : ByteArray := prog_5_method_1_code
def y_LE_init : MethodName := ⟨"ExploreShares$Levels", "<init>", "()V"⟩
def w_LE_init : List Cond := .code y_LE_init b_LE_init 1 (none) :: xU
theorem d_LE_init_0 : decode b_LE_init 0 = .ok (.aload_n 0, 1) := by decide +kernel
theorem d_LE_init_1 : decode b_LE_init 1 = .ok (.invokespecial 3, 3) := by decide +kernel
theorem d_LE_init_4 : decode b_LE_init 4 = .ok (.aload_n 0, 1) := by decide +kernel
theorem d_LE_init_5 : decode b_LE_init 5 = .ok (.sipush 200, 3) := by decide +kernel
theorem d_LE_init_8 : decode b_LE_init 8 = .ok (.newarray .int, 2) := by decide +kernel
theorem d_LE_init_10 : decode b_LE_init 10 = .ok (.putfield 9, 3) := by decide +kernel
theorem d_LE_init_13 : decode b_LE_init 13 = .ok (.aload_n 0, 1) := by decide +kernel
theorem d_LE_init_14 : decode b_LE_init 14 = .ok (.sipush 200, 3) := by decide +kernel
theorem d_LE_init_17 : decode b_LE_init 17 = .ok (.newarray .int, 2) := by decide +kernel
theorem d_LE_init_19 : decode b_LE_init 19 = .ok (.putfield 15, 3) := by decide +kernel
theorem d_LE_init_22 : decode b_LE_init 22 = .ok (.aload_n 0, 1) := by decide +kernel
theorem d_LE_init_23 : decode b_LE_init 23 = .ok (.sipush 201, 3) := by decide +kernel
theorem d_LE_init_26 : decode b_LE_init 26 = .ok (.newarray .int, 2) := by decide +kernel
theorem d_LE_init_28 : decode b_LE_init 28 = .ok (.putfield 18, 3) := by decide +kernel
theorem d_LE_init_31 : decode b_LE_init 31 = .ok (.aload_n 0, 1) := by decide +kernel
theorem d_LE_init_32 : decode b_LE_init 32 = .ok (.sipush 200, 3) := by decide +kernel
theorem d_LE_init_35 : decode b_LE_init 35 = .ok (.newarray .boolean, 2) := by decide +kernel
theorem d_LE_init_37 : decode b_LE_init 37 = .ok (.putfield 21, 3) := by decide +kernel
theorem d_LE_init_40 : decode b_LE_init 40 = .ok (.aload_n 0, 1) := by decide +kernel
theorem d_LE_init_41 : decode b_LE_init 41 = .ok (.getfield 9, 3) := by decide +kernel
theorem d_LE_init_44 : decode b_LE_init 44 = .ok (.iconst (-1), 1) := by decide +kernel
theorem d_LE_init_45 : decode b_LE_init 45 = .ok (.invokestatic 25, 3) := by decide +kernel
theorem d_LE_init_48 : decode b_LE_init 48 = .ok (.return_, 1) := by decide +kernel
abbrev b_LE_cameInAll : ByteArray := prog_5_method_4_code
def y_LE_cameInAll : MethodName := ⟨"ExploreShares$Levels", "cameInAll", "()I"⟩
def w_LE_cameInAll : List Cond := .code y_LE_cameInAll b_LE_cameInAll 1 (some .int) :: xU
theorem d_LE_cameInAll_0 : decode b_LE_cameInAll 0 = .ok (.aload_n 0, 1) := by decide +kernel
theorem d_LE_cameInAll_1 : decode b_LE_cameInAll 1 = .ok (.getfield 18, 3) := by decide +kernel
theorem d_LE_cameInAll_4 : decode b_LE_cameInAll 4 = .ok (.aload_n 0, 1) := by decide +kernel
theorem d_LE_cameInAll_5 : decode b_LE_cameInAll 5 = .ok (.getfield 31, 3) := by decide +kernel
theorem d_LE_cameInAll_8 : decode b_LE_cameInAll 8 = .ok (.iaload, 1) := by decide +kernel
theorem d_LE_cameInAll_9 : decode b_LE_cameInAll 9 = .ok (.ireturn, 1) := by decide +kernel
abbrev b_LE_closeLevel : ByteArray := prog_5_method_6_code
def y_LE_closeLevel : MethodName := ⟨"ExploreShares$Levels", "closeLevel", "(I)V"⟩
def w_LE_closeLevel : List Cond := .code y_LE_closeLevel b_LE_closeLevel 4 (none) :: xU
theorem d_LE_closeLevel_0 : decode b_LE_closeLevel 0 = .ok (.aload_n 0, 1) := by decide +kernel
theorem d_LE_closeLevel_1 : decode b_LE_closeLevel 1 = .ok (.getfield 18, 3) := by decide +kernel
theorem d_LE_closeLevel_4 : decode b_LE_closeLevel 4 = .ok (.aload_n 0, 1) := by decide +kernel
theorem d_LE_closeLevel_5 : decode b_LE_closeLevel 5 = .ok (.getfield 31, 3) := by decide +kernel
theorem d_LE_closeLevel_8 : decode b_LE_closeLevel 8 = .ok (.iaload, 1) := by decide +kernel
theorem d_LE_closeLevel_9 : decode b_LE_closeLevel 9 = .ok (.istore_n 2, 1) := by decide +kernel
theorem d_LE_closeLevel_10 : decode b_LE_closeLevel 10 = .ok (.iconst 0, 1) := by decide +kernel
theorem d_LE_closeLevel_11 : decode b_LE_closeLevel 11 = .ok (.istore_n 3, 1) := by decide +kernel
theorem d_LE_closeLevel_12 : decode b_LE_closeLevel 12 = .ok (.iload_n 3, 1) := by decide +kernel
theorem d_LE_closeLevel_13 : decode b_LE_closeLevel 13 = .ok (.iload_n 1, 1) := by decide +kernel
theorem d_LE_closeLevel_14 : decode b_LE_closeLevel 14 = .ok (.if_icmp .ge 38, 3) := by decide +kernel
theorem d_LE_closeLevel_17 : decode b_LE_closeLevel 17 = .ok (.aload_n 0, 1) := by decide +kernel
theorem d_LE_closeLevel_18 : decode b_LE_closeLevel 18 = .ok (.getfield 21, 3) := by decide +kernel
theorem d_LE_closeLevel_21 : decode b_LE_closeLevel 21 = .ok (.iload_n 3, 1) := by decide +kernel
theorem d_LE_closeLevel_22 : decode b_LE_closeLevel 22 = .ok (.baload, 1) := by decide +kernel
theorem d_LE_closeLevel_23 : decode b_LE_closeLevel 23 = .ok (.ifCond .eq 23, 3) := by decide +kernel
theorem d_LE_closeLevel_26 : decode b_LE_closeLevel 26 = .ok (.aload_n 0, 1) := by decide +kernel
theorem d_LE_closeLevel_27 : decode b_LE_closeLevel 27 = .ok (.getfield 9, 3) := by decide +kernel
theorem d_LE_closeLevel_30 : decode b_LE_closeLevel 30 = .ok (.iload_n 3, 1) := by decide +kernel
theorem d_LE_closeLevel_31 : decode b_LE_closeLevel 31 = .ok (.aload_n 0, 1) := by decide +kernel
theorem d_LE_closeLevel_32 : decode b_LE_closeLevel 32 = .ok (.getfield 31, 3) := by decide +kernel
theorem d_LE_closeLevel_35 : decode b_LE_closeLevel 35 = .ok (.iastore, 1) := by decide +kernel
theorem d_LE_closeLevel_36 : decode b_LE_closeLevel 36 = .ok (.aload_n 0, 1) := by decide +kernel
theorem d_LE_closeLevel_37 : decode b_LE_closeLevel 37 = .ok (.getfield 15, 3) := by decide +kernel
theorem d_LE_closeLevel_40 : decode b_LE_closeLevel 40 = .ok (.iload_n 2, 1) := by decide +kernel
theorem d_LE_closeLevel_41 : decode b_LE_closeLevel 41 = .ok (.iload_n 3, 1) := by decide +kernel
theorem d_LE_closeLevel_42 : decode b_LE_closeLevel 42 = .ok (.iastore, 1) := by decide +kernel
theorem d_LE_closeLevel_43 : decode b_LE_closeLevel 43 = .ok (.iinc 2 1, 3) := by decide +kernel
theorem d_LE_closeLevel_46 : decode b_LE_closeLevel 46 = .ok (.iinc 3 1, 3) := by decide +kernel
theorem d_LE_closeLevel_49 : decode b_LE_closeLevel 49 = .ok (.goto (-37), 3) := by decide +kernel
theorem d_LE_closeLevel_52 : decode b_LE_closeLevel 52 = .ok (.iload_n 2, 1) := by decide +kernel
theorem d_LE_closeLevel_53 : decode b_LE_closeLevel 53 = .ok (.aload_n 0, 1) := by decide +kernel
theorem d_LE_closeLevel_54 : decode b_LE_closeLevel 54 = .ok (.getfield 18, 3) := by decide +kernel
theorem d_LE_closeLevel_57 : decode b_LE_closeLevel 57 = .ok (.aload_n 0, 1) := by decide +kernel
theorem d_LE_closeLevel_58 : decode b_LE_closeLevel 58 = .ok (.getfield 31, 3) := by decide +kernel
theorem d_LE_closeLevel_61 : decode b_LE_closeLevel 61 = .ok (.iaload, 1) := by decide +kernel
theorem d_LE_closeLevel_62 : decode b_LE_closeLevel 62 = .ok (.if_icmp .le 23, 3) := by decide +kernel
theorem d_LE_closeLevel_65 : decode b_LE_closeLevel 65 = .ok (.aload_n 0, 1) := by decide +kernel
theorem d_LE_closeLevel_66 : decode b_LE_closeLevel 66 = .ok (.dup, 1) := by decide +kernel
theorem d_LE_closeLevel_67 : decode b_LE_closeLevel 67 = .ok (.getfield 31, 3) := by decide +kernel
theorem d_LE_closeLevel_70 : decode b_LE_closeLevel 70 = .ok (.iconst 1, 1) := by decide +kernel
theorem d_LE_closeLevel_71 : decode b_LE_closeLevel 71 = .ok (.iadd, 1) := by decide +kernel
theorem d_LE_closeLevel_72 : decode b_LE_closeLevel 72 = .ok (.putfield 31, 3) := by decide +kernel
theorem d_LE_closeLevel_75 : decode b_LE_closeLevel 75 = .ok (.aload_n 0, 1) := by decide +kernel
theorem d_LE_closeLevel_76 : decode b_LE_closeLevel 76 = .ok (.getfield 18, 3) := by decide +kernel
theorem d_LE_closeLevel_79 : decode b_LE_closeLevel 79 = .ok (.aload_n 0, 1) := by decide +kernel
theorem d_LE_closeLevel_80 : decode b_LE_closeLevel 80 = .ok (.getfield 31, 3) := by decide +kernel
theorem d_LE_closeLevel_83 : decode b_LE_closeLevel 83 = .ok (.iload_n 2, 1) := by decide +kernel
theorem d_LE_closeLevel_84 : decode b_LE_closeLevel 84 = .ok (.iastore, 1) := by decide +kernel
theorem d_LE_closeLevel_85 : decode b_LE_closeLevel 85 = .ok (.return_, 1) := by decide +kernel
abbrev b_LE_emptySets : ByteArray := prog_5_method_3_code
def y_LE_emptySets : MethodName := ⟨"ExploreShares$Levels", "emptySets", "()V"⟩
def w_LE_emptySets : List Cond := .code y_LE_emptySets b_LE_emptySets 1 (none) :: xU
theorem d_LE_emptySets_0 : decode b_LE_emptySets 0 = .ok (.aload_n 0, 1) := by decide +kernel
theorem d_LE_emptySets_1 : decode b_LE_emptySets 1 = .ok (.getfield 21, 3) := by decide +kernel
theorem d_LE_emptySets_4 : decode b_LE_emptySets 4 = .ok (.iconst 0, 1) := by decide +kernel
theorem d_LE_emptySets_5 : decode b_LE_emptySets 5 = .ok (.invokestatic 38, 3) := by decide +kernel
theorem d_LE_emptySets_8 : decode b_LE_emptySets 8 = .ok (.return_, 1) := by decide +kernel
abbrev b_LE_putIntoSet : ByteArray := prog_5_method_5_code
def y_LE_putIntoSet : MethodName := ⟨"ExploreShares$Levels", "putIntoSet", "(I)V"⟩
def w_LE_putIntoSet : List Cond := .code y_LE_putIntoSet b_LE_putIntoSet 2 (none) :: xU
theorem d_LE_putIntoSet_0 : decode b_LE_putIntoSet 0 = .ok (.aload_n 0, 1) := by decide +kernel
theorem d_LE_putIntoSet_1 : decode b_LE_putIntoSet 1 = .ok (.getfield 9, 3) := by decide +kernel
theorem d_LE_putIntoSet_4 : decode b_LE_putIntoSet 4 = .ok (.iload_n 1, 1) := by decide +kernel
theorem d_LE_putIntoSet_5 : decode b_LE_putIntoSet 5 = .ok (.iaload, 1) := by decide +kernel
theorem d_LE_putIntoSet_6 : decode b_LE_putIntoSet 6 = .ok (.iconst (-1), 1) := by decide +kernel
theorem d_LE_putIntoSet_7 : decode b_LE_putIntoSet 7 = .ok (.if_icmp .ne 10, 3) := by decide +kernel
theorem d_LE_putIntoSet_10 : decode b_LE_putIntoSet 10 = .ok (.aload_n 0, 1) := by decide +kernel
theorem d_LE_putIntoSet_11 : decode b_LE_putIntoSet 11 = .ok (.getfield 21, 3) := by decide +kernel
theorem d_LE_putIntoSet_14 : decode b_LE_putIntoSet 14 = .ok (.iload_n 1, 1) := by decide +kernel
theorem d_LE_putIntoSet_15 : decode b_LE_putIntoSet 15 = .ok (.iconst 1, 1) := by decide +kernel
theorem d_LE_putIntoSet_16 : decode b_LE_putIntoSet 16 = .ok (.bastore, 1) := by decide +kernel
theorem d_LE_putIntoSet_17 : decode b_LE_putIntoSet 17 = .ok (.return_, 1) := by decide +kernel
abbrev b_LE_startAnew : ByteArray := prog_5_method_2_code
def y_LE_startAnew : MethodName := ⟨"ExploreShares$Levels", "startAnew", "()V"⟩
def w_LE_startAnew : List Cond := .code y_LE_startAnew b_LE_startAnew 1 (none) :: xU
theorem d_LE_startAnew_0 : decode b_LE_startAnew 0 = .ok (.aload_n 0, 1) := by decide +kernel
theorem d_LE_startAnew_1 : decode b_LE_startAnew 1 = .ok (.getfield 9, 3) := by decide +kernel
theorem d_LE_startAnew_4 : decode b_LE_startAnew 4 = .ok (.iconst (-1), 1) := by decide +kernel
theorem d_LE_startAnew_5 : decode b_LE_startAnew 5 = .ok (.invokestatic 25, 3) := by decide +kernel
theorem d_LE_startAnew_8 : decode b_LE_startAnew 8 = .ok (.aload_n 0, 1) := by decide +kernel
theorem d_LE_startAnew_9 : decode b_LE_startAnew 9 = .ok (.iconst 0, 1) := by decide +kernel
theorem d_LE_startAnew_10 : decode b_LE_startAnew 10 = .ok (.putfield 31, 3) := by decide +kernel
theorem d_LE_startAnew_13 : decode b_LE_startAnew 13 = .ok (.aload_n 0, 1) := by decide +kernel
theorem d_LE_startAnew_14 : decode b_LE_startAnew 14 = .ok (.invokevirtual 35, 3) := by decide +kernel
theorem d_LE_startAnew_17 : decode b_LE_startAnew 17 = .ok (.return_, 1) := by decide +kernel
