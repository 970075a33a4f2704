abbrev b_LE_emptySets : ByteArray := prog_5_method_3_code
def y_LE_emptySets : MethodName := ⟨"ExploreShares$Levels", "emptySets", "()V"⟩
def w_LE_emptySets : List Cond := .code y_LE_emptySets b_LE_emptySets 1 (none) :: xU
theorem d_LE_emptySets_0 : decode b_LE_emptySets 0 = .ok (.aload_n 0, 1) := by decide +kernel
theorem d_LE_emptySets_1 : decode b_LE_emptySets 1 = .ok (.getfield 21, 3) := by decide +kernel
theorem d_LE_emptySets_4 : decode b_LE_emptySets 4 = .ok (.iconst 0, 1) := by decide +kernel
theorem d_LE_emptySets_5 : decode b_LE_emptySets 5 = .ok (.invokestatic 38, 3) := by decide +kernel
theorem d_LE_emptySets_8 : decode b_LE_emptySets 8 = .ok (.return_, 1) := by decide +kernel
abbrev b_LE_startAnew : ByteArray := prog_5_method_2_code
def y_LE_startAnew : MethodName := ⟨"ExploreShares$Levels", "startAnew", "()V"⟩
def w_LE_startAnew : List Cond := .code y_LE_startAnew b_LE_startAnew 1 (none) :: xU
theorem d_LE_startAnew_0 : decode b_LE_startAnew 0 = .ok (.aload_n 0, 1) := by decide +kernel
theorem d_LE_startAnew_1 : decode b_LE_startAnew 1 = .ok (.getfield 9, 3) := by decide +kernel
theorem d_LE_startAnew_4 : decode b_LE_startAnew 4 = .ok (.iconst (-1), 1) := by decide +kernel
theorem d_LE_startAnew_5 : decode b_LE_startAnew 5 = .ok (.invokestatic 25, 3) := by decide +kernel
theorem d_LE_startAnew_8 : decode b_LE_startAnew 8 = .ok (.aload_n 0, 1) := by decide +kernel
theorem d_LE_startAnew_9 : decode b_LE_startAnew 9 = .ok (.iconst 0, 1) := by decide +kernel
theorem d_LE_startAnew_10 : decode b_LE_startAnew 10 = .ok (.putfield 31, 3) := by decide +kernel
theorem d_LE_startAnew_13 : decode b_LE_startAnew 13 = .ok (.aload_n 0, 1) := by decide +kernel
theorem d_LE_startAnew_14 : decode b_LE_startAnew 14 = .ok (.invokevirtual 35, 3) := by decide +kernel
theorem d_LE_startAnew_17 : decode b_LE_startAnew 17 = .ok (.return_, 1) := by decide +kernel
abbrev b_LE_cameInAll : ByteArray := prog_5_method_4_code
def y_LE_cameInAll : MethodName := ⟨"ExploreShares$Levels", "cameInAll", "()I"⟩
def w_LE_cameInAll : List Cond := .code y_LE_cameInAll b_LE_cameInAll 1 (some .int) :: xU
theorem d_LE_cameInAll_0 : decode b_LE_cameInAll 0 = .ok (.aload_n 0, 1) := by decide +kernel
theorem d_LE_cameInAll_1 : decode b_LE_cameInAll 1 = .ok (.getfield 18, 3) := by decide +kernel
theorem d_LE_cameInAll_4 : decode b_LE_cameInAll 4 = .ok (.aload_n 0, 1) := by decide +kernel
theorem d_LE_cameInAll_5 : decode b_LE_cameInAll 5 = .ok (.getfield 31, 3) := by decide +kernel
theorem d_LE_cameInAll_8 : decode b_LE_cameInAll 8 = .ok (.iaload, 1) := by decide +kernel
theorem d_LE_cameInAll_9 : decode b_LE_cameInAll 9 = .ok (.ireturn, 1) := by decide +kernel
abbrev b_LE_putIntoSet : ByteArray := prog_5_method_5_code
def y_LE_putIntoSet : MethodName := ⟨"ExploreShares$Levels", "putIntoSet", "(I)V"⟩
def w_LE_putIntoSet : List Cond := .code y_LE_putIntoSet b_LE_putIntoSet 2 (none) :: xU
theorem d_LE_putIntoSet_0 : decode b_LE_putIntoSet 0 = .ok (.aload_n 0, 1) := by decide +kernel
theorem d_LE_putIntoSet_1 : decode b_LE_putIntoSet 1 = .ok (.getfield 9, 3) := by decide +kernel
theorem d_LE_putIntoSet_4 : decode b_LE_putIntoSet 4 = .ok (.iload_n 1, 1) := by decide +kernel
theorem d_LE_putIntoSet_5 : decode b_LE_putIntoSet 5 = .ok (.iaload, 1) := by decide +kernel
theorem d_LE_putIntoSet_6 : decode b_LE_putIntoSet 6 = .ok (.iconst (-1), 1) := by decide +kernel
theorem d_LE_putIntoSet_7 : decode b_LE_putIntoSet 7 = .ok (.if_icmp .ne 10, 3) := by decide +kernel
theorem d_LE_putIntoSet_10 : decode b_LE_putIntoSet 10 = .ok (.aload_n 0, 1) := by decide +kernel
theorem d_LE_putIntoSet_11 : decode b_LE_putIntoSet 11 = .ok (.getfield 21, 3) := by decide +kernel
theorem d_LE_putIntoSet_14 : decode b_LE_putIntoSet 14 = .ok (.iload_n 1, 1) := by decide +kernel
theorem d_LE_putIntoSet_15 : decode b_LE_putIntoSet 15 = .ok (.iconst 1, 1) := by decide +kernel
theorem d_LE_putIntoSet_16 : decode b_LE_putIntoSet 16 = .ok (.bastore, 1) := by decide +kernel
theorem d_LE_putIntoSet_17 : decode b_LE_putIntoSet 17 = .ok (.return_, 1) := by decide +kernel
