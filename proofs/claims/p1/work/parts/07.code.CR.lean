abbrev b_CR_has : ByteArray := prog_2_method_2_code
def y_CR_has : MethodName := ⟨"ExploreShares$Crew", "has", "(I)Z"⟩
def w_CR_has : List Cond := .code y_CR_has b_CR_has 2 (some .boolean) :: xU
theorem d_CR_has_0 : decode b_CR_has 0 = .ok (.iload_n 1, 1) := by decide +kernel
theorem d_CR_has_1 : decode b_CR_has 1 = .ok (.ifCond .lt 15, 3) := by decide +kernel
theorem d_CR_has_4 : decode b_CR_has 4 = .ok (.iload_n 1, 1) := by decide +kernel
theorem d_CR_has_5 : decode b_CR_has 5 = .ok (.aload_n 0, 1) := by decide +kernel
theorem d_CR_has_6 : decode b_CR_has 6 = .ok (.getfield 28, 3) := by decide +kernel
theorem d_CR_has_9 : decode b_CR_has 9 = .ok (.if_icmp .ge 7, 3) := by decide +kernel
theorem d_CR_has_12 : decode b_CR_has 12 = .ok (.iconst 1, 1) := by decide +kernel
theorem d_CR_has_13 : decode b_CR_has 13 = .ok (.goto 4, 3) := by decide +kernel
theorem d_CR_has_16 : decode b_CR_has 16 = .ok (.iconst 0, 1) := by decide +kernel
theorem d_CR_has_17 : decode b_CR_has 17 = .ok (.ireturn, 1) := by decide +kernel
abbrev b_CR_startAnew : ByteArray := prog_2_method_3_code
def y_CR_startAnew : MethodName := ⟨"ExploreShares$Crew", "startAnew", "()V"⟩
def w_CR_startAnew : List Cond := .code y_CR_startAnew b_CR_startAnew 1 (none) :: xU
theorem d_CR_startAnew_0 : decode b_CR_startAnew 0 = .ok (.aload_n 0, 1) := by decide +kernel
theorem d_CR_startAnew_1 : decode b_CR_startAnew 1 = .ok (.getfield 15, 3) := by decide +kernel
theorem d_CR_startAnew_4 : decode b_CR_startAnew 4 = .ok (.iconst 1, 1) := by decide +kernel
theorem d_CR_startAnew_5 : decode b_CR_startAnew 5 = .ok (.invokestatic 35, 3) := by decide +kernel
theorem d_CR_startAnew_8 : decode b_CR_startAnew 8 = .ok (.aload_n 0, 1) := by decide +kernel
theorem d_CR_startAnew_9 : decode b_CR_startAnew 9 = .ok (.getfield 19, 3) := by decide +kernel
theorem d_CR_startAnew_12 : decode b_CR_startAnew 12 = .ok (.iconst 0, 1) := by decide +kernel
theorem d_CR_startAnew_13 : decode b_CR_startAnew 13 = .ok (.invokestatic 47, 3) := by decide +kernel
theorem d_CR_startAnew_16 : decode b_CR_startAnew 16 = .ok (.aload_n 0, 1) := by decide +kernel
theorem d_CR_startAnew_17 : decode b_CR_startAnew 17 = .ok (.getfield 22, 3) := by decide +kernel
theorem d_CR_startAnew_20 : decode b_CR_startAnew 20 = .ok (.iconst 0, 1) := by decide +kernel
theorem d_CR_startAnew_21 : decode b_CR_startAnew 21 = .ok (.invokestatic 47, 3) := by decide +kernel
theorem d_CR_startAnew_24 : decode b_CR_startAnew 24 = .ok (.aload_n 0, 1) := by decide +kernel
theorem d_CR_startAnew_25 : decode b_CR_startAnew 25 = .ok (.getfield 25, 3) := by decide +kernel
theorem d_CR_startAnew_28 : decode b_CR_startAnew 28 = .ok (.iconst 0, 1) := by decide +kernel
theorem d_CR_startAnew_29 : decode b_CR_startAnew 29 = .ok (.invokestatic 47, 3) := by decide +kernel
theorem d_CR_startAnew_32 : decode b_CR_startAnew 32 = .ok (.aload_n 0, 1) := by decide +kernel
theorem d_CR_startAnew_33 : decode b_CR_startAnew 33 = .ok (.aload_n 0, 1) := by decide +kernel
theorem d_CR_startAnew_34 : decode b_CR_startAnew 34 = .ok (.getfield 28, 3) := by decide +kernel
theorem d_CR_startAnew_37 : decode b_CR_startAnew 37 = .ok (.putfield 32, 3) := by decide +kernel
theorem d_CR_startAnew_40 : decode b_CR_startAnew 40 = .ok (.aload_n 0, 1) := by decide +kernel
theorem d_CR_startAnew_41 : decode b_CR_startAnew 41 = .ok (.iconst 0, 1) := by decide +kernel
theorem d_CR_startAnew_42 : decode b_CR_startAnew 42 = .ok (.putfield 53, 3) := by decide +kernel
theorem d_CR_startAnew_45 : decode b_CR_startAnew 45 = .ok (.return_, 1) := by decide +kernel
