abbrev b_NET_has : ByteArray := prog_7_method_2_code
def y_NET_has : MethodName := ⟨"ExploreShares$Net", "has", "(I)Z"⟩
def w_NET_has : List Cond := .code y_NET_has b_NET_has 2 (some .boolean) :: xU
theorem d_NET_has_0 : decode b_NET_has 0 = .ok (.iload_n 1, 1) := by decide +kernel
theorem d_NET_has_1 : decode b_NET_has 1 = .ok (.ifCond .lt 15, 3) := by decide +kernel
theorem d_NET_has_4 : decode b_NET_has 4 = .ok (.iload_n 1, 1) := by decide +kernel
theorem d_NET_has_5 : decode b_NET_has 5 = .ok (.aload_n 0, 1) := by decide +kernel
theorem d_NET_has_6 : decode b_NET_has 6 = .ok (.getfield 18, 3) := by decide +kernel
theorem d_NET_has_9 : decode b_NET_has 9 = .ok (.if_icmp .ge 7, 3) := by decide +kernel
theorem d_NET_has_16 : decode b_NET_has 16 = .ok (.iconst 0, 1) := by decide +kernel
theorem d_NET_has_17 : decode b_NET_has 17 = .ok (.ireturn, 1) := by decide +kernel
abbrev b_NET_addState : ByteArray := prog_7_method_3_code
def y_NET_addState : MethodName := ⟨"ExploreShares$Net", "addState", "()I"⟩
def w_NET_addState : List Cond := .code y_NET_addState b_NET_addState 1 (some .int) :: xU
theorem d_NET_addState_0 : decode b_NET_addState 0 = .ok (.aload_n 0, 1) := by decide +kernel
theorem d_NET_addState_1 : decode b_NET_addState 1 = .ok (.dup, 1) := by decide +kernel
theorem d_NET_addState_2 : decode b_NET_addState 2 = .ok (.getfield 18, 3) := by decide +kernel
theorem d_NET_addState_5 : decode b_NET_addState 5 = .ok (.iconst 1, 1) := by decide +kernel
theorem d_NET_addState_6 : decode b_NET_addState 6 = .ok (.iadd, 1) := by decide +kernel
theorem d_NET_addState_7 : decode b_NET_addState 7 = .ok (.putfield 18, 3) := by decide +kernel
theorem d_NET_addState_10 : decode b_NET_addState 10 = .ok (.aload_n 0, 1) := by decide +kernel
theorem d_NET_addState_11 : decode b_NET_addState 11 = .ok (.getfield 18, 3) := by decide +kernel
theorem d_NET_addState_14 : decode b_NET_addState 14 = .ok (.iconst 1, 1) := by decide +kernel
theorem d_NET_addState_15 : decode b_NET_addState 15 = .ok (.isub, 1) := by decide +kernel
theorem d_NET_addState_16 : decode b_NET_addState 16 = .ok (.ireturn, 1) := by decide +kernel
abbrev b_NET_init : ByteArray := prog_7_method_1_code
def y_NET_init : MethodName := ⟨"ExploreShares$Net", "<init>", "()V"⟩
def w_NET_init : List Cond := .code y_NET_init b_NET_init 1 (none) :: xU
theorem d_NET_init_0 : decode b_NET_init 0 = .ok (.aload_n 0, 1) := by decide +kernel
theorem d_NET_init_1 : decode b_NET_init 1 = .ok (.invokespecial 3, 3) := by decide +kernel
theorem d_NET_init_4 : decode b_NET_init 4 = .ok (.aload_n 0, 1) := by decide +kernel
theorem d_NET_init_5 : decode b_NET_init 5 = .ok (.sipush 201, 3) := by decide +kernel
theorem d_NET_init_8 : decode b_NET_init 8 = .ok (.newarray .int, 2) := by decide +kernel
theorem d_NET_init_10 : decode b_NET_init 10 = .ok (.putfield 9, 3) := by decide +kernel
theorem d_NET_init_13 : decode b_NET_init 13 = .ok (.aload_n 0, 1) := by decide +kernel
theorem d_NET_init_14 : decode b_NET_init 14 = .ok (.sipush 600, 3) := by decide +kernel
theorem d_NET_init_17 : decode b_NET_init 17 = .ok (.newarray .int, 2) := by decide +kernel
theorem d_NET_init_19 : decode b_NET_init 19 = .ok (.putfield 15, 3) := by decide +kernel
theorem d_NET_init_22 : decode b_NET_init 22 = .ok (.return_, 1) := by decide +kernel
