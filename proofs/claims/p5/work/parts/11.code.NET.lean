abbrev b_NET_init : ByteArray := prog_7_method_1_code
def y_NET_init : MethodName := ⟨"ExploreShares$Net", "<init>", "()V"⟩
def w_NET_init : List Cond := .code y_NET_init b_NET_init 1 (none) :: xU
theorem d_NET_init_0 : decode b_NET_init 0 = .ok (.aload_n 0, 1) := by decide +kernel
theorem d_NET_init_1 : decode b_NET_init 1 = .ok (.invokespecial 3, 3) := by decide +kernel
theorem d_NET_init_4 : decode b_NET_init 4 = .ok (.aload_n 0, 1) := by decide +kernel
theorem d_NET_init_5 : decode b_NET_init 5 = .ok (.sipush 201, 3) := by decide +kernel
theorem d_NET_init_8 : decode b_NET_init 8 = .ok (.newarray .int, 2) := by decide +kernel
theorem d_NET_init_10 : decode b_NET_init 10 = .ok (.putfield 9, 3) := by decide +kernel
theorem d_NET_init_13 : decode b_NET_init 13 = .ok (.aload_n 0, 1) := by decide +kernel
theorem d_NET_init_14 : decode b_NET_init 14 = .ok (.sipush 600, 3) := by decide +kernel
theorem d_NET_init_17 : decode b_NET_init 17 = .ok (.newarray .int, 2) := by decide +kernel
theorem d_NET_init_19 : decode b_NET_init 19 = .ok (.putfield 15, 3) := by decide +kernel
theorem d_NET_init_22 : decode b_NET_init 22 = .ok (.return_, 1) := by decide +kernel
abbrev b_NET_addMove : ByteArray := prog_7_method_4_code
def y_NET_addMove : MethodName := ⟨"ExploreShares$Net", "addMove", "(II)V"⟩
def w_NET_addMove : List Cond := .code y_NET_addMove b_NET_addMove 5 (none) :: xU
theorem d_NET_addMove_0 : decode b_NET_addMove 0 = .ok (.aload_n 0, 1) := by decide +kernel
theorem d_NET_addMove_1 : decode b_NET_addMove 1 = .ok (.getfield 9, 3) := by decide +kernel
theorem d_NET_addMove_4 : decode b_NET_addMove 4 = .ok (.iload_n 1, 1) := by decide +kernel
theorem d_NET_addMove_5 : decode b_NET_addMove 5 = .ok (.iconst 1, 1) := by decide +kernel
theorem d_NET_addMove_6 : decode b_NET_addMove 6 = .ok (.iadd, 1) := by decide +kernel
theorem d_NET_addMove_7 : decode b_NET_addMove 7 = .ok (.iaload, 1) := by decide +kernel
theorem d_NET_addMove_8 : decode b_NET_addMove 8 = .ok (.istore_n 3, 1) := by decide +kernel
theorem d_NET_addMove_9 : decode b_NET_addMove 9 = .ok (.aload_n 0, 1) := by decide +kernel
theorem d_NET_addMove_10 : decode b_NET_addMove 10 = .ok (.getfield 22, 3) := by decide +kernel
theorem d_NET_addMove_13 : decode b_NET_addMove 13 = .ok (.istore 4, 2) := by decide +kernel
theorem d_NET_addMove_15 : decode b_NET_addMove 15 = .ok (.iload 4, 2) := by decide +kernel
theorem d_NET_addMove_17 : decode b_NET_addMove 17 = .ok (.iload_n 3, 1) := by decide +kernel
theorem d_NET_addMove_18 : decode b_NET_addMove 18 = .ok (.if_icmp .le 25, 3) := by decide +kernel
theorem d_NET_addMove_21 : decode b_NET_addMove 21 = .ok (.aload_n 0, 1) := by decide +kernel
theorem d_NET_addMove_22 : decode b_NET_addMove 22 = .ok (.getfield 15, 3) := by decide +kernel
theorem d_NET_addMove_25 : decode b_NET_addMove 25 = .ok (.iload 4, 2) := by decide +kernel
theorem d_NET_addMove_27 : decode b_NET_addMove 27 = .ok (.aload_n 0, 1) := by decide +kernel
theorem d_NET_addMove_28 : decode b_NET_addMove 28 = .ok (.getfield 15, 3) := by decide +kernel
theorem d_NET_addMove_31 : decode b_NET_addMove 31 = .ok (.iload 4, 2) := by decide +kernel
theorem d_NET_addMove_33 : decode b_NET_addMove 33 = .ok (.iconst 1, 1) := by decide +kernel
theorem d_NET_addMove_34 : decode b_NET_addMove 34 = .ok (.isub, 1) := by decide +kernel
theorem d_NET_addMove_35 : decode b_NET_addMove 35 = .ok (.iaload, 1) := by decide +kernel
theorem d_NET_addMove_36 : decode b_NET_addMove 36 = .ok (.iastore, 1) := by decide +kernel
theorem d_NET_addMove_37 : decode b_NET_addMove 37 = .ok (.iinc 4 (-1), 3) := by decide +kernel
theorem d_NET_addMove_40 : decode b_NET_addMove 40 = .ok (.goto (-25), 3) := by decide +kernel
theorem d_NET_addMove_43 : decode b_NET_addMove 43 = .ok (.aload_n 0, 1) := by decide +kernel
theorem d_NET_addMove_44 : decode b_NET_addMove 44 = .ok (.getfield 15, 3) := by decide +kernel
theorem d_NET_addMove_47 : decode b_NET_addMove 47 = .ok (.iload_n 3, 1) := by decide +kernel
theorem d_NET_addMove_48 : decode b_NET_addMove 48 = .ok (.iload_n 2, 1) := by decide +kernel
theorem d_NET_addMove_49 : decode b_NET_addMove 49 = .ok (.iastore, 1) := by decide +kernel
theorem d_NET_addMove_50 : decode b_NET_addMove 50 = .ok (.iload_n 1, 1) := by decide +kernel
theorem d_NET_addMove_51 : decode b_NET_addMove 51 = .ok (.iconst 1, 1) := by decide +kernel
theorem d_NET_addMove_52 : decode b_NET_addMove 52 = .ok (.iadd, 1) := by decide +kernel
theorem d_NET_addMove_53 : decode b_NET_addMove 53 = .ok (.istore 4, 2) := by decide +kernel
theorem d_NET_addMove_55 : decode b_NET_addMove 55 = .ok (.iload 4, 2) := by decide +kernel
theorem d_NET_addMove_57 : decode b_NET_addMove 57 = .ok (.sipush 200, 3) := by decide +kernel
theorem d_NET_addMove_60 : decode b_NET_addMove 60 = .ok (.if_icmp .gt 20, 3) := by decide +kernel
theorem d_NET_addMove_63 : decode b_NET_addMove 63 = .ok (.aload_n 0, 1) := by decide +kernel
theorem d_NET_addMove_64 : decode b_NET_addMove 64 = .ok (.getfield 9, 3) := by decide +kernel
theorem d_NET_addMove_67 : decode b_NET_addMove 67 = .ok (.iload 4, 2) := by decide +kernel
theorem d_NET_addMove_69 : decode b_NET_addMove 69 = .ok (.dup2, 1) := by decide +kernel
theorem d_NET_addMove_70 : decode b_NET_addMove 70 = .ok (.iaload, 1) := by decide +kernel
theorem d_NET_addMove_71 : decode b_NET_addMove 71 = .ok (.iconst 1, 1) := by decide +kernel
theorem d_NET_addMove_72 : decode b_NET_addMove 72 = .ok (.iadd, 1) := by decide +kernel
theorem d_NET_addMove_73 : decode b_NET_addMove 73 = .ok (.iastore, 1) := by decide +kernel
theorem d_NET_addMove_74 : decode b_NET_addMove 74 = .ok (.iinc 4 1, 3) := by decide +kernel
theorem d_NET_addMove_77 : decode b_NET_addMove 77 = .ok (.goto (-22), 3) := by decide +kernel
theorem d_NET_addMove_80 : decode b_NET_addMove 80 = .ok (.aload_n 0, 1) := by decide +kernel
theorem d_NET_addMove_81 : decode b_NET_addMove 81 = .ok (.dup, 1) := by decide +kernel
theorem d_NET_addMove_82 : decode b_NET_addMove 82 = .ok (.getfield 22, 3) := by decide +kernel
theorem d_NET_addMove_85 : decode b_NET_addMove 85 = .ok (.iconst 1, 1) := by decide +kernel
theorem d_NET_addMove_86 : decode b_NET_addMove 86 = .ok (.iadd, 1) := by decide +kernel
theorem d_NET_addMove_87 : decode b_NET_addMove 87 = .ok (.putfield 22, 3) := by decide +kernel
theorem d_NET_addMove_90 : decode b_NET_addMove 90 = .ok (.return_, 1) := by decide +kernel
abbrev b_NET_addState : ByteArray := prog_7_method_3_code
def y_NET_addState : MethodName := ⟨"ExploreShares$Net", "addState", "()I"⟩
def w_NET_addState : List Cond := .code y_NET_addState b_NET_addState 1 (some .int) :: xU
theorem d_NET_addState_0 : decode b_NET_addState 0 = .ok (.aload_n 0, 1) := by decide +kernel
theorem d_NET_addState_1 : decode b_NET_addState 1 = .ok (.dup, 1) := by decide +kernel
theorem d_NET_addState_2 : decode b_NET_addState 2 = .ok (.getfield 18, 3) := by decide +kernel
theorem d_NET_addState_5 : decode b_NET_addState 5 = .ok (.iconst 1, 1) := by decide +kernel
theorem d_NET_addState_6 : decode b_NET_addState 6 = .ok (.iadd, 1) := by decide +kernel
theorem d_NET_addState_7 : decode b_NET_addState 7 = .ok (.putfield 18, 3) := by decide +kernel
theorem d_NET_addState_10 : decode b_NET_addState 10 = .ok (.aload_n 0, 1) := by decide +kernel
theorem d_NET_addState_11 : decode b_NET_addState 11 = .ok (.getfield 18, 3) := by decide +kernel
theorem d_NET_addState_14 : decode b_NET_addState 14 = .ok (.iconst 1, 1) := by decide +kernel
theorem d_NET_addState_15 : decode b_NET_addState 15 = .ok (.isub, 1) := by decide +kernel
theorem d_NET_addState_16 : decode b_NET_addState 16 = .ok (.ireturn, 1) := by decide +kernel
abbrev b_NET_has : ByteArray := prog_7_method_2_code
def y_NET_has : MethodName := ⟨"ExploreShares$Net", "has", "(I)Z"⟩
def w_NET_has : List Cond := .code y_NET_has b_NET_has 2 (some .boolean) :: xU
theorem d_NET_has_0 : decode b_NET_has 0 = .ok (.iload_n 1, 1) := by decide +kernel
theorem d_NET_has_1 : decode b_NET_has 1 = .ok (.ifCond .lt 15, 3) := by decide +kernel
theorem d_NET_has_4 : decode b_NET_has 4 = .ok (.iload_n 1, 1) := by decide +kernel
theorem d_NET_has_5 : decode b_NET_has 5 = .ok (.aload_n 0, 1) := by decide +kernel
theorem d_NET_has_6 : decode b_NET_has 6 = .ok (.getfield 18, 3) := by decide +kernel
theorem d_NET_has_9 : decode b_NET_has 9 = .ok (.if_icmp .ge 7, 3) := by decide +kernel
theorem d_NET_has_12 : decode b_NET_has 12 = .ok (.iconst 1, 1) := by decide +kernel
theorem d_NET_has_13 : decode b_NET_has 13 = .ok (.goto 4, 3) := by decide +kernel
theorem d_NET_has_16 : decode b_NET_has 16 = .ok (.iconst 0, 1) := by decide +kernel
theorem d_NET_has_17 : decode b_NET_has 17 = .ok (.ireturn, 1) := by decide +kernel
