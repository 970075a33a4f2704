abbrev b_FL_init : ByteArray := prog_3_method_1_code
def y_FL_init : MethodName := ⟨"ExploreShares$FailLog", "<init>", "()V"⟩
def w_FL_init : List Cond := .code y_FL_init b_FL_init 1 (none) :: xU
theorem d_FL_init_0 : decode b_FL_init 0 = .ok (.aload_n 0, 1) := by decide +kernel
theorem d_FL_init_1 : decode b_FL_init 1 = .ok (.invokespecial 3, 3) := by decide +kernel
theorem d_FL_init_4 : decode b_FL_init 4 = .ok (.aload_n 0, 1) := by decide +kernel
theorem d_FL_init_5 : decode b_FL_init 5 = .ok (.bipush 16, 2) := by decide +kernel
theorem d_FL_init_7 : decode b_FL_init 7 = .ok (.newarray .int, 2) := by decide +kernel
theorem d_FL_init_9 : decode b_FL_init 9 = .ok (.putfield 9, 3) := by decide +kernel
theorem d_FL_init_12 : decode b_FL_init 12 = .ok (.aload_n 0, 1) := by decide +kernel
theorem d_FL_init_13 : decode b_FL_init 13 = .ok (.bipush 16, 2) := by decide +kernel
theorem d_FL_init_15 : decode b_FL_init 15 = .ok (.newarray .int, 2) := by decide +kernel
theorem d_FL_init_17 : decode b_FL_init 17 = .ok (.putfield 15, 3) := by decide +kernel
theorem d_FL_init_20 : decode b_FL_init 20 = .ok (.aload_n 0, 1) := by decide +kernel
theorem d_FL_init_21 : decode b_FL_init 21 = .ok (.bipush 16, 2) := by decide +kernel
theorem d_FL_init_23 : decode b_FL_init 23 = .ok (.newarray .int, 2) := by decide +kernel
theorem d_FL_init_25 : decode b_FL_init 25 = .ok (.putfield 18, 3) := by decide +kernel
theorem d_FL_init_28 : decode b_FL_init 28 = .ok (.return_, 1) := by decide +kernel
abbrev b_FL_add : ByteArray := prog_3_method_2_code
def y_FL_add : MethodName := ⟨"ExploreShares$FailLog", "add", "(III)V"⟩
def w_FL_add : List Cond := .code y_FL_add b_FL_add 4 (none) :: xU
theorem d_FL_add_0 : decode b_FL_add 0 = .ok (.aload_n 0, 1) := by decide +kernel
theorem d_FL_add_1 : decode b_FL_add 1 = .ok (.getfield 21, 3) := by decide +kernel
theorem d_FL_add_4 : decode b_FL_add 4 = .ok (.bipush 16, 2) := by decide +kernel
theorem d_FL_add_6 : decode b_FL_add 6 = .ok (.if_icmp .ge 43, 3) := by decide +kernel
theorem d_FL_add_9 : decode b_FL_add 9 = .ok (.aload_n 0, 1) := by decide +kernel
theorem d_FL_add_10 : decode b_FL_add 10 = .ok (.getfield 9, 3) := by decide +kernel
theorem d_FL_add_13 : decode b_FL_add 13 = .ok (.aload_n 0, 1) := by decide +kernel
theorem d_FL_add_14 : decode b_FL_add 14 = .ok (.getfield 21, 3) := by decide +kernel
theorem d_FL_add_17 : decode b_FL_add 17 = .ok (.iload_n 1, 1) := by decide +kernel
theorem d_FL_add_18 : decode b_FL_add 18 = .ok (.iastore, 1) := by decide +kernel
theorem d_FL_add_19 : decode b_FL_add 19 = .ok (.aload_n 0, 1) := by decide +kernel
theorem d_FL_add_20 : decode b_FL_add 20 = .ok (.getfield 15, 3) := by decide +kernel
theorem d_FL_add_23 : decode b_FL_add 23 = .ok (.aload_n 0, 1) := by decide +kernel
theorem d_FL_add_24 : decode b_FL_add 24 = .ok (.getfield 21, 3) := by decide +kernel
theorem d_FL_add_27 : decode b_FL_add 27 = .ok (.iload_n 2, 1) := by decide +kernel
theorem d_FL_add_28 : decode b_FL_add 28 = .ok (.iastore, 1) := by decide +kernel
theorem d_FL_add_29 : decode b_FL_add 29 = .ok (.aload_n 0, 1) := by decide +kernel
theorem d_FL_add_30 : decode b_FL_add 30 = .ok (.getfield 18, 3) := by decide +kernel
theorem d_FL_add_33 : decode b_FL_add 33 = .ok (.aload_n 0, 1) := by decide +kernel
theorem d_FL_add_34 : decode b_FL_add 34 = .ok (.getfield 21, 3) := by decide +kernel
theorem d_FL_add_37 : decode b_FL_add 37 = .ok (.iload_n 3, 1) := by decide +kernel
theorem d_FL_add_38 : decode b_FL_add 38 = .ok (.iastore, 1) := by decide +kernel
theorem d_FL_add_39 : decode b_FL_add 39 = .ok (.aload_n 0, 1) := by decide +kernel
theorem d_FL_add_40 : decode b_FL_add 40 = .ok (.dup, 1) := by decide +kernel
theorem d_FL_add_41 : decode b_FL_add 41 = .ok (.getfield 21, 3) := by decide +kernel
theorem d_FL_add_44 : decode b_FL_add 44 = .ok (.iconst 1, 1) := by decide +kernel
theorem d_FL_add_45 : decode b_FL_add 45 = .ok (.iadd, 1) := by decide +kernel
theorem d_FL_add_46 : decode b_FL_add 46 = .ok (.putfield 21, 3) := by decide +kernel
theorem d_FL_add_49 : decode b_FL_add 49 = .ok (.return_, 1) := by decide +kernel
