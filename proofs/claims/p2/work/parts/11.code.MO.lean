abbrev b_MO_isOf : ByteArray := prog_12_method_4_code
def y_MO_isOf : MethodName := ⟨"ExploreSharesModel", "isOf", "(II)Z"⟩
def w_MO_isOf : List Cond := .code y_MO_isOf b_MO_isOf 2 (some .boolean) :: xU
theorem d_MO_isOf_0 : decode b_MO_isOf 0 = .ok (.iload_n 0, 1) := by decide +kernel
theorem d_MO_isOf_1 : decode b_MO_isOf 1 = .ok (.ifCond .lt 12, 3) := by decide +kernel
theorem d_MO_isOf_4 : decode b_MO_isOf 4 = .ok (.iload_n 0, 1) := by decide +kernel
theorem d_MO_isOf_5 : decode b_MO_isOf 5 = .ok (.iload_n 1, 1) := by decide +kernel
theorem d_MO_isOf_6 : decode b_MO_isOf 6 = .ok (.if_icmp .ge 7, 3) := by decide +kernel
theorem d_MO_isOf_9 : decode b_MO_isOf 9 = .ok (.iconst 1, 1) := by decide +kernel
theorem d_MO_isOf_10 : decode b_MO_isOf 10 = .ok (.goto 4, 3) := by decide +kernel
theorem d_MO_isOf_13 : decode b_MO_isOf 13 = .ok (.iconst 0, 1) := by decide +kernel
theorem d_MO_isOf_14 : decode b_MO_isOf 14 = .ok (.ireturn, 1) := by decide +kernel
abbrev b_MO_step : ByteArray := prog_12_method_10_code
def y_MO_step : MethodName := ⟨"ExploreSharesModel", "step", "(I)I"⟩
def w_MO_step : List Cond := .code y_MO_step b_MO_step 1 (some .int) :: xU
theorem d_MO_step_0 : decode b_MO_step 0 = .ok (.ldc 133, 2) := by decide +kernel
theorem d_MO_step_2 : decode b_MO_step 2 = .ok (.iload_n 0, 1) := by decide +kernel
theorem d_MO_step_3 : decode b_MO_step 3 = .ok (.imul, 1) := by decide +kernel
theorem d_MO_step_4 : decode b_MO_step 4 = .ok (.sipush 12345, 3) := by decide +kernel
theorem d_MO_step_7 : decode b_MO_step 7 = .ok (.iadd, 1) := by decide +kernel
theorem d_MO_step_8 : decode b_MO_step 8 = .ok (.ldc 134, 2) := by decide +kernel
theorem d_MO_step_10 : decode b_MO_step 10 = .ok (.iand, 1) := by decide +kernel
theorem d_MO_step_11 : decode b_MO_step 11 = .ok (.ireturn, 1) := by decide +kernel
abbrev b_MO_thrown : ByteArray := prog_12_method_2_code
def y_MO_thrown : MethodName := ⟨"ExploreSharesModel", "thrown", "()I"⟩
def w_MO_thrown : List Cond := .code y_MO_thrown b_MO_thrown 1 (some .int) :: xU
theorem d_MO_thrown_0 : decode b_MO_thrown 0 = .ok (.aload_n 0, 1) := by decide +kernel
theorem d_MO_thrown_1 : decode b_MO_thrown 1 = .ok (.getfield 90, 3) := by decide +kernel
theorem d_MO_thrown_4 : decode b_MO_thrown 4 = .ok (.ireturn, 1) := by decide +kernel
abbrev b_MO_throwing : ByteArray := prog_12_method_3_code
def y_MO_throwing : MethodName := ⟨"ExploreSharesModel", "throwing", "(ZZZ)Z"⟩
def w_MO_throwing : List Cond := .code y_MO_throwing b_MO_throwing 4 (some .boolean) :: xU
theorem d_MO_throwing_0 : decode b_MO_throwing 0 = .ok (.aload_n 0, 1) := by decide +kernel
theorem d_MO_throwing_1 : decode b_MO_throwing 1 = .ok (.iload_n 1, 1) := by decide +kernel
theorem d_MO_throwing_2 : decode b_MO_throwing 2 = .ok (.ifCond .eq 7, 3) := by decide +kernel
theorem d_MO_throwing_5 : decode b_MO_throwing 5 = .ok (.iconst 1, 1) := by decide +kernel
theorem d_MO_throwing_6 : decode b_MO_throwing 6 = .ok (.goto 20, 3) := by decide +kernel
theorem d_MO_throwing_9 : decode b_MO_throwing 9 = .ok (.iload_n 2, 1) := by decide +kernel
theorem d_MO_throwing_10 : decode b_MO_throwing 10 = .ok (.ifCond .eq 7, 3) := by decide +kernel
theorem d_MO_throwing_13 : decode b_MO_throwing 13 = .ok (.iconst 2, 1) := by decide +kernel
theorem d_MO_throwing_14 : decode b_MO_throwing 14 = .ok (.goto 12, 3) := by decide +kernel
theorem d_MO_throwing_17 : decode b_MO_throwing 17 = .ok (.iload_n 3, 1) := by decide +kernel
theorem d_MO_throwing_18 : decode b_MO_throwing 18 = .ok (.ifCond .eq 7, 3) := by decide +kernel
theorem d_MO_throwing_21 : decode b_MO_throwing 21 = .ok (.iconst 3, 1) := by decide +kernel
theorem d_MO_throwing_22 : decode b_MO_throwing 22 = .ok (.goto 4, 3) := by decide +kernel
theorem d_MO_throwing_25 : decode b_MO_throwing 25 = .ok (.iconst 0, 1) := by decide +kernel
theorem d_MO_throwing_26 : decode b_MO_throwing 26 = .ok (.putfield 90, 3) := by decide +kernel
theorem d_MO_throwing_29 : decode b_MO_throwing 29 = .ok (.aload_n 0, 1) := by decide +kernel
theorem d_MO_throwing_30 : decode b_MO_throwing 30 = .ok (.getfield 90, 3) := by decide +kernel
theorem d_MO_throwing_33 : decode b_MO_throwing 33 = .ok (.ifCond .le 7, 3) := by decide +kernel
theorem d_MO_throwing_36 : decode b_MO_throwing 36 = .ok (.iconst 1, 1) := by decide +kernel
theorem d_MO_throwing_37 : decode b_MO_throwing 37 = .ok (.goto 4, 3) := by decide +kernel
theorem d_MO_throwing_40 : decode b_MO_throwing 40 = .ok (.iconst 0, 1) := by decide +kernel
theorem d_MO_throwing_41 : decode b_MO_throwing 41 = .ok (.ireturn, 1) := by decide +kernel
abbrev b_MO_forget : ByteArray := prog_12_method_5_code
def y_MO_forget : MethodName := ⟨"ExploreSharesModel", "forget", "()V"⟩
def w_MO_forget : List Cond := .code y_MO_forget b_MO_forget 2 (none) :: xU
theorem d_MO_forget_0 : decode b_MO_forget 0 = .ok (.aload_n 0, 1) := by decide +kernel
theorem d_MO_forget_1 : decode b_MO_forget 1 = .ok (.iconst 0, 1) := by decide +kernel
theorem d_MO_forget_2 : decode b_MO_forget 2 = .ok (.putfield 93, 3) := by decide +kernel
theorem d_MO_forget_5 : decode b_MO_forget 5 = .ok (.aload_n 0, 1) := by decide +kernel
theorem d_MO_forget_6 : decode b_MO_forget 6 = .ok (.iconst 0, 1) := by decide +kernel
theorem d_MO_forget_7 : decode b_MO_forget 7 = .ok (.putfield 97, 3) := by decide +kernel
theorem d_MO_forget_10 : decode b_MO_forget 10 = .ok (.aload_n 0, 1) := by decide +kernel
theorem d_MO_forget_11 : decode b_MO_forget 11 = .ok (.iconst 0, 1) := by decide +kernel
theorem d_MO_forget_12 : decode b_MO_forget 12 = .ok (.putfield 100, 3) := by decide +kernel
theorem d_MO_forget_15 : decode b_MO_forget 15 = .ok (.aload_n 0, 1) := by decide +kernel
theorem d_MO_forget_16 : decode b_MO_forget 16 = .ok (.iconst 0, 1) := by decide +kernel
theorem d_MO_forget_17 : decode b_MO_forget 17 = .ok (.putfield 103, 3) := by decide +kernel
theorem d_MO_forget_20 : decode b_MO_forget 20 = .ok (.aload_n 0, 1) := by decide +kernel
theorem d_MO_forget_21 : decode b_MO_forget 21 = .ok (.iconst 0, 1) := by decide +kernel
theorem d_MO_forget_22 : decode b_MO_forget 22 = .ok (.putfield 106, 3) := by decide +kernel
theorem d_MO_forget_25 : decode b_MO_forget 25 = .ok (.aload_n 0, 1) := by decide +kernel
theorem d_MO_forget_26 : decode b_MO_forget 26 = .ok (.iconst 0, 1) := by decide +kernel
theorem d_MO_forget_27 : decode b_MO_forget 27 = .ok (.putfield 109, 3) := by decide +kernel
theorem d_MO_forget_30 : decode b_MO_forget 30 = .ok (.iconst 0, 1) := by decide +kernel
theorem d_MO_forget_31 : decode b_MO_forget 31 = .ok (.istore_n 1, 1) := by decide +kernel
theorem d_MO_forget_32 : decode b_MO_forget 32 = .ok (.iload_n 1, 1) := by decide +kernel
theorem d_MO_forget_33 : decode b_MO_forget 33 = .ok (.sipush 200, 3) := by decide +kernel
theorem d_MO_forget_36 : decode b_MO_forget 36 = .ok (.if_icmp .ge 30, 3) := by decide +kernel
theorem d_MO_forget_39 : decode b_MO_forget 39 = .ok (.aload_n 0, 1) := by decide +kernel
theorem d_MO_forget_40 : decode b_MO_forget 40 = .ok (.getfield 25, 3) := by decide +kernel
theorem d_MO_forget_43 : decode b_MO_forget 43 = .ok (.iload_n 1, 1) := by decide +kernel
theorem d_MO_forget_44 : decode b_MO_forget 44 = .ok (.iconst (-1), 1) := by decide +kernel
theorem d_MO_forget_45 : decode b_MO_forget 45 = .ok (.iastore, 1) := by decide +kernel
theorem d_MO_forget_46 : decode b_MO_forget 46 = .ok (.aload_n 0, 1) := by decide +kernel
theorem d_MO_forget_47 : decode b_MO_forget 47 = .ok (.getfield 28, 3) := by decide +kernel
theorem d_MO_forget_50 : decode b_MO_forget 50 = .ok (.iload_n 1, 1) := by decide +kernel
theorem d_MO_forget_51 : decode b_MO_forget 51 = .ok (.iconst 0, 1) := by decide +kernel
theorem d_MO_forget_52 : decode b_MO_forget 52 = .ok (.iastore, 1) := by decide +kernel
theorem d_MO_forget_53 : decode b_MO_forget 53 = .ok (.aload_n 0, 1) := by decide +kernel
theorem d_MO_forget_54 : decode b_MO_forget 54 = .ok (.getfield 34, 3) := by decide +kernel
theorem d_MO_forget_57 : decode b_MO_forget 57 = .ok (.iload_n 1, 1) := by decide +kernel
theorem d_MO_forget_58 : decode b_MO_forget 58 = .ok (.iconst 0, 1) := by decide +kernel
theorem d_MO_forget_59 : decode b_MO_forget 59 = .ok (.bastore, 1) := by decide +kernel
theorem d_MO_forget_60 : decode b_MO_forget 60 = .ok (.iinc 1 1, 3) := by decide +kernel
theorem d_MO_forget_63 : decode b_MO_forget 63 = .ok (.goto (-31), 3) := by decide +kernel
theorem d_MO_forget_66 : decode b_MO_forget 66 = .ok (.iconst 0, 1) := by decide +kernel
theorem d_MO_forget_67 : decode b_MO_forget 67 = .ok (.istore_n 1, 1) := by decide +kernel
theorem d_MO_forget_68 : decode b_MO_forget 68 = .ok (.iload_n 1, 1) := by decide +kernel
theorem d_MO_forget_69 : decode b_MO_forget 69 = .ok (.bipush 16, 2) := by decide +kernel
theorem d_MO_forget_71 : decode b_MO_forget 71 = .ok (.if_icmp .ge 56, 3) := by decide +kernel
theorem d_MO_forget_74 : decode b_MO_forget 74 = .ok (.aload_n 0, 1) := by decide +kernel
theorem d_MO_forget_75 : decode b_MO_forget 75 = .ok (.getfield 38, 3) := by decide +kernel
theorem d_MO_forget_78 : decode b_MO_forget 78 = .ok (.iload_n 1, 1) := by decide +kernel
theorem d_MO_forget_79 : decode b_MO_forget 79 = .ok (.iload_n 1, 1) := by decide +kernel
theorem d_MO_forget_80 : decode b_MO_forget 80 = .ok (.aload_n 0, 1) := by decide +kernel
theorem d_MO_forget_81 : decode b_MO_forget 81 = .ok (.getfield 80, 3) := by decide +kernel
theorem d_MO_forget_84 : decode b_MO_forget 84 = .ok (.if_icmp .ge 7, 3) := by decide +kernel
theorem d_MO_forget_87 : decode b_MO_forget 87 = .ok (.iconst 1, 1) := by decide +kernel
theorem d_MO_forget_88 : decode b_MO_forget 88 = .ok (.goto 4, 3) := by decide +kernel
theorem d_MO_forget_91 : decode b_MO_forget 91 = .ok (.iconst 0, 1) := by decide +kernel
theorem d_MO_forget_92 : decode b_MO_forget 92 = .ok (.bastore, 1) := by decide +kernel
theorem d_MO_forget_93 : decode b_MO_forget 93 = .ok (.aload_n 0, 1) := by decide +kernel
theorem d_MO_forget_94 : decode b_MO_forget 94 = .ok (.getfield 44, 3) := by decide +kernel
theorem d_MO_forget_97 : decode b_MO_forget 97 = .ok (.iload_n 1, 1) := by decide +kernel
theorem d_MO_forget_98 : decode b_MO_forget 98 = .ok (.iconst 0, 1) := by decide +kernel
theorem d_MO_forget_99 : decode b_MO_forget 99 = .ok (.iastore, 1) := by decide +kernel
theorem d_MO_forget_100 : decode b_MO_forget 100 = .ok (.aload_n 0, 1) := by decide +kernel
theorem d_MO_forget_101 : decode b_MO_forget 101 = .ok (.getfield 47, 3) := by decide +kernel
theorem d_MO_forget_104 : decode b_MO_forget 104 = .ok (.iload_n 1, 1) := by decide +kernel
theorem d_MO_forget_105 : decode b_MO_forget 105 = .ok (.iconst 0, 1) := by decide +kernel
theorem d_MO_forget_106 : decode b_MO_forget 106 = .ok (.iastore, 1) := by decide +kernel
theorem d_MO_forget_107 : decode b_MO_forget 107 = .ok (.aload_n 0, 1) := by decide +kernel
theorem d_MO_forget_108 : decode b_MO_forget 108 = .ok (.getfield 50, 3) := by decide +kernel
theorem d_MO_forget_111 : decode b_MO_forget 111 = .ok (.iload_n 1, 1) := by decide +kernel
theorem d_MO_forget_112 : decode b_MO_forget 112 = .ok (.iconst 0, 1) := by decide +kernel
theorem d_MO_forget_113 : decode b_MO_forget 113 = .ok (.iastore, 1) := by decide +kernel
theorem d_MO_forget_114 : decode b_MO_forget 114 = .ok (.aload_n 0, 1) := by decide +kernel
theorem d_MO_forget_115 : decode b_MO_forget 115 = .ok (.getfield 62, 3) := by decide +kernel
theorem d_MO_forget_118 : decode b_MO_forget 118 = .ok (.iload_n 1, 1) := by decide +kernel
theorem d_MO_forget_119 : decode b_MO_forget 119 = .ok (.iconst 0, 1) := by decide +kernel
theorem d_MO_forget_120 : decode b_MO_forget 120 = .ok (.iastore, 1) := by decide +kernel
theorem d_MO_forget_121 : decode b_MO_forget 121 = .ok (.iinc 1 1, 3) := by decide +kernel
theorem d_MO_forget_124 : decode b_MO_forget 124 = .ok (.goto (-56), 3) := by decide +kernel
theorem d_MO_forget_127 : decode b_MO_forget 127 = .ok (.return_, 1) := by decide +kernel
abbrev b_MO_ownerOf : ByteArray := prog_12_method_11_code
def y_MO_ownerOf : MethodName := ⟨"ExploreSharesModel", "ownerOf", "(I)I"⟩
def w_MO_ownerOf : List Cond := .code y_MO_ownerOf b_MO_ownerOf 3 (some .int) :: xU
theorem d_MO_ownerOf_0 : decode b_MO_ownerOf 0 = .ok (.iload_n 1, 1) := by decide +kernel
theorem d_MO_ownerOf_1 : decode b_MO_ownerOf 1 = .ok (.invokestatic 135, 3) := by decide +kernel
theorem d_MO_ownerOf_4 : decode b_MO_ownerOf 4 = .ok (.ldc 139, 2) := by decide +kernel
theorem d_MO_ownerOf_6 : decode b_MO_ownerOf 6 = .ok (.idiv, 1) := by decide +kernel
theorem d_MO_ownerOf_7 : decode b_MO_ownerOf 7 = .ok (.aload_n 0, 1) := by decide +kernel
theorem d_MO_ownerOf_8 : decode b_MO_ownerOf 8 = .ok (.getfield 80, 3) := by decide +kernel
theorem d_MO_ownerOf_11 : decode b_MO_ownerOf 11 = .ok (.irem, 1) := by decide +kernel
theorem d_MO_ownerOf_12 : decode b_MO_ownerOf 12 = .ok (.istore_n 2, 1) := by decide +kernel
theorem d_MO_ownerOf_13 : decode b_MO_ownerOf 13 = .ok (.aload_n 0, 1) := by decide +kernel
theorem d_MO_ownerOf_14 : decode b_MO_ownerOf 14 = .ok (.getfield 38, 3) := by decide +kernel
theorem d_MO_ownerOf_17 : decode b_MO_ownerOf 17 = .ok (.iload_n 2, 1) := by decide +kernel
theorem d_MO_ownerOf_18 : decode b_MO_ownerOf 18 = .ok (.baload, 1) := by decide +kernel
theorem d_MO_ownerOf_19 : decode b_MO_ownerOf 19 = .ok (.ifCond .ne 15, 3) := by decide +kernel
theorem d_MO_ownerOf_22 : decode b_MO_ownerOf 22 = .ok (.iload_n 2, 1) := by decide +kernel
theorem d_MO_ownerOf_23 : decode b_MO_ownerOf 23 = .ok (.iconst 1, 1) := by decide +kernel
theorem d_MO_ownerOf_24 : decode b_MO_ownerOf 24 = .ok (.iadd, 1) := by decide +kernel
theorem d_MO_ownerOf_25 : decode b_MO_ownerOf 25 = .ok (.aload_n 0, 1) := by decide +kernel
theorem d_MO_ownerOf_26 : decode b_MO_ownerOf 26 = .ok (.getfield 80, 3) := by decide +kernel
theorem d_MO_ownerOf_29 : decode b_MO_ownerOf 29 = .ok (.irem, 1) := by decide +kernel
theorem d_MO_ownerOf_30 : decode b_MO_ownerOf 30 = .ok (.istore_n 2, 1) := by decide +kernel
theorem d_MO_ownerOf_31 : decode b_MO_ownerOf 31 = .ok (.goto (-18), 3) := by decide +kernel
theorem d_MO_ownerOf_34 : decode b_MO_ownerOf 34 = .ok (.iload_n 2, 1) := by decide +kernel
theorem d_MO_ownerOf_35 : decode b_MO_ownerOf 35 = .ok (.ireturn, 1) := by decide +kernel
abbrev b_MO_nextState : ByteArray := prog_12_method_12_code
def y_MO_nextState : MethodName := ⟨"ExploreSharesModel", "nextState", "(II)I"⟩
def w_MO_nextState : List Cond := .code y_MO_nextState b_MO_nextState 4 (some .int) :: xU
theorem d_MO_nextState_0 : decode b_MO_nextState 0 = .ok (.iload_n 2, 1) := by decide +kernel
theorem d_MO_nextState_1 : decode b_MO_nextState 1 = .ok (.istore_n 3, 1) := by decide +kernel
theorem d_MO_nextState_2 : decode b_MO_nextState 2 = .ok (.iload_n 3, 1) := by decide +kernel
theorem d_MO_nextState_3 : decode b_MO_nextState 3 = .ok (.aload_n 0, 1) := by decide +kernel
theorem d_MO_nextState_4 : decode b_MO_nextState 4 = .ok (.getfield 112, 3) := by decide +kernel
theorem d_MO_nextState_7 : decode b_MO_nextState 7 = .ok (.if_icmp .ge 33, 3) := by decide +kernel
theorem d_MO_nextState_10 : decode b_MO_nextState 10 = .ok (.aload_n 0, 1) := by decide +kernel
theorem d_MO_nextState_11 : decode b_MO_nextState 11 = .ok (.getfield 25, 3) := by decide +kernel
theorem d_MO_nextState_14 : decode b_MO_nextState 14 = .ok (.iload_n 3, 1) := by decide +kernel
theorem d_MO_nextState_15 : decode b_MO_nextState 15 = .ok (.iaload, 1) := by decide +kernel
theorem d_MO_nextState_16 : decode b_MO_nextState 16 = .ok (.aload_n 0, 1) := by decide +kernel
theorem d_MO_nextState_17 : decode b_MO_nextState 17 = .ok (.getfield 97, 3) := by decide +kernel
theorem d_MO_nextState_20 : decode b_MO_nextState 20 = .ok (.if_icmp .ne 14, 3) := by decide +kernel
theorem d_MO_nextState_23 : decode b_MO_nextState 23 = .ok (.aload_n 0, 1) := by decide +kernel
theorem d_MO_nextState_24 : decode b_MO_nextState 24 = .ok (.iload_n 3, 1) := by decide +kernel
theorem d_MO_nextState_25 : decode b_MO_nextState 25 = .ok (.invokevirtual 140, 3) := by decide +kernel
theorem d_MO_nextState_28 : decode b_MO_nextState 28 = .ok (.iload_n 1, 1) := by decide +kernel
theorem d_MO_nextState_29 : decode b_MO_nextState 29 = .ok (.if_icmp .ne 5, 3) := by decide +kernel
theorem d_MO_nextState_32 : decode b_MO_nextState 32 = .ok (.iload_n 3, 1) := by decide +kernel
theorem d_MO_nextState_33 : decode b_MO_nextState 33 = .ok (.ireturn, 1) := by decide +kernel
theorem d_MO_nextState_34 : decode b_MO_nextState 34 = .ok (.iinc 3 1, 3) := by decide +kernel
theorem d_MO_nextState_37 : decode b_MO_nextState 37 = .ok (.goto (-35), 3) := by decide +kernel
theorem d_MO_nextState_40 : decode b_MO_nextState 40 = .ok (.iconst (-1), 1) := by decide +kernel
theorem d_MO_nextState_41 : decode b_MO_nextState 41 = .ok (.ireturn, 1) := by decide +kernel
abbrev b_MO_target : ByteArray := prog_12_method_13_code
def y_MO_target : MethodName := ⟨"ExploreSharesModel", "target", "(II)I"⟩
def w_MO_target : List Cond := .code y_MO_target b_MO_target 5 (some .int) :: xU
theorem d_MO_target_0 : decode b_MO_target 0 = .ok (.iload_n 2, 1) := by decide +kernel
theorem d_MO_target_1 : decode b_MO_target 1 = .ok (.istore_n 3, 1) := by decide +kernel
theorem d_MO_target_2 : decode b_MO_target 2 = .ok (.iconst 0, 1) := by decide +kernel
theorem d_MO_target_3 : decode b_MO_target 3 = .ok (.istore 4, 2) := by decide +kernel
theorem d_MO_target_5 : decode b_MO_target 5 = .ok (.iload 4, 2) := by decide +kernel
theorem d_MO_target_7 : decode b_MO_target 7 = .ok (.aload_n 0, 1) := by decide +kernel
theorem d_MO_target_8 : decode b_MO_target 8 = .ok (.getfield 123, 3) := by decide +kernel
theorem d_MO_target_11 : decode b_MO_target 11 = .ok (.if_icmp .ge 38, 3) := by decide +kernel
theorem d_MO_target_14 : decode b_MO_target 14 = .ok (.aload_n 0, 1) := by decide +kernel
theorem d_MO_target_15 : decode b_MO_target 15 = .ok (.getfield 7, 3) := by decide +kernel
theorem d_MO_target_18 : decode b_MO_target 18 = .ok (.iload 4, 2) := by decide +kernel
theorem d_MO_target_20 : decode b_MO_target 20 = .ok (.iaload, 1) := by decide +kernel
theorem d_MO_target_21 : decode b_MO_target 21 = .ok (.iload_n 1, 1) := by decide +kernel
theorem d_MO_target_22 : decode b_MO_target 22 = .ok (.if_icmp .eq 6, 3) := by decide +kernel
theorem d_MO_target_25 : decode b_MO_target 25 = .ok (.goto 18, 3) := by decide +kernel
theorem d_MO_target_28 : decode b_MO_target 28 = .ok (.iload_n 3, 1) := by decide +kernel
theorem d_MO_target_29 : decode b_MO_target 29 = .ok (.ifCond .ne 11, 3) := by decide +kernel
theorem d_MO_target_32 : decode b_MO_target 32 = .ok (.aload_n 0, 1) := by decide +kernel
theorem d_MO_target_33 : decode b_MO_target 33 = .ok (.getfield 13, 3) := by decide +kernel
theorem d_MO_target_36 : decode b_MO_target 36 = .ok (.iload 4, 2) := by decide +kernel
theorem d_MO_target_38 : decode b_MO_target 38 = .ok (.iaload, 1) := by decide +kernel
theorem d_MO_target_39 : decode b_MO_target 39 = .ok (.ireturn, 1) := by decide +kernel
theorem d_MO_target_40 : decode b_MO_target 40 = .ok (.iinc 3 (-1), 3) := by decide +kernel
theorem d_MO_target_43 : decode b_MO_target 43 = .ok (.iinc 4 1, 3) := by decide +kernel
theorem d_MO_target_46 : decode b_MO_target 46 = .ok (.goto (-41), 3) := by decide +kernel
theorem d_MO_target_49 : decode b_MO_target 49 = .ok (.iconst (-1), 1) := by decide +kernel
theorem d_MO_target_50 : decode b_MO_target 50 = .ok (.ireturn, 1) := by decide +kernel
abbrev b_MO_isDone : ByteArray := prog_12_method_15_code
def y_MO_isDone : MethodName := ⟨"ExploreSharesModel", "isDone", "(I)Z"⟩
def w_MO_isDone : List Cond := .code y_MO_isDone b_MO_isDone 2 (some .boolean) :: xU
theorem d_MO_isDone_0 : decode b_MO_isDone 0 = .ok (.aload_n 0, 1) := by decide +kernel
theorem d_MO_isDone_1 : decode b_MO_isDone 1 = .ok (.getfield 38, 3) := by decide +kernel
theorem d_MO_isDone_4 : decode b_MO_isDone 4 = .ok (.iload_n 1, 1) := by decide +kernel
theorem d_MO_isDone_5 : decode b_MO_isDone 5 = .ok (.baload, 1) := by decide +kernel
theorem d_MO_isDone_6 : decode b_MO_isDone 6 = .ok (.ifCond .eq 21, 3) := by decide +kernel
theorem d_MO_isDone_9 : decode b_MO_isDone 9 = .ok (.aload_n 0, 1) := by decide +kernel
theorem d_MO_isDone_10 : decode b_MO_isDone 10 = .ok (.getfield 62, 3) := by decide +kernel
theorem d_MO_isDone_13 : decode b_MO_isDone 13 = .ok (.iload_n 1, 1) := by decide +kernel
theorem d_MO_isDone_14 : decode b_MO_isDone 14 = .ok (.iaload, 1) := by decide +kernel
theorem d_MO_isDone_15 : decode b_MO_isDone 15 = .ok (.ifCond .ne 16, 3) := by decide +kernel
theorem d_MO_isDone_18 : decode b_MO_isDone 18 = .ok (.aload_n 0, 1) := by decide +kernel
theorem d_MO_isDone_19 : decode b_MO_isDone 19 = .ok (.getfield 56, 3) := by decide +kernel
theorem d_MO_isDone_22 : decode b_MO_isDone 22 = .ok (.iload_n 1, 1) := by decide +kernel
theorem d_MO_isDone_23 : decode b_MO_isDone 23 = .ok (.iaload, 1) := by decide +kernel
theorem d_MO_isDone_24 : decode b_MO_isDone 24 = .ok (.ifCond .ge 7, 3) := by decide +kernel
theorem d_MO_isDone_27 : decode b_MO_isDone 27 = .ok (.iconst 1, 1) := by decide +kernel
theorem d_MO_isDone_28 : decode b_MO_isDone 28 = .ok (.goto 4, 3) := by decide +kernel
theorem d_MO_isDone_31 : decode b_MO_isDone 31 = .ok (.iconst 0, 1) := by decide +kernel
theorem d_MO_isDone_32 : decode b_MO_isDone 32 = .ok (.ireturn, 1) := by decide +kernel
abbrev b_MO_meet : ByteArray := prog_12_method_16_code
def y_MO_meet : MethodName := ⟨"ExploreSharesModel", "meet", "(I)V"⟩
def w_MO_meet : List Cond := .code y_MO_meet b_MO_meet 2 (none) :: xU
theorem d_MO_meet_0 : decode b_MO_meet 0 = .ok (.aload_n 0, 1) := by decide +kernel
theorem d_MO_meet_1 : decode b_MO_meet 1 = .ok (.getfield 34, 3) := by decide +kernel
theorem d_MO_meet_4 : decode b_MO_meet 4 = .ok (.iload_n 1, 1) := by decide +kernel
theorem d_MO_meet_5 : decode b_MO_meet 5 = .ok (.aload_n 0, 1) := by decide +kernel
theorem d_MO_meet_6 : decode b_MO_meet 6 = .ok (.getfield 34, 3) := by decide +kernel
theorem d_MO_meet_9 : decode b_MO_meet 9 = .ok (.iload_n 1, 1) := by decide +kernel
theorem d_MO_meet_10 : decode b_MO_meet 10 = .ok (.baload, 1) := by decide +kernel
theorem d_MO_meet_11 : decode b_MO_meet 11 = .ok (.ifCond .ne 12, 3) := by decide +kernel
theorem d_MO_meet_14 : decode b_MO_meet 14 = .ok (.aload_n 0, 1) := by decide +kernel
theorem d_MO_meet_15 : decode b_MO_meet 15 = .ok (.getfield 25, 3) := by decide +kernel
theorem d_MO_meet_18 : decode b_MO_meet 18 = .ok (.iload_n 1, 1) := by decide +kernel
theorem d_MO_meet_19 : decode b_MO_meet 19 = .ok (.iaload, 1) := by decide +kernel
theorem d_MO_meet_20 : decode b_MO_meet 20 = .ok (.ifCond .ge 7, 3) := by decide +kernel
theorem d_MO_meet_23 : decode b_MO_meet 23 = .ok (.iconst 1, 1) := by decide +kernel
theorem d_MO_meet_24 : decode b_MO_meet 24 = .ok (.goto 4, 3) := by decide +kernel
theorem d_MO_meet_27 : decode b_MO_meet 27 = .ok (.iconst 0, 1) := by decide +kernel
theorem d_MO_meet_28 : decode b_MO_meet 28 = .ok (.bastore, 1) := by decide +kernel
theorem d_MO_meet_29 : decode b_MO_meet 29 = .ok (.return_, 1) := by decide +kernel
abbrev b_MO_take : ByteArray := prog_12_method_17_code
def y_MO_take : MethodName := ⟨"ExploreSharesModel", "take", "(I)V"⟩
def w_MO_take : List Cond := .code y_MO_take b_MO_take 4 (none) :: xU
theorem d_MO_take_0 : decode b_MO_take 0 = .ok (.aload_n 0, 1) := by decide +kernel
theorem d_MO_take_1 : decode b_MO_take 1 = .ok (.getfield 65, 3) := by decide +kernel
theorem d_MO_take_4 : decode b_MO_take 4 = .ok (.bipush 8, 2) := by decide +kernel
theorem d_MO_take_6 : decode b_MO_take 6 = .ok (.iload_n 1, 1) := by decide +kernel
theorem d_MO_take_7 : decode b_MO_take 7 = .ok (.imul, 1) := by decide +kernel
theorem d_MO_take_8 : decode b_MO_take 8 = .ok (.iaload, 1) := by decide +kernel
theorem d_MO_take_9 : decode b_MO_take 9 = .ok (.istore_n 2, 1) := by decide +kernel
theorem d_MO_take_10 : decode b_MO_take 10 = .ok (.iconst 1, 1) := by decide +kernel
theorem d_MO_take_11 : decode b_MO_take 11 = .ok (.istore_n 3, 1) := by decide +kernel
theorem d_MO_take_12 : decode b_MO_take 12 = .ok (.iload_n 3, 1) := by decide +kernel
theorem d_MO_take_13 : decode b_MO_take 13 = .ok (.aload_n 0, 1) := by decide +kernel
theorem d_MO_take_14 : decode b_MO_take 14 = .ok (.getfield 62, 3) := by decide +kernel
theorem d_MO_take_17 : decode b_MO_take 17 = .ok (.iload_n 1, 1) := by decide +kernel
theorem d_MO_take_18 : decode b_MO_take 18 = .ok (.iaload, 1) := by decide +kernel
theorem d_MO_take_19 : decode b_MO_take 19 = .ok (.if_icmp .ge 33, 3) := by decide +kernel
theorem d_MO_take_22 : decode b_MO_take 22 = .ok (.aload_n 0, 1) := by decide +kernel
theorem d_MO_take_23 : decode b_MO_take 23 = .ok (.getfield 65, 3) := by decide +kernel
theorem d_MO_take_26 : decode b_MO_take 26 = .ok (.bipush 8, 2) := by decide +kernel
theorem d_MO_take_28 : decode b_MO_take 28 = .ok (.iload_n 1, 1) := by decide +kernel
theorem d_MO_take_29 : decode b_MO_take 29 = .ok (.imul, 1) := by decide +kernel
theorem d_MO_take_30 : decode b_MO_take 30 = .ok (.iload_n 3, 1) := by decide +kernel
theorem d_MO_take_31 : decode b_MO_take 31 = .ok (.iadd, 1) := by decide +kernel
theorem d_MO_take_32 : decode b_MO_take 32 = .ok (.iconst 1, 1) := by decide +kernel
theorem d_MO_take_33 : decode b_MO_take 33 = .ok (.isub, 1) := by decide +kernel
theorem d_MO_take_34 : decode b_MO_take 34 = .ok (.aload_n 0, 1) := by decide +kernel
theorem d_MO_take_35 : decode b_MO_take 35 = .ok (.getfield 65, 3) := by decide +kernel
theorem d_MO_take_38 : decode b_MO_take 38 = .ok (.bipush 8, 2) := by decide +kernel
theorem d_MO_take_40 : decode b_MO_take 40 = .ok (.iload_n 1, 1) := by decide +kernel
theorem d_MO_take_41 : decode b_MO_take 41 = .ok (.imul, 1) := by decide +kernel
theorem d_MO_take_42 : decode b_MO_take 42 = .ok (.iload_n 3, 1) := by decide +kernel
theorem d_MO_take_43 : decode b_MO_take 43 = .ok (.iadd, 1) := by decide +kernel
theorem d_MO_take_44 : decode b_MO_take 44 = .ok (.iaload, 1) := by decide +kernel
theorem d_MO_take_45 : decode b_MO_take 45 = .ok (.iastore, 1) := by decide +kernel
theorem d_MO_take_46 : decode b_MO_take 46 = .ok (.iinc 3 1, 3) := by decide +kernel
theorem d_MO_take_49 : decode b_MO_take 49 = .ok (.goto (-37), 3) := by decide +kernel
theorem d_MO_take_52 : decode b_MO_take 52 = .ok (.aload_n 0, 1) := by decide +kernel
theorem d_MO_take_53 : decode b_MO_take 53 = .ok (.getfield 62, 3) := by decide +kernel
theorem d_MO_take_56 : decode b_MO_take 56 = .ok (.iload_n 1, 1) := by decide +kernel
theorem d_MO_take_57 : decode b_MO_take 57 = .ok (.dup2, 1) := by decide +kernel
theorem d_MO_take_58 : decode b_MO_take 58 = .ok (.iaload, 1) := by decide +kernel
theorem d_MO_take_59 : decode b_MO_take 59 = .ok (.iconst 1, 1) := by decide +kernel
theorem d_MO_take_60 : decode b_MO_take 60 = .ok (.isub, 1) := by decide +kernel
theorem d_MO_take_61 : decode b_MO_take 61 = .ok (.iastore, 1) := by decide +kernel
theorem d_MO_take_62 : decode b_MO_take 62 = .ok (.aload_n 0, 1) := by decide +kernel
theorem d_MO_take_63 : decode b_MO_take 63 = .ok (.getfield 47, 3) := by decide +kernel
theorem d_MO_take_66 : decode b_MO_take 66 = .ok (.iload_n 1, 1) := by decide +kernel
theorem d_MO_take_67 : decode b_MO_take 67 = .ok (.dup2, 1) := by decide +kernel
theorem d_MO_take_68 : decode b_MO_take 68 = .ok (.iaload, 1) := by decide +kernel
theorem d_MO_take_69 : decode b_MO_take 69 = .ok (.iconst 1, 1) := by decide +kernel
theorem d_MO_take_70 : decode b_MO_take 70 = .ok (.iadd, 1) := by decide +kernel
theorem d_MO_take_71 : decode b_MO_take 71 = .ok (.iastore, 1) := by decide +kernel
theorem d_MO_take_72 : decode b_MO_take 72 = .ok (.aload_n 0, 1) := by decide +kernel
theorem d_MO_take_73 : decode b_MO_take 73 = .ok (.iload_n 2, 1) := by decide +kernel
theorem d_MO_take_74 : decode b_MO_take 74 = .ok (.invokevirtual 146, 3) := by decide +kernel
theorem d_MO_take_77 : decode b_MO_take 77 = .ok (.return_, 1) := by decide +kernel
abbrev b_MO_live : ByteArray := prog_12_method_19_code
def y_MO_live : MethodName := ⟨"ExploreSharesModel", "live", "()I"⟩
def w_MO_live : List Cond := .code y_MO_live b_MO_live 3 (some .int) :: xU
theorem d_MO_live_0 : decode b_MO_live 0 = .ok (.iconst 0, 1) := by decide +kernel
theorem d_MO_live_1 : decode b_MO_live 1 = .ok (.istore_n 1, 1) := by decide +kernel
theorem d_MO_live_2 : decode b_MO_live 2 = .ok (.iconst 0, 1) := by decide +kernel
theorem d_MO_live_3 : decode b_MO_live 3 = .ok (.istore_n 2, 1) := by decide +kernel
theorem d_MO_live_4 : decode b_MO_live 4 = .ok (.iload_n 2, 1) := by decide +kernel
theorem d_MO_live_5 : decode b_MO_live 5 = .ok (.aload_n 0, 1) := by decide +kernel
theorem d_MO_live_6 : decode b_MO_live 6 = .ok (.getfield 80, 3) := by decide +kernel
theorem d_MO_live_9 : decode b_MO_live 9 = .ok (.if_icmp .ge 26, 3) := by decide +kernel
theorem d_MO_live_12 : decode b_MO_live 12 = .ok (.iload_n 1, 1) := by decide +kernel
theorem d_MO_live_13 : decode b_MO_live 13 = .ok (.aload_n 0, 1) := by decide +kernel
theorem d_MO_live_14 : decode b_MO_live 14 = .ok (.getfield 38, 3) := by decide +kernel
theorem d_MO_live_17 : decode b_MO_live 17 = .ok (.iload_n 2, 1) := by decide +kernel
theorem d_MO_live_18 : decode b_MO_live 18 = .ok (.baload, 1) := by decide +kernel
theorem d_MO_live_19 : decode b_MO_live 19 = .ok (.ifCond .eq 7, 3) := by decide +kernel
theorem d_MO_live_22 : decode b_MO_live 22 = .ok (.iconst 1, 1) := by decide +kernel
theorem d_MO_live_23 : decode b_MO_live 23 = .ok (.goto 4, 3) := by decide +kernel
theorem d_MO_live_26 : decode b_MO_live 26 = .ok (.iconst 0, 1) := by decide +kernel
theorem d_MO_live_27 : decode b_MO_live 27 = .ok (.iadd, 1) := by decide +kernel
theorem d_MO_live_28 : decode b_MO_live 28 = .ok (.istore_n 1, 1) := by decide +kernel
theorem d_MO_live_29 : decode b_MO_live 29 = .ok (.iinc 2 1, 3) := by decide +kernel
theorem d_MO_live_32 : decode b_MO_live 32 = .ok (.goto (-28), 3) := by decide +kernel
theorem d_MO_live_35 : decode b_MO_live 35 = .ok (.iload_n 1, 1) := by decide +kernel
theorem d_MO_live_36 : decode b_MO_live 36 = .ok (.ireturn, 1) := by decide +kernel
abbrev b_MO_toldAt : ByteArray := prog_12_method_8_code
def y_MO_toldAt : MethodName := ⟨"ExploreSharesModel", "toldAt", "(II)I"⟩
def w_MO_toldAt : List Cond := .code y_MO_toldAt b_MO_toldAt 4 (some .int) :: xU
theorem d_MO_toldAt_0 : decode b_MO_toldAt 0 = .ok (.iconst 0, 1) := by decide +kernel
theorem d_MO_toldAt_1 : decode b_MO_toldAt 1 = .ok (.istore_n 3, 1) := by decide +kernel
theorem d_MO_toldAt_2 : decode b_MO_toldAt 2 = .ok (.iload_n 3, 1) := by decide +kernel
theorem d_MO_toldAt_3 : decode b_MO_toldAt 3 = .ok (.aload_n 0, 1) := by decide +kernel
theorem d_MO_toldAt_4 : decode b_MO_toldAt 4 = .ok (.getfield 126, 3) := by decide +kernel
theorem d_MO_toldAt_7 : decode b_MO_toldAt 7 = .ok (.if_icmp .ge 31, 3) := by decide +kernel
theorem d_MO_toldAt_10 : decode b_MO_toldAt 10 = .ok (.aload_n 0, 1) := by decide +kernel
theorem d_MO_toldAt_11 : decode b_MO_toldAt 11 = .ok (.getfield 16, 3) := by decide +kernel
theorem d_MO_toldAt_14 : decode b_MO_toldAt 14 = .ok (.iload_n 3, 1) := by decide +kernel
theorem d_MO_toldAt_15 : decode b_MO_toldAt 15 = .ok (.iaload, 1) := by decide +kernel
theorem d_MO_toldAt_16 : decode b_MO_toldAt 16 = .ok (.iload_n 1, 1) := by decide +kernel
theorem d_MO_toldAt_17 : decode b_MO_toldAt 17 = .ok (.if_icmp .ne 15, 3) := by decide +kernel
theorem d_MO_toldAt_20 : decode b_MO_toldAt 20 = .ok (.aload_n 0, 1) := by decide +kernel
theorem d_MO_toldAt_21 : decode b_MO_toldAt 21 = .ok (.getfield 19, 3) := by decide +kernel
theorem d_MO_toldAt_24 : decode b_MO_toldAt 24 = .ok (.iload_n 3, 1) := by decide +kernel
theorem d_MO_toldAt_25 : decode b_MO_toldAt 25 = .ok (.iaload, 1) := by decide +kernel
theorem d_MO_toldAt_26 : decode b_MO_toldAt 26 = .ok (.iload_n 2, 1) := by decide +kernel
theorem d_MO_toldAt_27 : decode b_MO_toldAt 27 = .ok (.if_icmp .ne 5, 3) := by decide +kernel
theorem d_MO_toldAt_30 : decode b_MO_toldAt 30 = .ok (.iload_n 3, 1) := by decide +kernel
theorem d_MO_toldAt_31 : decode b_MO_toldAt 31 = .ok (.ireturn, 1) := by decide +kernel
theorem d_MO_toldAt_32 : decode b_MO_toldAt 32 = .ok (.iinc 3 1, 3) := by decide +kernel
theorem d_MO_toldAt_35 : decode b_MO_toldAt 35 = .ok (.goto (-33), 3) := by decide +kernel
theorem d_MO_toldAt_38 : decode b_MO_toldAt 38 = .ok (.iconst (-1), 1) := by decide +kernel
theorem d_MO_toldAt_39 : decode b_MO_toldAt 39 = .ok (.ireturn, 1) := by decide +kernel
abbrev b_MO_fails : ByteArray := prog_12_method_20_code
def y_MO_fails : MethodName := ⟨"ExploreSharesModel", "fails", "(I)Z"⟩
def w_MO_fails : List Cond := .code y_MO_fails b_MO_fails 3 (some .boolean) :: xU
theorem d_MO_fails_0 : decode b_MO_fails 0 = .ok (.aload_n 0, 1) := by decide +kernel
theorem d_MO_fails_1 : decode b_MO_fails 1 = .ok (.iload_n 1, 1) := by decide +kernel
theorem d_MO_fails_2 : decode b_MO_fails 2 = .ok (.aload_n 0, 1) := by decide +kernel
theorem d_MO_fails_3 : decode b_MO_fails 3 = .ok (.getfield 97, 3) := by decide +kernel
theorem d_MO_fails_6 : decode b_MO_fails 6 = .ok (.invokevirtual 129, 3) := by decide +kernel
theorem d_MO_fails_9 : decode b_MO_fails 9 = .ok (.istore_n 2, 1) := by decide +kernel
theorem d_MO_fails_10 : decode b_MO_fails 10 = .ok (.iload_n 2, 1) := by decide +kernel
theorem d_MO_fails_11 : decode b_MO_fails 11 = .ok (.ifCond .lt 32, 3) := by decide +kernel
theorem d_MO_fails_14 : decode b_MO_fails 14 = .ok (.aload_n 0, 1) := by decide +kernel
theorem d_MO_fails_15 : decode b_MO_fails 15 = .ok (.getfield 22, 3) := by decide +kernel
theorem d_MO_fails_18 : decode b_MO_fails 18 = .ok (.iload_n 2, 1) := by decide +kernel
theorem d_MO_fails_19 : decode b_MO_fails 19 = .ok (.iaload, 1) := by decide +kernel
theorem d_MO_fails_20 : decode b_MO_fails 20 = .ok (.aload_n 0, 1) := by decide +kernel
theorem d_MO_fails_21 : decode b_MO_fails 21 = .ok (.getfield 53, 3) := by decide +kernel
theorem d_MO_fails_24 : decode b_MO_fails 24 = .ok (.iload_n 1, 1) := by decide +kernel
theorem d_MO_fails_25 : decode b_MO_fails 25 = .ok (.iaload, 1) := by decide +kernel
theorem d_MO_fails_26 : decode b_MO_fails 26 = .ok (.iconst 1, 1) := by decide +kernel
theorem d_MO_fails_27 : decode b_MO_fails 27 = .ok (.iadd, 1) := by decide +kernel
theorem d_MO_fails_28 : decode b_MO_fails 28 = .ok (.if_icmp .ne 15, 3) := by decide +kernel
theorem d_MO_fails_31 : decode b_MO_fails 31 = .ok (.aload_n 0, 1) := by decide +kernel
theorem d_MO_fails_32 : decode b_MO_fails 32 = .ok (.invokevirtual 156, 3) := by decide +kernel
theorem d_MO_fails_35 : decode b_MO_fails 35 = .ok (.iconst 1, 1) := by decide +kernel
theorem d_MO_fails_36 : decode b_MO_fails 36 = .ok (.if_icmp .le 7, 3) := by decide +kernel
theorem d_MO_fails_39 : decode b_MO_fails 39 = .ok (.iconst 1, 1) := by decide +kernel
theorem d_MO_fails_40 : decode b_MO_fails 40 = .ok (.goto 4, 3) := by decide +kernel
theorem d_MO_fails_43 : decode b_MO_fails 43 = .ok (.iconst 0, 1) := by decide +kernel
theorem d_MO_fails_44 : decode b_MO_fails 44 = .ok (.ireturn, 1) := by decide +kernel
