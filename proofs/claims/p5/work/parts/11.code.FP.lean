abbrev b_FP_init : ByteArray := prog_4_method_1_code
def y_FP_init : MethodName := ⟨"ExploreShares$FailPlan", "<init>", "()V"⟩
def w_FP_init : List Cond := .code y_FP_init b_FP_init 1 (none) :: xU
theorem d_FP_init_0 : decode b_FP_init 0 = .ok (.aload_n 0, 1) := by decide +kernel
theorem d_FP_init_1 : decode b_FP_init 1 = .ok (.invokespecial 3, 3) := by decide +kernel
theorem d_FP_init_4 : decode b_FP_init 4 = .ok (.aload_n 0, 1) := by decide +kernel
theorem d_FP_init_5 : decode b_FP_init 5 = .ok (.bipush 20, 2) := by decide +kernel
theorem d_FP_init_7 : decode b_FP_init 7 = .ok (.newarray .int, 2) := by decide +kernel
theorem d_FP_init_9 : decode b_FP_init 9 = .ok (.putfield 9, 3) := by decide +kernel
theorem d_FP_init_12 : decode b_FP_init 12 = .ok (.aload_n 0, 1) := by decide +kernel
theorem d_FP_init_13 : decode b_FP_init 13 = .ok (.bipush 20, 2) := by decide +kernel
theorem d_FP_init_15 : decode b_FP_init 15 = .ok (.newarray .int, 2) := by decide +kernel
theorem d_FP_init_17 : decode b_FP_init 17 = .ok (.putfield 15, 3) := by decide +kernel
theorem d_FP_init_20 : decode b_FP_init 20 = .ok (.aload_n 0, 1) := by decide +kernel
theorem d_FP_init_21 : decode b_FP_init 21 = .ok (.bipush 20, 2) := by decide +kernel
theorem d_FP_init_23 : decode b_FP_init 23 = .ok (.newarray .int, 2) := by decide +kernel
theorem d_FP_init_25 : decode b_FP_init 25 = .ok (.putfield 18, 3) := by decide +kernel
theorem d_FP_init_28 : decode b_FP_init 28 = .ok (.return_, 1) := by decide +kernel
abbrev b_FP_placeOf : ByteArray := prog_4_method_2_code
def y_FP_placeOf : MethodName := ⟨"ExploreShares$FailPlan", "placeOf", "(II)I"⟩
def w_FP_placeOf : List Cond := .code y_FP_placeOf b_FP_placeOf 4 (some .int) :: xU
theorem d_FP_placeOf_0 : decode b_FP_placeOf 0 = .ok (.iconst 0, 1) := by decide +kernel
theorem d_FP_placeOf_1 : decode b_FP_placeOf 1 = .ok (.istore_n 3, 1) := by decide +kernel
theorem d_FP_placeOf_2 : decode b_FP_placeOf 2 = .ok (.iload_n 3, 1) := by decide +kernel
theorem d_FP_placeOf_3 : decode b_FP_placeOf 3 = .ok (.aload_n 0, 1) := by decide +kernel
theorem d_FP_placeOf_4 : decode b_FP_placeOf 4 = .ok (.getfield 21, 3) := by decide +kernel
theorem d_FP_placeOf_7 : decode b_FP_placeOf 7 = .ok (.if_icmp .ge 31, 3) := by decide +kernel
theorem d_FP_placeOf_10 : decode b_FP_placeOf 10 = .ok (.aload_n 0, 1) := by decide +kernel
theorem d_FP_placeOf_11 : decode b_FP_placeOf 11 = .ok (.getfield 9, 3) := by decide +kernel
theorem d_FP_placeOf_14 : decode b_FP_placeOf 14 = .ok (.iload_n 3, 1) := by decide +kernel
theorem d_FP_placeOf_15 : decode b_FP_placeOf 15 = .ok (.iaload, 1) := by decide +kernel
theorem d_FP_placeOf_16 : decode b_FP_placeOf 16 = .ok (.iload_n 1, 1) := by decide +kernel
theorem d_FP_placeOf_17 : decode b_FP_placeOf 17 = .ok (.if_icmp .ne 15, 3) := by decide +kernel
theorem d_FP_placeOf_20 : decode b_FP_placeOf 20 = .ok (.aload_n 0, 1) := by decide +kernel
theorem d_FP_placeOf_21 : decode b_FP_placeOf 21 = .ok (.getfield 15, 3) := by decide +kernel
theorem d_FP_placeOf_24 : decode b_FP_placeOf 24 = .ok (.iload_n 3, 1) := by decide +kernel
theorem d_FP_placeOf_25 : decode b_FP_placeOf 25 = .ok (.iaload, 1) := by decide +kernel
theorem d_FP_placeOf_26 : decode b_FP_placeOf 26 = .ok (.iload_n 2, 1) := by decide +kernel
theorem d_FP_placeOf_27 : decode b_FP_placeOf 27 = .ok (.if_icmp .ne 5, 3) := by decide +kernel
theorem d_FP_placeOf_30 : decode b_FP_placeOf 30 = .ok (.iload_n 3, 1) := by decide +kernel
theorem d_FP_placeOf_31 : decode b_FP_placeOf 31 = .ok (.ireturn, 1) := by decide +kernel
theorem d_FP_placeOf_32 : decode b_FP_placeOf 32 = .ok (.iinc 3 1, 3) := by decide +kernel
theorem d_FP_placeOf_35 : decode b_FP_placeOf 35 = .ok (.goto (-33), 3) := by decide +kernel
theorem d_FP_placeOf_38 : decode b_FP_placeOf 38 = .ok (.iconst (-1), 1) := by decide +kernel
theorem d_FP_placeOf_39 : decode b_FP_placeOf 39 = .ok (.ireturn, 1) := by decide +kernel
abbrev b_FP_takeBack : ByteArray := prog_4_method_4_code
def y_FP_takeBack : MethodName := ⟨"ExploreShares$FailPlan", "takeBack", "(I)V"⟩
def w_FP_takeBack : List Cond := .code y_FP_takeBack b_FP_takeBack 2 (none) :: xU
theorem d_FP_takeBack_0 : decode b_FP_takeBack 0 = .ok (.aload_n 0, 1) := by decide +kernel
theorem d_FP_takeBack_1 : decode b_FP_takeBack 1 = .ok (.dup, 1) := by decide +kernel
theorem d_FP_takeBack_2 : decode b_FP_takeBack 2 = .ok (.getfield 21, 3) := by decide +kernel
theorem d_FP_takeBack_5 : decode b_FP_takeBack 5 = .ok (.iconst 1, 1) := by decide +kernel
theorem d_FP_takeBack_6 : decode b_FP_takeBack 6 = .ok (.isub, 1) := by decide +kernel
theorem d_FP_takeBack_7 : decode b_FP_takeBack 7 = .ok (.putfield 21, 3) := by decide +kernel
theorem d_FP_takeBack_10 : decode b_FP_takeBack 10 = .ok (.aload_n 0, 1) := by decide +kernel
theorem d_FP_takeBack_11 : decode b_FP_takeBack 11 = .ok (.getfield 9, 3) := by decide +kernel
theorem d_FP_takeBack_14 : decode b_FP_takeBack 14 = .ok (.iload_n 1, 1) := by decide +kernel
theorem d_FP_takeBack_15 : decode b_FP_takeBack 15 = .ok (.aload_n 0, 1) := by decide +kernel
theorem d_FP_takeBack_16 : decode b_FP_takeBack 16 = .ok (.getfield 9, 3) := by decide +kernel
theorem d_FP_takeBack_19 : decode b_FP_takeBack 19 = .ok (.aload_n 0, 1) := by decide +kernel
theorem d_FP_takeBack_20 : decode b_FP_takeBack 20 = .ok (.getfield 21, 3) := by decide +kernel
theorem d_FP_takeBack_23 : decode b_FP_takeBack 23 = .ok (.iaload, 1) := by decide +kernel
theorem d_FP_takeBack_24 : decode b_FP_takeBack 24 = .ok (.iastore, 1) := by decide +kernel
theorem d_FP_takeBack_25 : decode b_FP_takeBack 25 = .ok (.aload_n 0, 1) := by decide +kernel
theorem d_FP_takeBack_26 : decode b_FP_takeBack 26 = .ok (.getfield 15, 3) := by decide +kernel
theorem d_FP_takeBack_29 : decode b_FP_takeBack 29 = .ok (.iload_n 1, 1) := by decide +kernel
theorem d_FP_takeBack_30 : decode b_FP_takeBack 30 = .ok (.aload_n 0, 1) := by decide +kernel
theorem d_FP_takeBack_31 : decode b_FP_takeBack 31 = .ok (.getfield 15, 3) := by decide +kernel
theorem d_FP_takeBack_34 : decode b_FP_takeBack 34 = .ok (.aload_n 0, 1) := by decide +kernel
theorem d_FP_takeBack_35 : decode b_FP_takeBack 35 = .ok (.getfield 21, 3) := by decide +kernel
theorem d_FP_takeBack_38 : decode b_FP_takeBack 38 = .ok (.iaload, 1) := by decide +kernel
theorem d_FP_takeBack_39 : decode b_FP_takeBack 39 = .ok (.iastore, 1) := by decide +kernel
theorem d_FP_takeBack_40 : decode b_FP_takeBack 40 = .ok (.aload_n 0, 1) := by decide +kernel
theorem d_FP_takeBack_41 : decode b_FP_takeBack 41 = .ok (.getfield 18, 3) := by decide +kernel
theorem d_FP_takeBack_44 : decode b_FP_takeBack 44 = .ok (.iload_n 1, 1) := by decide +kernel
theorem d_FP_takeBack_45 : decode b_FP_takeBack 45 = .ok (.aload_n 0, 1) := by decide +kernel
theorem d_FP_takeBack_46 : decode b_FP_takeBack 46 = .ok (.getfield 18, 3) := by decide +kernel
theorem d_FP_takeBack_49 : decode b_FP_takeBack 49 = .ok (.aload_n 0, 1) := by decide +kernel
theorem d_FP_takeBack_50 : decode b_FP_takeBack 50 = .ok (.getfield 21, 3) := by decide +kernel
theorem d_FP_takeBack_53 : decode b_FP_takeBack 53 = .ok (.iaload, 1) := by decide +kernel
theorem d_FP_takeBack_54 : decode b_FP_takeBack 54 = .ok (.iastore, 1) := by decide +kernel
theorem d_FP_takeBack_55 : decode b_FP_takeBack 55 = .ok (.return_, 1) := by decide +kernel
abbrev b_FP_tell : ByteArray := prog_4_method_3_code
def y_FP_tell : MethodName := ⟨"ExploreShares$FailPlan", "tell", "(III)V"⟩
def w_FP_tell : List Cond := .code y_FP_tell b_FP_tell 5 (none) :: xU
theorem d_FP_tell_0 : decode b_FP_tell 0 = .ok (.aload_n 0, 1) := by decide +kernel
theorem d_FP_tell_1 : decode b_FP_tell 1 = .ok (.iload_n 1, 1) := by decide +kernel
theorem d_FP_tell_2 : decode b_FP_tell 2 = .ok (.iload_n 2, 1) := by decide +kernel
theorem d_FP_tell_3 : decode b_FP_tell 3 = .ok (.invokevirtual 25, 3) := by decide +kernel
theorem d_FP_tell_6 : decode b_FP_tell 6 = .ok (.istore 4, 2) := by decide +kernel
theorem d_FP_tell_8 : decode b_FP_tell 8 = .ok (.iload 4, 2) := by decide +kernel
theorem d_FP_tell_10 : decode b_FP_tell 10 = .ok (.iconst (-1), 1) := by decide +kernel
theorem d_FP_tell_11 : decode b_FP_tell 11 = .ok (.if_icmp .eq 16, 3) := by decide +kernel
theorem d_FP_tell_14 : decode b_FP_tell 14 = .ok (.iload_n 3, 1) := by decide +kernel
theorem d_FP_tell_15 : decode b_FP_tell 15 = .ok (.ifCond .ne 12, 3) := by decide +kernel
theorem d_FP_tell_18 : decode b_FP_tell 18 = .ok (.aload_n 0, 1) := by decide +kernel
theorem d_FP_tell_19 : decode b_FP_tell 19 = .ok (.iload 4, 2) := by decide +kernel
theorem d_FP_tell_21 : decode b_FP_tell 21 = .ok (.invokevirtual 29, 3) := by decide +kernel
theorem d_FP_tell_24 : decode b_FP_tell 24 = .ok (.goto 73, 3) := by decide +kernel
theorem d_FP_tell_27 : decode b_FP_tell 27 = .ok (.iload 4, 2) := by decide +kernel
theorem d_FP_tell_29 : decode b_FP_tell 29 = .ok (.iconst (-1), 1) := by decide +kernel
theorem d_FP_tell_30 : decode b_FP_tell 30 = .ok (.if_icmp .eq 14, 3) := by decide +kernel
theorem d_FP_tell_33 : decode b_FP_tell 33 = .ok (.aload_n 0, 1) := by decide +kernel
theorem d_FP_tell_34 : decode b_FP_tell 34 = .ok (.getfield 18, 3) := by decide +kernel
theorem d_FP_tell_37 : decode b_FP_tell 37 = .ok (.iload 4, 2) := by decide +kernel
theorem d_FP_tell_39 : decode b_FP_tell 39 = .ok (.iload_n 3, 1) := by decide +kernel
theorem d_FP_tell_40 : decode b_FP_tell 40 = .ok (.iastore, 1) := by decide +kernel
theorem d_FP_tell_41 : decode b_FP_tell 41 = .ok (.goto 56, 3) := by decide +kernel
theorem d_FP_tell_44 : decode b_FP_tell 44 = .ok (.iload_n 3, 1) := by decide +kernel
theorem d_FP_tell_45 : decode b_FP_tell 45 = .ok (.ifCond .eq 52, 3) := by decide +kernel
theorem d_FP_tell_48 : decode b_FP_tell 48 = .ok (.aload_n 0, 1) := by decide +kernel
theorem d_FP_tell_49 : decode b_FP_tell 49 = .ok (.getfield 21, 3) := by decide +kernel
theorem d_FP_tell_52 : decode b_FP_tell 52 = .ok (.bipush 20, 2) := by decide +kernel
theorem d_FP_tell_54 : decode b_FP_tell 54 = .ok (.if_icmp .ge 43, 3) := by decide +kernel
theorem d_FP_tell_57 : decode b_FP_tell 57 = .ok (.aload_n 0, 1) := by decide +kernel
theorem d_FP_tell_58 : decode b_FP_tell 58 = .ok (.getfield 9, 3) := by decide +kernel
theorem d_FP_tell_61 : decode b_FP_tell 61 = .ok (.aload_n 0, 1) := by decide +kernel
theorem d_FP_tell_62 : decode b_FP_tell 62 = .ok (.getfield 21, 3) := by decide +kernel
theorem d_FP_tell_65 : decode b_FP_tell 65 = .ok (.iload_n 1, 1) := by decide +kernel
theorem d_FP_tell_66 : decode b_FP_tell 66 = .ok (.iastore, 1) := by decide +kernel
theorem d_FP_tell_67 : decode b_FP_tell 67 = .ok (.aload_n 0, 1) := by decide +kernel
theorem d_FP_tell_68 : decode b_FP_tell 68 = .ok (.getfield 15, 3) := by decide +kernel
theorem d_FP_tell_71 : decode b_FP_tell 71 = .ok (.aload_n 0, 1) := by decide +kernel
theorem d_FP_tell_72 : decode b_FP_tell 72 = .ok (.getfield 21, 3) := by decide +kernel
theorem d_FP_tell_75 : decode b_FP_tell 75 = .ok (.iload_n 2, 1) := by decide +kernel
theorem d_FP_tell_76 : decode b_FP_tell 76 = .ok (.iastore, 1) := by decide +kernel
theorem d_FP_tell_77 : decode b_FP_tell 77 = .ok (.aload_n 0, 1) := by decide +kernel
theorem d_FP_tell_78 : decode b_FP_tell 78 = .ok (.getfield 18, 3) := by decide +kernel
theorem d_FP_tell_81 : decode b_FP_tell 81 = .ok (.aload_n 0, 1) := by decide +kernel
theorem d_FP_tell_82 : decode b_FP_tell 82 = .ok (.getfield 21, 3) := by decide +kernel
theorem d_FP_tell_85 : decode b_FP_tell 85 = .ok (.iload_n 3, 1) := by decide +kernel
theorem d_FP_tell_86 : decode b_FP_tell 86 = .ok (.iastore, 1) := by decide +kernel
theorem d_FP_tell_87 : decode b_FP_tell 87 = .ok (.aload_n 0, 1) := by decide +kernel
theorem d_FP_tell_88 : decode b_FP_tell 88 = .ok (.dup, 1) := by decide +kernel
theorem d_FP_tell_89 : decode b_FP_tell 89 = .ok (.getfield 21, 3) := by decide +kernel
theorem d_FP_tell_92 : decode b_FP_tell 92 = .ok (.iconst 1, 1) := by decide +kernel
theorem d_FP_tell_93 : decode b_FP_tell 93 = .ok (.iadd, 1) := by decide +kernel
theorem d_FP_tell_94 : decode b_FP_tell 94 = .ok (.putfield 21, 3) := by decide +kernel
theorem d_FP_tell_97 : decode b_FP_tell 97 = .ok (.return_, 1) := by decide +kernel
abbrev b_FP_turnOf : ByteArray := prog_4_method_5_code
def y_FP_turnOf : MethodName := ⟨"ExploreShares$FailPlan", "turnOf", "(II)I"⟩
def w_FP_turnOf : List Cond := .code y_FP_turnOf b_FP_turnOf 4 (some .int) :: xU
theorem d_FP_turnOf_0 : decode b_FP_turnOf 0 = .ok (.aload_n 0, 1) := by decide +kernel
theorem d_FP_turnOf_1 : decode b_FP_turnOf 1 = .ok (.iload_n 1, 1) := by decide +kernel
theorem d_FP_turnOf_2 : decode b_FP_turnOf 2 = .ok (.iload_n 2, 1) := by decide +kernel
theorem d_FP_turnOf_3 : decode b_FP_turnOf 3 = .ok (.invokevirtual 25, 3) := by decide +kernel
theorem d_FP_turnOf_6 : decode b_FP_turnOf 6 = .ok (.istore_n 3, 1) := by decide +kernel
theorem d_FP_turnOf_7 : decode b_FP_turnOf 7 = .ok (.iload_n 3, 1) := by decide +kernel
theorem d_FP_turnOf_8 : decode b_FP_turnOf 8 = .ok (.iconst (-1), 1) := by decide +kernel
theorem d_FP_turnOf_9 : decode b_FP_turnOf 9 = .ok (.if_icmp .ne 7, 3) := by decide +kernel
theorem d_FP_turnOf_12 : decode b_FP_turnOf 12 = .ok (.iconst (-1), 1) := by decide +kernel
theorem d_FP_turnOf_13 : decode b_FP_turnOf 13 = .ok (.goto 9, 3) := by decide +kernel
theorem d_FP_turnOf_16 : decode b_FP_turnOf 16 = .ok (.aload_n 0, 1) := by decide +kernel
theorem d_FP_turnOf_17 : decode b_FP_turnOf 17 = .ok (.getfield 18, 3) := by decide +kernel
theorem d_FP_turnOf_20 : decode b_FP_turnOf 20 = .ok (.iload_n 3, 1) := by decide +kernel
theorem d_FP_turnOf_21 : decode b_FP_turnOf 21 = .ok (.iaload, 1) := by decide +kernel
theorem d_FP_turnOf_22 : decode b_FP_turnOf 22 = .ok (.ireturn, 1) := by decide +kernel
