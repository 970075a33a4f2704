abbrev b_CR_init : ByteArray := prog_2_method_1_code
def y_CR_init : MethodName := ⟨"ExploreShares$Crew", "<init>", "(I)V"⟩
def w_CR_init : List Cond := .code y_CR_init b_CR_init 3 (none) :: xU
theorem d_CR_init_0 : decode b_CR_init 0 = .ok (.aload_n 0, 1) := by decide +kernel
theorem d_CR_init_1 : decode b_CR_init 1 = .ok (.invokespecial 3, 3) := by decide +kernel
theorem d_CR_init_4 : decode b_CR_init 4 = .ok (.aload_n 0, 1) := by decide +kernel
theorem d_CR_init_5 : decode b_CR_init 5 = .ok (.sipush 200, 3) := by decide +kernel
theorem d_CR_init_8 : decode b_CR_init 8 = .ok (.newarray .int, 2) := by decide +kernel
theorem d_CR_init_10 : decode b_CR_init 10 = .ok (.putfield 9, 3) := by decide +kernel
theorem d_CR_init_13 : decode b_CR_init 13 = .ok (.aload_n 0, 1) := by decide +kernel
theorem d_CR_init_14 : decode b_CR_init 14 = .ok (.bipush 16, 2) := by decide +kernel
theorem d_CR_init_16 : decode b_CR_init 16 = .ok (.newarray .boolean, 2) := by decide +kernel
theorem d_CR_init_18 : decode b_CR_init 18 = .ok (.putfield 15, 3) := by decide +kernel
theorem d_CR_init_21 : decode b_CR_init 21 = .ok (.aload_n 0, 1) := by decide +kernel
theorem d_CR_init_22 : decode b_CR_init 22 = .ok (.bipush 16, 2) := by decide +kernel
theorem d_CR_init_24 : decode b_CR_init 24 = .ok (.newarray .int, 2) := by decide +kernel
theorem d_CR_init_26 : decode b_CR_init 26 = .ok (.putfield 19, 3) := by decide +kernel
theorem d_CR_init_29 : decode b_CR_init 29 = .ok (.aload_n 0, 1) := by decide +kernel
theorem d_CR_init_30 : decode b_CR_init 30 = .ok (.bipush 16, 2) := by decide +kernel
theorem d_CR_init_32 : decode b_CR_init 32 = .ok (.newarray .int, 2) := by decide +kernel
theorem d_CR_init_34 : decode b_CR_init 34 = .ok (.putfield 22, 3) := by decide +kernel
theorem d_CR_init_37 : decode b_CR_init 37 = .ok (.aload_n 0, 1) := by decide +kernel
theorem d_CR_init_38 : decode b_CR_init 38 = .ok (.bipush 16, 2) := by decide +kernel
theorem d_CR_init_40 : decode b_CR_init 40 = .ok (.newarray .int, 2) := by decide +kernel
theorem d_CR_init_42 : decode b_CR_init 42 = .ok (.putfield 25, 3) := by decide +kernel
theorem d_CR_init_45 : decode b_CR_init 45 = .ok (.aload_n 0, 1) := by decide +kernel
theorem d_CR_init_46 : decode b_CR_init 46 = .ok (.iload_n 1, 1) := by decide +kernel
theorem d_CR_init_47 : decode b_CR_init 47 = .ok (.putfield 28, 3) := by decide +kernel
theorem d_CR_init_50 : decode b_CR_init 50 = .ok (.aload_n 0, 1) := by decide +kernel
theorem d_CR_init_51 : decode b_CR_init 51 = .ok (.iload_n 1, 1) := by decide +kernel
theorem d_CR_init_52 : decode b_CR_init 52 = .ok (.putfield 32, 3) := by decide +kernel
theorem d_CR_init_55 : decode b_CR_init 55 = .ok (.aload_n 0, 1) := by decide +kernel
theorem d_CR_init_56 : decode b_CR_init 56 = .ok (.getfield 15, 3) := by decide +kernel
theorem d_CR_init_59 : decode b_CR_init 59 = .ok (.iconst 1, 1) := by decide +kernel
theorem d_CR_init_60 : decode b_CR_init 60 = .ok (.invokestatic 35, 3) := by decide +kernel
theorem d_CR_init_63 : decode b_CR_init 63 = .ok (.iconst 0, 1) := by decide +kernel
theorem d_CR_init_64 : decode b_CR_init 64 = .ok (.istore_n 2, 1) := by decide +kernel
theorem d_CR_init_65 : decode b_CR_init 65 = .ok (.iload_n 2, 1) := by decide +kernel
theorem d_CR_init_66 : decode b_CR_init 66 = .ok (.sipush 200, 3) := by decide +kernel
theorem d_CR_init_69 : decode b_CR_init 69 = .ok (.if_icmp .ge 23, 3) := by decide +kernel
theorem d_CR_init_72 : decode b_CR_init 72 = .ok (.aload_n 0, 1) := by decide +kernel
theorem d_CR_init_73 : decode b_CR_init 73 = .ok (.getfield 9, 3) := by decide +kernel
theorem d_CR_init_76 : decode b_CR_init 76 = .ok (.iload_n 2, 1) := by decide +kernel
theorem d_CR_init_77 : decode b_CR_init 77 = .ok (.iload_n 1, 1) := by decide +kernel
theorem d_CR_init_78 : decode b_CR_init 78 = .ok (.iload_n 2, 1) := by decide +kernel
theorem d_CR_init_79 : decode b_CR_init 79 = .ok (.invokestatic 39, 3) := by decide +kernel
theorem d_CR_init_82 : decode b_CR_init 82 = .ok (.invokestatic 43, 3) := by decide +kernel
theorem d_CR_init_85 : decode b_CR_init 85 = .ok (.iastore, 1) := by decide +kernel
theorem d_CR_init_86 : decode b_CR_init 86 = .ok (.iinc 2 1, 3) := by decide +kernel
theorem d_CR_init_89 : decode b_CR_init 89 = .ok (.goto (-24), 3) := by decide +kernel
theorem d_CR_init_92 : decode b_CR_init 92 = .ok (.return_, 1) := by decide +kernel
abbrev b_CR_countTurn : ByteArray := prog_2_method_5_code
def y_CR_countTurn : MethodName := ⟨"ExploreShares$Crew", "countTurn", "(I)V"⟩
def w_CR_countTurn : List Cond := .code y_CR_countTurn b_CR_countTurn 2 (none) :: xU
theorem d_CR_countTurn_0 : decode b_CR_countTurn 0 = .ok (.aload_n 0, 1) := by decide +kernel
theorem d_CR_countTurn_1 : decode b_CR_countTurn 1 = .ok (.getfield 19, 3) := by decide +kernel
theorem d_CR_countTurn_4 : decode b_CR_countTurn 4 = .ok (.iload_n 1, 1) := by decide +kernel
theorem d_CR_countTurn_5 : decode b_CR_countTurn 5 = .ok (.dup2, 1) := by decide +kernel
theorem d_CR_countTurn_6 : decode b_CR_countTurn 6 = .ok (.iaload, 1) := by decide +kernel
theorem d_CR_countTurn_7 : decode b_CR_countTurn 7 = .ok (.iconst 1, 1) := by decide +kernel
theorem d_CR_countTurn_8 : decode b_CR_countTurn 8 = .ok (.iadd, 1) := by decide +kernel
theorem d_CR_countTurn_9 : decode b_CR_countTurn 9 = .ok (.iastore, 1) := by decide +kernel
theorem d_CR_countTurn_10 : decode b_CR_countTurn 10 = .ok (.aload_n 0, 1) := by decide +kernel
theorem d_CR_countTurn_11 : decode b_CR_countTurn 11 = .ok (.dup, 1) := by decide +kernel
theorem d_CR_countTurn_12 : decode b_CR_countTurn 12 = .ok (.getfield 53, 3) := by decide +kernel
theorem d_CR_countTurn_15 : decode b_CR_countTurn 15 = .ok (.iconst 1, 1) := by decide +kernel
theorem d_CR_countTurn_16 : decode b_CR_countTurn 16 = .ok (.iadd, 1) := by decide +kernel
theorem d_CR_countTurn_17 : decode b_CR_countTurn 17 = .ok (.putfield 53, 3) := by decide +kernel
theorem d_CR_countTurn_20 : decode b_CR_countTurn 20 = .ok (.return_, 1) := by decide +kernel
abbrev b_CR_has : ByteArray := prog_2_method_2_code
def y_CR_has : MethodName := ⟨"ExploreShares$Crew", "has", "(I)Z"⟩
def w_CR_has : List Cond := .code y_CR_has b_CR_has 2 (some .boolean) :: xU
theorem d_CR_has_0 : decode b_CR_has 0 = .ok (.iload_n 1, 1) := by decide +kernel
theorem d_CR_has_1 : decode b_CR_has 1 = .ok (.ifCond .lt 15, 3) := by decide +kernel
theorem d_CR_has_4 : decode b_CR_has 4 = .ok (.iload_n 1, 1) := by decide +kernel
theorem d_CR_has_5 : decode b_CR_has 5 = .ok (.aload_n 0, 1) := by decide +kernel
theorem d_CR_has_6 : decode b_CR_has 6 = .ok (.getfield 28, 3) := by decide +kernel
theorem d_CR_has_9 : decode b_CR_has 9 = .ok (.if_icmp .ge 7, 3) := by decide +kernel
theorem d_CR_has_12 : decode b_CR_has 12 = .ok (.iconst 1, 1) := by decide +kernel
theorem d_CR_has_13 : decode b_CR_has 13 = .ok (.goto 4, 3) := by decide +kernel
theorem d_CR_has_16 : decode b_CR_has 16 = .ok (.iconst 0, 1) := by decide +kernel
theorem d_CR_has_17 : decode b_CR_has 17 = .ok (.ireturn, 1) := by decide +kernel
abbrev b_CR_lose : ByteArray := prog_2_method_6_code
def y_CR_lose : MethodName := ⟨"ExploreShares$Crew", "lose", "(I)V"⟩
def w_CR_lose : List Cond := .code y_CR_lose b_CR_lose 2 (none) :: xU
theorem d_CR_lose_0 : decode b_CR_lose 0 = .ok (.aload_n 0, 1) := by decide +kernel
theorem d_CR_lose_1 : decode b_CR_lose 1 = .ok (.getfield 15, 3) := by decide +kernel
theorem d_CR_lose_4 : decode b_CR_lose 4 = .ok (.iload_n 1, 1) := by decide +kernel
theorem d_CR_lose_5 : decode b_CR_lose 5 = .ok (.iconst 0, 1) := by decide +kernel
theorem d_CR_lose_6 : decode b_CR_lose 6 = .ok (.bastore, 1) := by decide +kernel
theorem d_CR_lose_7 : decode b_CR_lose 7 = .ok (.aload_n 0, 1) := by decide +kernel
theorem d_CR_lose_8 : decode b_CR_lose 8 = .ok (.dup, 1) := by decide +kernel
theorem d_CR_lose_9 : decode b_CR_lose 9 = .ok (.getfield 32, 3) := by decide +kernel
theorem d_CR_lose_12 : decode b_CR_lose 12 = .ok (.iconst 1, 1) := by decide +kernel
theorem d_CR_lose_13 : decode b_CR_lose 13 = .ok (.isub, 1) := by decide +kernel
theorem d_CR_lose_14 : decode b_CR_lose 14 = .ok (.putfield 32, 3) := by decide +kernel
theorem d_CR_lose_17 : decode b_CR_lose 17 = .ok (.return_, 1) := by decide +kernel
abbrev b_CR_ownerOf : ByteArray := prog_2_method_4_code
def y_CR_ownerOf : MethodName := ⟨"ExploreShares$Crew", "ownerOf", "(I)I"⟩
def w_CR_ownerOf : List Cond := .code y_CR_ownerOf b_CR_ownerOf 4 (some .int) :: xU
theorem d_CR_ownerOf_0 : decode b_CR_ownerOf 0 = .ok (.aload_n 0, 1) := by decide +kernel
theorem d_CR_ownerOf_1 : decode b_CR_ownerOf 1 = .ok (.getfield 9, 3) := by decide +kernel
theorem d_CR_ownerOf_4 : decode b_CR_ownerOf 4 = .ok (.iload_n 1, 1) := by decide +kernel
theorem d_CR_ownerOf_5 : decode b_CR_ownerOf 5 = .ok (.iaload, 1) := by decide +kernel
theorem d_CR_ownerOf_6 : decode b_CR_ownerOf 6 = .ok (.istore_n 2, 1) := by decide +kernel
theorem d_CR_ownerOf_7 : decode b_CR_ownerOf 7 = .ok (.iconst 0, 1) := by decide +kernel
theorem d_CR_ownerOf_8 : decode b_CR_ownerOf 8 = .ok (.istore_n 3, 1) := by decide +kernel
theorem d_CR_ownerOf_9 : decode b_CR_ownerOf 9 = .ok (.iload_n 3, 1) := by decide +kernel
theorem d_CR_ownerOf_10 : decode b_CR_ownerOf 10 = .ok (.aload_n 0, 1) := by decide +kernel
theorem d_CR_ownerOf_11 : decode b_CR_ownerOf 11 = .ok (.getfield 28, 3) := by decide +kernel
theorem d_CR_ownerOf_14 : decode b_CR_ownerOf 14 = .ok (.if_icmp .ge 36, 3) := by decide +kernel
theorem d_CR_ownerOf_17 : decode b_CR_ownerOf 17 = .ok (.aload_n 0, 1) := by decide +kernel
theorem d_CR_ownerOf_18 : decode b_CR_ownerOf 18 = .ok (.getfield 15, 3) := by decide +kernel
theorem d_CR_ownerOf_21 : decode b_CR_ownerOf 21 = .ok (.iload_n 2, 1) := by decide +kernel
theorem d_CR_ownerOf_22 : decode b_CR_ownerOf 22 = .ok (.baload, 1) := by decide +kernel
theorem d_CR_ownerOf_23 : decode b_CR_ownerOf 23 = .ok (.ifCond .ne 27, 3) := by decide +kernel
theorem d_CR_ownerOf_26 : decode b_CR_ownerOf 26 = .ok (.iload_n 2, 1) := by decide +kernel
theorem d_CR_ownerOf_27 : decode b_CR_ownerOf 27 = .ok (.iconst 1, 1) := by decide +kernel
theorem d_CR_ownerOf_28 : decode b_CR_ownerOf 28 = .ok (.iadd, 1) := by decide +kernel
theorem d_CR_ownerOf_29 : decode b_CR_ownerOf 29 = .ok (.aload_n 0, 1) := by decide +kernel
theorem d_CR_ownerOf_30 : decode b_CR_ownerOf 30 = .ok (.getfield 28, 3) := by decide +kernel
theorem d_CR_ownerOf_33 : decode b_CR_ownerOf 33 = .ok (.if_icmp .ge 9, 3) := by decide +kernel
theorem d_CR_ownerOf_36 : decode b_CR_ownerOf 36 = .ok (.iload_n 2, 1) := by decide +kernel
theorem d_CR_ownerOf_37 : decode b_CR_ownerOf 37 = .ok (.iconst 1, 1) := by decide +kernel
theorem d_CR_ownerOf_38 : decode b_CR_ownerOf 38 = .ok (.iadd, 1) := by decide +kernel
theorem d_CR_ownerOf_39 : decode b_CR_ownerOf 39 = .ok (.goto 4, 3) := by decide +kernel
theorem d_CR_ownerOf_42 : decode b_CR_ownerOf 42 = .ok (.iconst 0, 1) := by decide +kernel
theorem d_CR_ownerOf_43 : decode b_CR_ownerOf 43 = .ok (.istore_n 2, 1) := by decide +kernel
theorem d_CR_ownerOf_44 : decode b_CR_ownerOf 44 = .ok (.iinc 3 1, 3) := by decide +kernel
theorem d_CR_ownerOf_47 : decode b_CR_ownerOf 47 = .ok (.goto (-38), 3) := by decide +kernel
theorem d_CR_ownerOf_50 : decode b_CR_ownerOf 50 = .ok (.iload_n 2, 1) := by decide +kernel
theorem d_CR_ownerOf_51 : decode b_CR_ownerOf 51 = .ok (.ireturn, 1) := by decide +kernel
abbrev b_CR_startAnew : ByteArray := prog_2_method_3_code
def y_CR_startAnew : MethodName := ⟨"ExploreShares$Crew", "startAnew", "()V"⟩
def w_CR_startAnew : List Cond := .code y_CR_startAnew b_CR_startAnew 1 (none) :: xU
theorem d_CR_startAnew_0 : decode b_CR_startAnew 0 = .ok (.aload_n 0, 1) := by decide +kernel
theorem d_CR_startAnew_1 : decode b_CR_startAnew 1 = .ok (.getfield 15, 3) := by decide +kernel
theorem d_CR_startAnew_4 : decode b_CR_startAnew 4 = .ok (.iconst 1, 1) := by decide +kernel
theorem d_CR_startAnew_5 : decode b_CR_startAnew 5 = .ok (.invokestatic 35, 3) := by decide +kernel
theorem d_CR_startAnew_8 : decode b_CR_startAnew 8 = .ok (.aload_n 0, 1) := by decide +kernel
theorem d_CR_startAnew_9 : decode b_CR_startAnew 9 = .ok (.getfield 19, 3) := by decide +kernel
theorem d_CR_startAnew_12 : decode b_CR_startAnew 12 = .ok (.iconst 0, 1) := by decide +kernel
theorem d_CR_startAnew_13 : decode b_CR_startAnew 13 = .ok (.invokestatic 47, 3) := by decide +kernel
theorem d_CR_startAnew_16 : decode b_CR_startAnew 16 = .ok (.aload_n 0, 1) := by decide +kernel
theorem d_CR_startAnew_17 : decode b_CR_startAnew 17 = .ok (.getfield 22, 3) := by decide +kernel
theorem d_CR_startAnew_20 : decode b_CR_startAnew 20 = .ok (.iconst 0, 1) := by decide +kernel
theorem d_CR_startAnew_21 : decode b_CR_startAnew 21 = .ok (.invokestatic 47, 3) := by decide +kernel
theorem d_CR_startAnew_24 : decode b_CR_startAnew 24 = .ok (.aload_n 0, 1) := by decide +kernel
theorem d_CR_startAnew_25 : decode b_CR_startAnew 25 = .ok (.getfield 25, 3) := by decide +kernel
theorem d_CR_startAnew_28 : decode b_CR_startAnew 28 = .ok (.iconst 0, 1) := by decide +kernel
theorem d_CR_startAnew_29 : decode b_CR_startAnew 29 = .ok (.invokestatic 47, 3) := by decide +kernel
theorem d_CR_startAnew_32 : decode b_CR_startAnew 32 = .ok (.aload_n 0, 1) := by decide +kernel
theorem d_CR_startAnew_33 : decode b_CR_startAnew 33 = .ok (.aload_n 0, 1) := by decide +kernel
theorem d_CR_startAnew_34 : decode b_CR_startAnew 34 = .ok (.getfield 28, 3) := by decide +kernel
theorem d_CR_startAnew_37 : decode b_CR_startAnew 37 = .ok (.putfield 32, 3) := by decide +kernel
theorem d_CR_startAnew_40 : decode b_CR_startAnew 40 = .ok (.aload_n 0, 1) := by decide +kernel
theorem d_CR_startAnew_41 : decode b_CR_startAnew 41 = .ok (.iconst 0, 1) := by decide +kernel
theorem d_CR_startAnew_42 : decode b_CR_startAnew 42 = .ok (.putfield 53, 3) := by decide +kernel
theorem d_CR_startAnew_45 : decode b_CR_startAnew 45 = .ok (.return_, 1) := by decide +kernel
