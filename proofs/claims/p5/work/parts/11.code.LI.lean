abbrev b_LI_init : ByteArray := prog_6_method_1_code
def y_LI_init : MethodName := ⟨"ExploreShares$Lists", "<init>", "()V"⟩
def w_LI_init : List Cond := .code y_LI_init b_LI_init 1 (none) :: xU
theorem d_LI_init_0 : decode b_LI_init 0 = .ok (.aload_n 0, 1) := by decide +kernel
theorem d_LI_init_1 : decode b_LI_init 1 = .ok (.invokespecial 3, 3) := by decide +kernel
theorem d_LI_init_4 : decode b_LI_init 4 = .ok (.aload_n 0, 1) := by decide +kernel
theorem d_LI_init_5 : decode b_LI_init 5 = .ok (.bipush 16, 2) := by decide +kernel
theorem d_LI_init_7 : decode b_LI_init 7 = .ok (.sipush 200, 3) := by decide +kernel
theorem d_LI_init_10 : decode b_LI_init 10 = .ok (.multianewarray 9 2, 4) := by decide +kernel
theorem d_LI_init_14 : decode b_LI_init 14 = .ok (.putfield 11, 3) := by decide +kernel
theorem d_LI_init_17 : decode b_LI_init 17 = .ok (.aload_n 0, 1) := by decide +kernel
theorem d_LI_init_18 : decode b_LI_init 18 = .ok (.bipush 16, 2) := by decide +kernel
theorem d_LI_init_20 : decode b_LI_init 20 = .ok (.newarray .int, 2) := by decide +kernel
theorem d_LI_init_22 : decode b_LI_init 22 = .ok (.putfield 16, 3) := by decide +kernel
theorem d_LI_init_25 : decode b_LI_init 25 = .ok (.aload_n 0, 1) := by decide +kernel
theorem d_LI_init_26 : decode b_LI_init 26 = .ok (.bipush 16, 2) := by decide +kernel
theorem d_LI_init_28 : decode b_LI_init 28 = .ok (.newarray .int, 2) := by decide +kernel
theorem d_LI_init_30 : decode b_LI_init 30 = .ok (.putfield 20, 3) := by decide +kernel
theorem d_LI_init_33 : decode b_LI_init 33 = .ok (.aload_n 0, 1) := by decide +kernel
theorem d_LI_init_34 : decode b_LI_init 34 = .ok (.bipush 16, 2) := by decide +kernel
theorem d_LI_init_36 : decode b_LI_init 36 = .ok (.newarray .int, 2) := by decide +kernel
theorem d_LI_init_38 : decode b_LI_init 38 = .ok (.putfield 23, 3) := by decide +kernel
theorem d_LI_init_41 : decode b_LI_init 41 = .ok (.aload_n 0, 1) := by decide +kernel
theorem d_LI_init_42 : decode b_LI_init 42 = .ok (.bipush 16, 2) := by decide +kernel
theorem d_LI_init_44 : decode b_LI_init 44 = .ok (.newarray .boolean, 2) := by decide +kernel
theorem d_LI_init_46 : decode b_LI_init 46 = .ok (.putfield 26, 3) := by decide +kernel
theorem d_LI_init_49 : decode b_LI_init 49 = .ok (.aload_n 0, 1) := by decide +kernel
theorem d_LI_init_50 : decode b_LI_init 50 = .ok (.bipush 16, 2) := by decide +kernel
theorem d_LI_init_52 : decode b_LI_init 52 = .ok (.newarray .int, 2) := by decide +kernel
theorem d_LI_init_54 : decode b_LI_init 54 = .ok (.putfield 30, 3) := by decide +kernel
theorem d_LI_init_57 : decode b_LI_init 57 = .ok (.return_, 1) := by decide +kernel
abbrev b_LI_add : ByteArray := prog_6_method_3_code
def y_LI_add : MethodName := ⟨"ExploreShares$Lists", "add", "(II)V"⟩
def w_LI_add : List Cond := .code y_LI_add b_LI_add 3 (none) :: xU
theorem d_LI_add_0 : decode b_LI_add 0 = .ok (.aload_n 0, 1) := by decide +kernel
theorem d_LI_add_1 : decode b_LI_add 1 = .ok (.getfield 16, 3) := by decide +kernel
theorem d_LI_add_4 : decode b_LI_add 4 = .ok (.iload_n 1, 1) := by decide +kernel
theorem d_LI_add_5 : decode b_LI_add 5 = .ok (.iaload, 1) := by decide +kernel
theorem d_LI_add_6 : decode b_LI_add 6 = .ok (.sipush 200, 3) := by decide +kernel
theorem d_LI_add_9 : decode b_LI_add 9 = .ok (.if_icmp .ge 27, 3) := by decide +kernel
theorem d_LI_add_12 : decode b_LI_add 12 = .ok (.aload_n 0, 1) := by decide +kernel
theorem d_LI_add_13 : decode b_LI_add 13 = .ok (.getfield 11, 3) := by decide +kernel
theorem d_LI_add_16 : decode b_LI_add 16 = .ok (.iload_n 1, 1) := by decide +kernel
theorem d_LI_add_17 : decode b_LI_add 17 = .ok (.aaload, 1) := by decide +kernel
theorem d_LI_add_18 : decode b_LI_add 18 = .ok (.aload_n 0, 1) := by decide +kernel
theorem d_LI_add_19 : decode b_LI_add 19 = .ok (.getfield 16, 3) := by decide +kernel
theorem d_LI_add_22 : decode b_LI_add 22 = .ok (.iload_n 1, 1) := by decide +kernel
theorem d_LI_add_23 : decode b_LI_add 23 = .ok (.iaload, 1) := by decide +kernel
theorem d_LI_add_24 : decode b_LI_add 24 = .ok (.iload_n 2, 1) := by decide +kernel
theorem d_LI_add_25 : decode b_LI_add 25 = .ok (.iastore, 1) := by decide +kernel
theorem d_LI_add_26 : decode b_LI_add 26 = .ok (.aload_n 0, 1) := by decide +kernel
theorem d_LI_add_27 : decode b_LI_add 27 = .ok (.getfield 16, 3) := by decide +kernel
theorem d_LI_add_30 : decode b_LI_add 30 = .ok (.iload_n 1, 1) := by decide +kernel
theorem d_LI_add_31 : decode b_LI_add 31 = .ok (.dup2, 1) := by decide +kernel
theorem d_LI_add_32 : decode b_LI_add 32 = .ok (.iaload, 1) := by decide +kernel
theorem d_LI_add_33 : decode b_LI_add 33 = .ok (.iconst 1, 1) := by decide +kernel
theorem d_LI_add_34 : decode b_LI_add 34 = .ok (.iadd, 1) := by decide +kernel
theorem d_LI_add_35 : decode b_LI_add 35 = .ok (.iastore, 1) := by decide +kernel
theorem d_LI_add_36 : decode b_LI_add 36 = .ok (.return_, 1) := by decide +kernel
abbrev b_LI_current : ByteArray := prog_6_method_5_code
def y_LI_current : MethodName := ⟨"ExploreShares$Lists", "current", "(I)I"⟩
def w_LI_current : List Cond := .code y_LI_current b_LI_current 2 (some .int) :: xU
theorem d_LI_current_0 : decode b_LI_current 0 = .ok (.aload_n 0, 1) := by decide +kernel
theorem d_LI_current_1 : decode b_LI_current 1 = .ok (.getfield 11, 3) := by decide +kernel
theorem d_LI_current_4 : decode b_LI_current 4 = .ok (.iload_n 1, 1) := by decide +kernel
theorem d_LI_current_5 : decode b_LI_current 5 = .ok (.aaload, 1) := by decide +kernel
theorem d_LI_current_6 : decode b_LI_current 6 = .ok (.aload_n 0, 1) := by decide +kernel
theorem d_LI_current_7 : decode b_LI_current 7 = .ok (.getfield 20, 3) := by decide +kernel
theorem d_LI_current_10 : decode b_LI_current 10 = .ok (.iload_n 1, 1) := by decide +kernel
theorem d_LI_current_11 : decode b_LI_current 11 = .ok (.iaload, 1) := by decide +kernel
theorem d_LI_current_12 : decode b_LI_current 12 = .ok (.iaload, 1) := by decide +kernel
theorem d_LI_current_13 : decode b_LI_current 13 = .ok (.ireturn, 1) := by decide +kernel
abbrev b_LI_empty : ByteArray := prog_6_method_2_code
def y_LI_empty : MethodName := ⟨"ExploreShares$Lists", "empty", "()V"⟩
def w_LI_empty : List Cond := .code y_LI_empty b_LI_empty 1 (none) :: xU
theorem d_LI_empty_0 : decode b_LI_empty 0 = .ok (.aload_n 0, 1) := by decide +kernel
theorem d_LI_empty_1 : decode b_LI_empty 1 = .ok (.getfield 16, 3) := by decide +kernel
theorem d_LI_empty_4 : decode b_LI_empty 4 = .ok (.iconst 0, 1) := by decide +kernel
theorem d_LI_empty_5 : decode b_LI_empty 5 = .ok (.invokestatic 33, 3) := by decide +kernel
theorem d_LI_empty_8 : decode b_LI_empty 8 = .ok (.aload_n 0, 1) := by decide +kernel
theorem d_LI_empty_9 : decode b_LI_empty 9 = .ok (.getfield 20, 3) := by decide +kernel
theorem d_LI_empty_12 : decode b_LI_empty 12 = .ok (.iconst 0, 1) := by decide +kernel
theorem d_LI_empty_13 : decode b_LI_empty 13 = .ok (.invokestatic 33, 3) := by decide +kernel
theorem d_LI_empty_16 : decode b_LI_empty 16 = .ok (.aload_n 0, 1) := by decide +kernel
theorem d_LI_empty_17 : decode b_LI_empty 17 = .ok (.getfield 23, 3) := by decide +kernel
theorem d_LI_empty_20 : decode b_LI_empty 20 = .ok (.iconst 0, 1) := by decide +kernel
theorem d_LI_empty_21 : decode b_LI_empty 21 = .ok (.invokestatic 33, 3) := by decide +kernel
theorem d_LI_empty_24 : decode b_LI_empty 24 = .ok (.aload_n 0, 1) := by decide +kernel
theorem d_LI_empty_25 : decode b_LI_empty 25 = .ok (.getfield 30, 3) := by decide +kernel
theorem d_LI_empty_28 : decode b_LI_empty 28 = .ok (.iconst 0, 1) := by decide +kernel
theorem d_LI_empty_29 : decode b_LI_empty 29 = .ok (.invokestatic 33, 3) := by decide +kernel
theorem d_LI_empty_32 : decode b_LI_empty 32 = .ok (.aload_n 0, 1) := by decide +kernel
theorem d_LI_empty_33 : decode b_LI_empty 33 = .ok (.getfield 26, 3) := by decide +kernel
theorem d_LI_empty_36 : decode b_LI_empty 36 = .ok (.iconst 0, 1) := by decide +kernel
theorem d_LI_empty_37 : decode b_LI_empty 37 = .ok (.invokestatic 39, 3) := by decide +kernel
theorem d_LI_empty_40 : decode b_LI_empty 40 = .ok (.return_, 1) := by decide +kernel
abbrev b_LI_goToNext : ByteArray := prog_6_method_6_code
def y_LI_goToNext : MethodName := ⟨"ExploreShares$Lists", "goToNext", "(I)V"⟩
def w_LI_goToNext : List Cond := .code y_LI_goToNext b_LI_goToNext 2 (none) :: xU
theorem d_LI_goToNext_0 : decode b_LI_goToNext 0 = .ok (.aload_n 0, 1) := by decide +kernel
theorem d_LI_goToNext_1 : decode b_LI_goToNext 1 = .ok (.getfield 20, 3) := by decide +kernel
theorem d_LI_goToNext_4 : decode b_LI_goToNext 4 = .ok (.iload_n 1, 1) := by decide +kernel
theorem d_LI_goToNext_5 : decode b_LI_goToNext 5 = .ok (.dup2, 1) := by decide +kernel
theorem d_LI_goToNext_6 : decode b_LI_goToNext 6 = .ok (.iaload, 1) := by decide +kernel
theorem d_LI_goToNext_7 : decode b_LI_goToNext 7 = .ok (.iconst 1, 1) := by decide +kernel
theorem d_LI_goToNext_8 : decode b_LI_goToNext 8 = .ok (.iadd, 1) := by decide +kernel
theorem d_LI_goToNext_9 : decode b_LI_goToNext 9 = .ok (.iastore, 1) := by decide +kernel
theorem d_LI_goToNext_10 : decode b_LI_goToNext 10 = .ok (.aload_n 0, 1) := by decide +kernel
theorem d_LI_goToNext_11 : decode b_LI_goToNext 11 = .ok (.getfield 23, 3) := by decide +kernel
theorem d_LI_goToNext_14 : decode b_LI_goToNext 14 = .ok (.iload_n 1, 1) := by decide +kernel
theorem d_LI_goToNext_15 : decode b_LI_goToNext 15 = .ok (.iconst 0, 1) := by decide +kernel
theorem d_LI_goToNext_16 : decode b_LI_goToNext 16 = .ok (.iastore, 1) := by decide +kernel
theorem d_LI_goToNext_17 : decode b_LI_goToNext 17 = .ok (.aload_n 0, 1) := by decide +kernel
theorem d_LI_goToNext_18 : decode b_LI_goToNext 18 = .ok (.getfield 26, 3) := by decide +kernel
theorem d_LI_goToNext_21 : decode b_LI_goToNext 21 = .ok (.iload_n 1, 1) := by decide +kernel
theorem d_LI_goToNext_22 : decode b_LI_goToNext 22 = .ok (.iconst 0, 1) := by decide +kernel
theorem d_LI_goToNext_23 : decode b_LI_goToNext 23 = .ok (.bastore, 1) := by decide +kernel
theorem d_LI_goToNext_24 : decode b_LI_goToNext 24 = .ok (.return_, 1) := by decide +kernel
abbrev b_LI_hasMore : ByteArray := prog_6_method_4_code
def y_LI_hasMore : MethodName := ⟨"ExploreShares$Lists", "hasMore", "(I)Z"⟩
def w_LI_hasMore : List Cond := .code y_LI_hasMore b_LI_hasMore 2 (some .boolean) :: xU
theorem d_LI_hasMore_0 : decode b_LI_hasMore 0 = .ok (.aload_n 0, 1) := by decide +kernel
theorem d_LI_hasMore_1 : decode b_LI_hasMore 1 = .ok (.getfield 20, 3) := by decide +kernel
theorem d_LI_hasMore_4 : decode b_LI_hasMore 4 = .ok (.iload_n 1, 1) := by decide +kernel
theorem d_LI_hasMore_5 : decode b_LI_hasMore 5 = .ok (.iaload, 1) := by decide +kernel
theorem d_LI_hasMore_6 : decode b_LI_hasMore 6 = .ok (.aload_n 0, 1) := by decide +kernel
theorem d_LI_hasMore_7 : decode b_LI_hasMore 7 = .ok (.getfield 16, 3) := by decide +kernel
theorem d_LI_hasMore_10 : decode b_LI_hasMore 10 = .ok (.iload_n 1, 1) := by decide +kernel
theorem d_LI_hasMore_11 : decode b_LI_hasMore 11 = .ok (.iaload, 1) := by decide +kernel
theorem d_LI_hasMore_12 : decode b_LI_hasMore 12 = .ok (.if_icmp .ge 7, 3) := by decide +kernel
theorem d_LI_hasMore_15 : decode b_LI_hasMore 15 = .ok (.iconst 1, 1) := by decide +kernel
theorem d_LI_hasMore_16 : decode b_LI_hasMore 16 = .ok (.goto 4, 3) := by decide +kernel
theorem d_LI_hasMore_19 : decode b_LI_hasMore 19 = .ok (.iconst 0, 1) := by decide +kernel
theorem d_LI_hasMore_20 : decode b_LI_hasMore 20 = .ok (.ireturn, 1) := by decide +kernel
