abbrev b_QU_init : ByteArray := prog_8_method_1_code
def y_QU_init : MethodName := ⟨"ExploreShares$Queues", "<init>", "(I)V"⟩
def w_QU_init : List Cond := .code y_QU_init b_QU_init 2 (none) :: xU
theorem d_QU_init_0 : decode b_QU_init 0 = .ok (.aload_n 0, 1) := by decide +kernel
theorem d_QU_init_1 : decode b_QU_init 1 = .ok (.invokespecial 3, 3) := by decide +kernel
theorem d_QU_init_4 : decode b_QU_init 4 = .ok (.aload_n 0, 1) := by decide +kernel
theorem d_QU_init_5 : decode b_QU_init 5 = .ok (.bipush 16, 2) := by decide +kernel
theorem d_QU_init_7 : decode b_QU_init 7 = .ok (.bipush 8, 2) := by decide +kernel
theorem d_QU_init_9 : decode b_QU_init 9 = .ok (.multianewarray 9 2, 4) := by decide +kernel
theorem d_QU_init_13 : decode b_QU_init 13 = .ok (.putfield 11, 3) := by decide +kernel
theorem d_QU_init_16 : decode b_QU_init 16 = .ok (.aload_n 0, 1) := by decide +kernel
theorem d_QU_init_17 : decode b_QU_init 17 = .ok (.bipush 16, 2) := by decide +kernel
theorem d_QU_init_19 : decode b_QU_init 19 = .ok (.newarray .int, 2) := by decide +kernel
theorem d_QU_init_21 : decode b_QU_init 21 = .ok (.putfield 16, 3) := by decide +kernel
theorem d_QU_init_24 : decode b_QU_init 24 = .ok (.aload_n 0, 1) := by decide +kernel
theorem d_QU_init_25 : decode b_QU_init 25 = .ok (.bipush 16, 2) := by decide +kernel
theorem d_QU_init_27 : decode b_QU_init 27 = .ok (.newarray .int, 2) := by decide +kernel
theorem d_QU_init_29 : decode b_QU_init 29 = .ok (.putfield 20, 3) := by decide +kernel
theorem d_QU_init_32 : decode b_QU_init 32 = .ok (.aload_n 0, 1) := by decide +kernel
theorem d_QU_init_33 : decode b_QU_init 33 = .ok (.iload_n 1, 1) := by decide +kernel
theorem d_QU_init_34 : decode b_QU_init 34 = .ok (.putfield 23, 3) := by decide +kernel
theorem d_QU_init_37 : decode b_QU_init 37 = .ok (.return_, 1) := by decide +kernel
abbrev b_QU_empty : ByteArray := prog_8_method_2_code
def y_QU_empty : MethodName := ⟨"ExploreShares$Queues", "empty", "()V"⟩
def w_QU_empty : List Cond := .code y_QU_empty b_QU_empty 1 (none) :: xU
theorem d_QU_empty_0 : decode b_QU_empty 0 = .ok (.aload_n 0, 1) := by decide +kernel
theorem d_QU_empty_1 : decode b_QU_empty 1 = .ok (.getfield 16, 3) := by decide +kernel
theorem d_QU_empty_4 : decode b_QU_empty 4 = .ok (.iconst 0, 1) := by decide +kernel
theorem d_QU_empty_5 : decode b_QU_empty 5 = .ok (.invokestatic 27, 3) := by decide +kernel
theorem d_QU_empty_8 : decode b_QU_empty 8 = .ok (.aload_n 0, 1) := by decide +kernel
theorem d_QU_empty_9 : decode b_QU_empty 9 = .ok (.getfield 20, 3) := by decide +kernel
theorem d_QU_empty_12 : decode b_QU_empty 12 = .ok (.iconst 0, 1) := by decide +kernel
theorem d_QU_empty_13 : decode b_QU_empty 13 = .ok (.invokestatic 27, 3) := by decide +kernel
theorem d_QU_empty_16 : decode b_QU_empty 16 = .ok (.return_, 1) := by decide +kernel
abbrev b_QU_isEmpty : ByteArray := prog_8_method_3_code
def y_QU_isEmpty : MethodName := ⟨"ExploreShares$Queues", "isEmpty", "(I)Z"⟩
def w_QU_isEmpty : List Cond := .code y_QU_isEmpty b_QU_isEmpty 2 (some .boolean) :: xU
theorem d_QU_isEmpty_0 : decode b_QU_isEmpty 0 = .ok (.aload_n 0, 1) := by decide +kernel
theorem d_QU_isEmpty_1 : decode b_QU_isEmpty 1 = .ok (.getfield 20, 3) := by decide +kernel
theorem d_QU_isEmpty_4 : decode b_QU_isEmpty 4 = .ok (.iload_n 1, 1) := by decide +kernel
theorem d_QU_isEmpty_5 : decode b_QU_isEmpty 5 = .ok (.iaload, 1) := by decide +kernel
theorem d_QU_isEmpty_6 : decode b_QU_isEmpty 6 = .ok (.ifCond .ne 7, 3) := by decide +kernel
theorem d_QU_isEmpty_9 : decode b_QU_isEmpty 9 = .ok (.iconst 1, 1) := by decide +kernel
theorem d_QU_isEmpty_10 : decode b_QU_isEmpty 10 = .ok (.goto 4, 3) := by decide +kernel
theorem d_QU_isEmpty_13 : decode b_QU_isEmpty 13 = .ok (.iconst 0, 1) := by decide +kernel
theorem d_QU_isEmpty_14 : decode b_QU_isEmpty 14 = .ok (.ireturn, 1) := by decide +kernel
abbrev b_QU_isFull : ByteArray := prog_8_method_4_code
def y_QU_isFull : MethodName := ⟨"ExploreShares$Queues", "isFull", "(I)Z"⟩
def w_QU_isFull : List Cond := .code y_QU_isFull b_QU_isFull 2 (some .boolean) :: xU
theorem d_QU_isFull_0 : decode b_QU_isFull 0 = .ok (.aload_n 0, 1) := by decide +kernel
theorem d_QU_isFull_1 : decode b_QU_isFull 1 = .ok (.getfield 20, 3) := by decide +kernel
theorem d_QU_isFull_4 : decode b_QU_isFull 4 = .ok (.iload_n 1, 1) := by decide +kernel
theorem d_QU_isFull_5 : decode b_QU_isFull 5 = .ok (.iaload, 1) := by decide +kernel
theorem d_QU_isFull_6 : decode b_QU_isFull 6 = .ok (.aload_n 0, 1) := by decide +kernel
theorem d_QU_isFull_7 : decode b_QU_isFull 7 = .ok (.getfield 23, 3) := by decide +kernel
theorem d_QU_isFull_10 : decode b_QU_isFull 10 = .ok (.if_icmp .lt 7, 3) := by decide +kernel
theorem d_QU_isFull_13 : decode b_QU_isFull 13 = .ok (.iconst 1, 1) := by decide +kernel
theorem d_QU_isFull_14 : decode b_QU_isFull 14 = .ok (.goto 4, 3) := by decide +kernel
theorem d_QU_isFull_17 : decode b_QU_isFull 17 = .ok (.iconst 0, 1) := by decide +kernel
theorem d_QU_isFull_18 : decode b_QU_isFull 18 = .ok (.ireturn, 1) := by decide +kernel
abbrev b_QU_put : ByteArray := prog_8_method_5_code
def y_QU_put : MethodName := ⟨"ExploreShares$Queues", "put", "(II)V"⟩
def w_QU_put : List Cond := .code y_QU_put b_QU_put 3 (none) :: xU
theorem d_QU_put_0 : decode b_QU_put 0 = .ok (.aload_n 0, 1) := by decide +kernel
theorem d_QU_put_1 : decode b_QU_put 1 = .ok (.getfield 11, 3) := by decide +kernel
theorem d_QU_put_4 : decode b_QU_put 4 = .ok (.iload_n 1, 1) := by decide +kernel
theorem d_QU_put_5 : decode b_QU_put 5 = .ok (.aaload, 1) := by decide +kernel
theorem d_QU_put_6 : decode b_QU_put 6 = .ok (.aload_n 0, 1) := by decide +kernel
theorem d_QU_put_7 : decode b_QU_put 7 = .ok (.getfield 16, 3) := by decide +kernel
theorem d_QU_put_10 : decode b_QU_put 10 = .ok (.iload_n 1, 1) := by decide +kernel
theorem d_QU_put_11 : decode b_QU_put 11 = .ok (.iaload, 1) := by decide +kernel
theorem d_QU_put_12 : decode b_QU_put 12 = .ok (.aload_n 0, 1) := by decide +kernel
theorem d_QU_put_13 : decode b_QU_put 13 = .ok (.getfield 20, 3) := by decide +kernel
theorem d_QU_put_16 : decode b_QU_put 16 = .ok (.iload_n 1, 1) := by decide +kernel
theorem d_QU_put_17 : decode b_QU_put 17 = .ok (.iaload, 1) := by decide +kernel
theorem d_QU_put_18 : decode b_QU_put 18 = .ok (.iadd, 1) := by decide +kernel
theorem d_QU_put_19 : decode b_QU_put 19 = .ok (.bipush 8, 2) := by decide +kernel
theorem d_QU_put_21 : decode b_QU_put 21 = .ok (.irem, 1) := by decide +kernel
theorem d_QU_put_22 : decode b_QU_put 22 = .ok (.iload_n 2, 1) := by decide +kernel
theorem d_QU_put_23 : decode b_QU_put 23 = .ok (.iastore, 1) := by decide +kernel
theorem d_QU_put_24 : decode b_QU_put 24 = .ok (.aload_n 0, 1) := by decide +kernel
theorem d_QU_put_25 : decode b_QU_put 25 = .ok (.getfield 20, 3) := by decide +kernel
theorem d_QU_put_28 : decode b_QU_put 28 = .ok (.iload_n 1, 1) := by decide +kernel
theorem d_QU_put_29 : decode b_QU_put 29 = .ok (.dup2, 1) := by decide +kernel
theorem d_QU_put_30 : decode b_QU_put 30 = .ok (.iaload, 1) := by decide +kernel
theorem d_QU_put_31 : decode b_QU_put 31 = .ok (.iconst 1, 1) := by decide +kernel
theorem d_QU_put_32 : decode b_QU_put 32 = .ok (.iadd, 1) := by decide +kernel
theorem d_QU_put_33 : decode b_QU_put 33 = .ok (.iastore, 1) := by decide +kernel
theorem d_QU_put_34 : decode b_QU_put 34 = .ok (.aload_n 0, 1) := by decide +kernel
theorem d_QU_put_35 : decode b_QU_put 35 = .ok (.getfield 20, 3) := by decide +kernel
theorem d_QU_put_38 : decode b_QU_put 38 = .ok (.iload_n 1, 1) := by decide +kernel
theorem d_QU_put_39 : decode b_QU_put 39 = .ok (.iaload, 1) := by decide +kernel
theorem d_QU_put_40 : decode b_QU_put 40 = .ok (.aload_n 0, 1) := by decide +kernel
theorem d_QU_put_41 : decode b_QU_put 41 = .ok (.getfield 33, 3) := by decide +kernel
theorem d_QU_put_44 : decode b_QU_put 44 = .ok (.if_icmp .le 13, 3) := by decide +kernel
theorem d_QU_put_47 : decode b_QU_put 47 = .ok (.aload_n 0, 1) := by decide +kernel
theorem d_QU_put_48 : decode b_QU_put 48 = .ok (.aload_n 0, 1) := by decide +kernel
theorem d_QU_put_49 : decode b_QU_put 49 = .ok (.getfield 20, 3) := by decide +kernel
theorem d_QU_put_52 : decode b_QU_put 52 = .ok (.iload_n 1, 1) := by decide +kernel
theorem d_QU_put_53 : decode b_QU_put 53 = .ok (.iaload, 1) := by decide +kernel
theorem d_QU_put_54 : decode b_QU_put 54 = .ok (.putfield 33, 3) := by decide +kernel
theorem d_QU_put_57 : decode b_QU_put 57 = .ok (.return_, 1) := by decide +kernel
abbrev b_QU_take : ByteArray := prog_8_method_6_code
def y_QU_take : MethodName := ⟨"ExploreShares$Queues", "take", "(I)I"⟩
def w_QU_take : List Cond := .code y_QU_take b_QU_take 3 (some .int) :: xU
theorem d_QU_take_0 : decode b_QU_take 0 = .ok (.aload_n 0, 1) := by decide +kernel
theorem d_QU_take_1 : decode b_QU_take 1 = .ok (.getfield 11, 3) := by decide +kernel
theorem d_QU_take_4 : decode b_QU_take 4 = .ok (.iload_n 1, 1) := by decide +kernel
theorem d_QU_take_5 : decode b_QU_take 5 = .ok (.aaload, 1) := by decide +kernel
theorem d_QU_take_6 : decode b_QU_take 6 = .ok (.aload_n 0, 1) := by decide +kernel
theorem d_QU_take_7 : decode b_QU_take 7 = .ok (.getfield 16, 3) := by decide +kernel
theorem d_QU_take_10 : decode b_QU_take 10 = .ok (.iload_n 1, 1) := by decide +kernel
theorem d_QU_take_11 : decode b_QU_take 11 = .ok (.iaload, 1) := by decide +kernel
theorem d_QU_take_12 : decode b_QU_take 12 = .ok (.iaload, 1) := by decide +kernel
theorem d_QU_take_13 : decode b_QU_take 13 = .ok (.istore_n 2, 1) := by decide +kernel
theorem d_QU_take_14 : decode b_QU_take 14 = .ok (.aload_n 0, 1) := by decide +kernel
theorem d_QU_take_15 : decode b_QU_take 15 = .ok (.getfield 16, 3) := by decide +kernel
theorem d_QU_take_18 : decode b_QU_take 18 = .ok (.iload_n 1, 1) := by decide +kernel
theorem d_QU_take_19 : decode b_QU_take 19 = .ok (.aload_n 0, 1) := by decide +kernel
theorem d_QU_take_20 : decode b_QU_take 20 = .ok (.getfield 16, 3) := by decide +kernel
theorem d_QU_take_23 : decode b_QU_take 23 = .ok (.iload_n 1, 1) := by decide +kernel
theorem d_QU_take_24 : decode b_QU_take 24 = .ok (.iaload, 1) := by decide +kernel
theorem d_QU_take_25 : decode b_QU_take 25 = .ok (.iconst 1, 1) := by decide +kernel
theorem d_QU_take_26 : decode b_QU_take 26 = .ok (.iadd, 1) := by decide +kernel
theorem d_QU_take_27 : decode b_QU_take 27 = .ok (.bipush 8, 2) := by decide +kernel
theorem d_QU_take_29 : decode b_QU_take 29 = .ok (.irem, 1) := by decide +kernel
theorem d_QU_take_30 : decode b_QU_take 30 = .ok (.iastore, 1) := by decide +kernel
theorem d_QU_take_31 : decode b_QU_take 31 = .ok (.aload_n 0, 1) := by decide +kernel
theorem d_QU_take_32 : decode b_QU_take 32 = .ok (.getfield 20, 3) := by decide +kernel
theorem d_QU_take_35 : decode b_QU_take 35 = .ok (.iload_n 1, 1) := by decide +kernel
theorem d_QU_take_36 : decode b_QU_take 36 = .ok (.dup2, 1) := by decide +kernel
theorem d_QU_take_37 : decode b_QU_take 37 = .ok (.iaload, 1) := by decide +kernel
theorem d_QU_take_38 : decode b_QU_take 38 = .ok (.iconst 1, 1) := by decide +kernel
theorem d_QU_take_39 : decode b_QU_take 39 = .ok (.isub, 1) := by decide +kernel
theorem d_QU_take_40 : decode b_QU_take 40 = .ok (.iastore, 1) := by decide +kernel
theorem d_QU_take_41 : decode b_QU_take 41 = .ok (.iload_n 2, 1) := by decide +kernel
theorem d_QU_take_42 : decode b_QU_take 42 = .ok (.ireturn, 1) := by decide +kernel
