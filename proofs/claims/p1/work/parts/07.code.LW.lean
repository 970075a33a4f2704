abbrev b_LW_state : ByteArray := method_3_code
def y_LW_state : MethodName := ⟨"ExploreSharesLaw", "state", "(LExploreShares;[J)I"⟩
abbrev h_LW_state : List (Nat × Nat × Nat × Nat) := [(0, 8, 11, 13)]
def w_LW_state : List Cond := .codeWith y_LW_state b_LW_state 3 (some .int) h_LW_state :: xU
theorem d_LW_state_0 : decode b_LW_state 0 = .ok (.aload_n 1, 1) := by decide +kernel
theorem d_LW_state_1 : decode b_LW_state 1 = .ok (.iconst 0, 1) := by decide +kernel
theorem d_LW_state_2 : decode b_LW_state 2 = .ok (.aload_n 0, 1) := by decide +kernel
theorem d_LW_state_3 : decode b_LW_state 3 = .ok (.invokevirtual 7, 3) := by decide +kernel
theorem d_LW_state_6 : decode b_LW_state 6 = .ok (.i2l, 1) := by decide +kernel
theorem d_LW_state_7 : decode b_LW_state 7 = .ok (.lastore, 1) := by decide +kernel
theorem d_LW_state_8 : decode b_LW_state 8 = .ok (.goto 6, 3) := by decide +kernel
theorem d_LW_state_14 : decode b_LW_state 14 = .ok (.iconst 0, 1) := by decide +kernel
theorem d_LW_state_15 : decode b_LW_state 15 = .ok (.ireturn, 1) := by decide +kernel
abbrev b_LW_move : ByteArray := method_4_code
def y_LW_move : MethodName := ⟨"ExploreSharesLaw", "move", "(LExploreShares;II[J)I"⟩
abbrev h_LW_move : List (Nat × Nat × Nat × Nat) := [(0, 10, 13, 19), (0, 10, 17, 13)]
def w_LW_move : List Cond := .codeWith y_LW_move b_LW_move 5 (some .int) h_LW_move :: xU
theorem d_LW_move_0 : decode b_LW_move 0 = .ok (.aload_n 3, 1) := by decide +kernel
theorem d_LW_move_1 : decode b_LW_move 1 = .ok (.iconst 0, 1) := by decide +kernel
theorem d_LW_move_2 : decode b_LW_move 2 = .ok (.aload_n 0, 1) := by decide +kernel
theorem d_LW_move_3 : decode b_LW_move 3 = .ok (.iload_n 1, 1) := by decide +kernel
theorem d_LW_move_4 : decode b_LW_move 4 = .ok (.iload_n 2, 1) := by decide +kernel
theorem d_LW_move_5 : decode b_LW_move 5 = .ok (.invokevirtual 15, 3) := by decide +kernel
theorem d_LW_move_13 : decode b_LW_move 13 = .ok (.astore 4, 2) := by decide +kernel
theorem d_LW_move_15 : decode b_LW_move 15 = .ok (.iconst 1, 1) := by decide +kernel
theorem d_LW_move_16 : decode b_LW_move 16 = .ok (.ireturn, 1) := by decide +kernel
abbrev b_LW_run : ByteArray := method_6_code
def y_LW_run : MethodName := ⟨"ExploreSharesLaw", "run", "(LExploreShares;I[J)I"⟩
abbrev h_LW_run : List (Nat × Nat × Nat × Nat) := [(0, 9, 12, 31)]
def w_LW_run : List Cond := .codeWith y_LW_run b_LW_run 4 (some .int) h_LW_run :: xU
theorem d_LW_run_0 : decode b_LW_run 0 = .ok (.aload_n 2, 1) := by decide +kernel
theorem d_LW_run_1 : decode b_LW_run 1 = .ok (.iconst 0, 1) := by decide +kernel
theorem d_LW_run_2 : decode b_LW_run 2 = .ok (.aload_n 0, 1) := by decide +kernel
theorem d_LW_run_3 : decode b_LW_run 3 = .ok (.iload_n 1, 1) := by decide +kernel
theorem d_LW_run_4 : decode b_LW_run 4 = .ok (.invokevirtual 27, 3) := by decide +kernel
theorem d_LW_run_12 : decode b_LW_run 12 = .ok (.astore_n 3, 1) := by decide +kernel
theorem d_LW_run_13 : decode b_LW_run 13 = .ok (.iconst 1, 1) := by decide +kernel
theorem d_LW_run_14 : decode b_LW_run 14 = .ok (.ireturn, 1) := by decide +kernel
abbrev b_LW_level : ByteArray := method_7_code
def y_LW_level : MethodName := ⟨"ExploreSharesLaw", "level", "(LExploreShares;I[J)I"⟩
abbrev h_LW_level : List (Nat × Nat × Nat × Nat) := [(0, 9, 12, 25)]
def w_LW_level : List Cond := .codeWith y_LW_level b_LW_level 4 (some .int) h_LW_level :: xU
theorem d_LW_level_0 : decode b_LW_level 0 = .ok (.aload_n 2, 1) := by decide +kernel
theorem d_LW_level_1 : decode b_LW_level 1 = .ok (.iconst 0, 1) := by decide +kernel
theorem d_LW_level_2 : decode b_LW_level 2 = .ok (.aload_n 0, 1) := by decide +kernel
theorem d_LW_level_3 : decode b_LW_level 3 = .ok (.iload_n 1, 1) := by decide +kernel
theorem d_LW_level_4 : decode b_LW_level 4 = .ok (.invokevirtual 33, 3) := by decide +kernel
theorem d_LW_level_12 : decode b_LW_level 12 = .ok (.astore_n 3, 1) := by decide +kernel
theorem d_LW_level_13 : decode b_LW_level 13 = .ok (.iconst 1, 1) := by decide +kernel
theorem d_LW_level_14 : decode b_LW_level 14 = .ok (.ireturn, 1) := by decide +kernel
abbrev b_LW_owner : ByteArray := method_8_code
def y_LW_owner : MethodName := ⟨"ExploreSharesLaw", "owner", "(LExploreShares;I[J)I"⟩
abbrev h_LW_owner : List (Nat × Nat × Nat × Nat) := [(0, 9, 12, 25)]
def w_LW_owner : List Cond := .codeWith y_LW_owner b_LW_owner 4 (some .int) h_LW_owner :: xU
theorem d_LW_owner_0 : decode b_LW_owner 0 = .ok (.aload_n 2, 1) := by decide +kernel
theorem d_LW_owner_1 : decode b_LW_owner 1 = .ok (.iconst 0, 1) := by decide +kernel
theorem d_LW_owner_2 : decode b_LW_owner 2 = .ok (.aload_n 0, 1) := by decide +kernel
theorem d_LW_owner_3 : decode b_LW_owner 3 = .ok (.iload_n 1, 1) := by decide +kernel
theorem d_LW_owner_4 : decode b_LW_owner 4 = .ok (.invokevirtual 36, 3) := by decide +kernel
theorem d_LW_owner_12 : decode b_LW_owner 12 = .ok (.astore_n 3, 1) := by decide +kernel
theorem d_LW_owner_13 : decode b_LW_owner 13 = .ok (.iconst 1, 1) := by decide +kernel
theorem d_LW_owner_14 : decode b_LW_owner 14 = .ok (.ireturn, 1) := by decide +kernel
abbrev b_LW_times : ByteArray := method_9_code
def y_LW_times : MethodName := ⟨"ExploreSharesLaw", "times", "(LExploreShares;I[J)I"⟩
abbrev h_LW_times : List (Nat × Nat × Nat × Nat) := [(0, 9, 12, 25)]
def w_LW_times : List Cond := .codeWith y_LW_times b_LW_times 4 (some .int) h_LW_times :: xU
theorem d_LW_times_0 : decode b_LW_times 0 = .ok (.aload_n 2, 1) := by decide +kernel
theorem d_LW_times_1 : decode b_LW_times 1 = .ok (.iconst 0, 1) := by decide +kernel
theorem d_LW_times_2 : decode b_LW_times 2 = .ok (.aload_n 0, 1) := by decide +kernel
theorem d_LW_times_3 : decode b_LW_times 3 = .ok (.iload_n 1, 1) := by decide +kernel
theorem d_LW_times_4 : decode b_LW_times 4 = .ok (.invokevirtual 39, 3) := by decide +kernel
theorem d_LW_times_12 : decode b_LW_times 12 = .ok (.astore_n 3, 1) := by decide +kernel
theorem d_LW_times_13 : decode b_LW_times 13 = .ok (.iconst 1, 1) := by decide +kernel
theorem d_LW_times_14 : decode b_LW_times 14 = .ok (.ireturn, 1) := by decide +kernel
abbrev b_LW_way : ByteArray := method_10_code
def y_LW_way : MethodName := ⟨"ExploreSharesLaw", "way", "(LExploreShares;II[J)I"⟩
abbrev h_LW_way : List (Nat × Nat × Nat × Nat) := [(0, 10, 13, 25)]
def w_LW_way : List Cond := .codeWith y_LW_way b_LW_way 5 (some .int) h_LW_way :: xU
theorem d_LW_way_0 : decode b_LW_way 0 = .ok (.aload_n 3, 1) := by decide +kernel
theorem d_LW_way_1 : decode b_LW_way 1 = .ok (.iconst 0, 1) := by decide +kernel
theorem d_LW_way_2 : decode b_LW_way 2 = .ok (.aload_n 0, 1) := by decide +kernel
theorem d_LW_way_3 : decode b_LW_way 3 = .ok (.iload_n 1, 1) := by decide +kernel
theorem d_LW_way_4 : decode b_LW_way 4 = .ok (.iload_n 2, 1) := by decide +kernel
theorem d_LW_way_5 : decode b_LW_way 5 = .ok (.invokevirtual 42, 3) := by decide +kernel
theorem d_LW_way_13 : decode b_LW_way 13 = .ok (.astore 4, 2) := by decide +kernel
theorem d_LW_way_15 : decode b_LW_way 15 = .ok (.iconst 1, 1) := by decide +kernel
theorem d_LW_way_16 : decode b_LW_way 16 = .ok (.ireturn, 1) := by decide +kernel
abbrev b_LW_failed : ByteArray := method_12_code
def y_LW_failed : MethodName := ⟨"ExploreSharesLaw", "failed", "(LExploreShares;II[J)I"⟩
abbrev h_LW_failed : List (Nat × Nat × Nat × Nat) := [(0, 10, 13, 25)]
def w_LW_failed : List Cond := .codeWith y_LW_failed b_LW_failed 5 (some .int) h_LW_failed :: xU
theorem d_LW_failed_0 : decode b_LW_failed 0 = .ok (.aload_n 3, 1) := by decide +kernel
theorem d_LW_failed_1 : decode b_LW_failed 1 = .ok (.iconst 0, 1) := by decide +kernel
theorem d_LW_failed_2 : decode b_LW_failed 2 = .ok (.aload_n 0, 1) := by decide +kernel
theorem d_LW_failed_3 : decode b_LW_failed 3 = .ok (.iload_n 1, 1) := by decide +kernel
theorem d_LW_failed_4 : decode b_LW_failed 4 = .ok (.iload_n 2, 1) := by decide +kernel
theorem d_LW_failed_5 : decode b_LW_failed 5 = .ok (.invokevirtual 48, 3) := by decide +kernel
theorem d_LW_failed_13 : decode b_LW_failed 13 = .ok (.astore 4, 2) := by decide +kernel
theorem d_LW_failed_15 : decode b_LW_failed 15 = .ok (.iconst 1, 1) := by decide +kernel
theorem d_LW_failed_16 : decode b_LW_failed 16 = .ok (.ireturn, 1) := by decide +kernel
abbrev b_LW_size : ByteArray := method_13_code
def y_LW_size : MethodName := ⟨"ExploreSharesLaw", "size", "(LExploreShares;I[J)I"⟩
abbrev h_LW_size : List (Nat × Nat × Nat × Nat) := [(0, 9, 12, 25)]
def w_LW_size : List Cond := .codeWith y_LW_size b_LW_size 4 (some .int) h_LW_size :: xU
theorem d_LW_size_0 : decode b_LW_size 0 = .ok (.aload_n 2, 1) := by decide +kernel
theorem d_LW_size_1 : decode b_LW_size 1 = .ok (.iconst 0, 1) := by decide +kernel
theorem d_LW_size_2 : decode b_LW_size 2 = .ok (.aload_n 0, 1) := by decide +kernel
theorem d_LW_size_3 : decode b_LW_size 3 = .ok (.iload_n 1, 1) := by decide +kernel
theorem d_LW_size_4 : decode b_LW_size 4 = .ok (.invokevirtual 51, 3) := by decide +kernel
theorem d_LW_size_12 : decode b_LW_size 12 = .ok (.astore_n 3, 1) := by decide +kernel
theorem d_LW_size_13 : decode b_LW_size 13 = .ok (.iconst 1, 1) := by decide +kernel
theorem d_LW_size_14 : decode b_LW_size 14 = .ok (.ireturn, 1) := by decide +kernel
abbrev b_LW_worker : ByteArray := method_11_code
def y_LW_worker : MethodName := ⟨"ExploreSharesLaw", "worker", "(LExploreShares;II[J)I"⟩
abbrev h_LW_worker : List (Nat × Nat × Nat × Nat) := [(0, 10, 13, 25)]
def w_LW_worker : List Cond := .codeWith y_LW_worker b_LW_worker 5 (some .int) h_LW_worker :: xU
theorem d_LW_worker_0 : decode b_LW_worker 0 = .ok (.aload_n 3, 1) := by decide +kernel
theorem d_LW_worker_1 : decode b_LW_worker 1 = .ok (.iconst 0, 1) := by decide +kernel
theorem d_LW_worker_2 : decode b_LW_worker 2 = .ok (.aload_n 0, 1) := by decide +kernel
theorem d_LW_worker_3 : decode b_LW_worker 3 = .ok (.iload_n 1, 1) := by decide +kernel
theorem d_LW_worker_4 : decode b_LW_worker 4 = .ok (.iload_n 2, 1) := by decide +kernel
theorem d_LW_worker_5 : decode b_LW_worker 5 = .ok (.invokevirtual 45, 3) := by decide +kernel
theorem d_LW_worker_8 : decode b_LW_worker 8 = .ok (.i2l, 1) := by decide +kernel
theorem d_LW_worker_9 : decode b_LW_worker 9 = .ok (.lastore, 1) := by decide +kernel
theorem d_LW_worker_10 : decode b_LW_worker 10 = .ok (.goto 7, 3) := by decide +kernel
theorem d_LW_worker_13 : decode b_LW_worker 13 = .ok (.astore 4, 2) := by decide +kernel
theorem d_LW_worker_15 : decode b_LW_worker 15 = .ok (.iconst 1, 1) := by decide +kernel
theorem d_LW_worker_16 : decode b_LW_worker 16 = .ok (.ireturn, 1) := by decide +kernel
theorem d_LW_worker_17 : decode b_LW_worker 17 = .ok (.iconst 0, 1) := by decide +kernel
theorem d_LW_worker_18 : decode b_LW_worker 18 = .ok (.ireturn, 1) := by decide +kernel
abbrev b_LW_fail : ByteArray := method_5_code
def y_LW_fail : MethodName := ⟨"ExploreSharesLaw", "fail", "(LExploreShares;III[J)I"⟩
abbrev h_LW_fail : List (Nat × Nat × Nat × Nat) := [(0, 12, 15, 25), (0, 12, 19, 19), (0, 12, 23, 13)]
def w_LW_fail : List Cond := .codeWith y_LW_fail b_LW_fail 6 (some .int) h_LW_fail :: xU
theorem d_LW_fail_0 : decode b_LW_fail 0 = .ok (.aload 4, 2) := by decide +kernel
theorem d_LW_fail_2 : decode b_LW_fail 2 = .ok (.iconst 0, 1) := by decide +kernel
theorem d_LW_fail_3 : decode b_LW_fail 3 = .ok (.aload_n 0, 1) := by decide +kernel
theorem d_LW_fail_4 : decode b_LW_fail 4 = .ok (.iload_n 1, 1) := by decide +kernel
theorem d_LW_fail_5 : decode b_LW_fail 5 = .ok (.iload_n 2, 1) := by decide +kernel
theorem d_LW_fail_6 : decode b_LW_fail 6 = .ok (.iload_n 3, 1) := by decide +kernel
theorem d_LW_fail_7 : decode b_LW_fail 7 = .ok (.invokevirtual 21, 3) := by decide +kernel
theorem d_LW_fail_10 : decode b_LW_fail 10 = .ok (.i2l, 1) := by decide +kernel
theorem d_LW_fail_11 : decode b_LW_fail 11 = .ok (.lastore, 1) := by decide +kernel
theorem d_LW_fail_12 : decode b_LW_fail 12 = .ok (.goto 15, 3) := by decide +kernel
theorem d_LW_fail_15 : decode b_LW_fail 15 = .ok (.astore 5, 2) := by decide +kernel
theorem d_LW_fail_17 : decode b_LW_fail 17 = .ok (.iconst 1, 1) := by decide +kernel
theorem d_LW_fail_18 : decode b_LW_fail 18 = .ok (.ireturn, 1) := by decide +kernel
theorem d_LW_fail_19 : decode b_LW_fail 19 = .ok (.astore 5, 2) := by decide +kernel
theorem d_LW_fail_21 : decode b_LW_fail 21 = .ok (.iconst 2, 1) := by decide +kernel
theorem d_LW_fail_22 : decode b_LW_fail 22 = .ok (.ireturn, 1) := by decide +kernel
theorem d_LW_fail_27 : decode b_LW_fail 27 = .ok (.iconst 0, 1) := by decide +kernel
theorem d_LW_fail_28 : decode b_LW_fail 28 = .ok (.ireturn, 1) := by decide +kernel
