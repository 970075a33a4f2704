abbrev b_LW_state : ByteArray := method_3_code
def y_LW_state : MethodName := ⟨"ExploreSharesLaw", "state", "(LExploreShares;[J)I"⟩
abbrev h_LW_state : List (Nat × Nat × Nat × Nat) := [(0, 8, 11, 13)]
def w_LW_state : List Cond := .codeWith y_LW_state b_LW_state 3 (some .int) h_LW_state :: xU
theorem d_LW_state_0 : decode b_LW_state 0 = .ok (.aload_n 1, 1) := by decide +kernel
theorem d_LW_state_1 : decode b_LW_state 1 = .ok (.iconst 0, 1) := by decide +kernel
theorem d_LW_state_2 : decode b_LW_state 2 = .ok (.aload_n 0, 1) := by decide +kernel
theorem d_LW_state_3 : decode b_LW_state 3 = .ok (.invokevirtual 7, 3) := by decide +kernel
theorem d_LW_state_6 : decode b_LW_state 6 = .ok (.i2l, 1) := by decide +kernel
theorem d_LW_state_7 : decode b_LW_state 7 = .ok (.lastore, 1) := by decide +kernel
theorem d_LW_state_8 : decode b_LW_state 8 = .ok (.goto 6, 3) := by decide +kernel
theorem d_LW_state_14 : decode b_LW_state 14 = .ok (.iconst 0, 1) := by decide +kernel
theorem d_LW_state_15 : decode b_LW_state 15 = .ok (.ireturn, 1) := by decide +kernel
abbrev b_LW_move : ByteArray := method_4_code
def y_LW_move : MethodName := ⟨"ExploreSharesLaw", "move", "(LExploreShares;II[J)I"⟩
abbrev h_LW_move : List (Nat × Nat × Nat × Nat) := [(0, 10, 13, 19), (0, 10, 17, 13)]
def w_LW_move : List Cond := .codeWith y_LW_move b_LW_move 5 (some .int) h_LW_move :: xU
theorem d_LW_move_0 : decode b_LW_move 0 = .ok (.aload_n 3, 1) := by decide +kernel
theorem d_LW_move_1 : decode b_LW_move 1 = .ok (.iconst 0, 1) := by decide +kernel
theorem d_LW_move_2 : decode b_LW_move 2 = .ok (.aload_n 0, 1) := by decide +kernel
theorem d_LW_move_3 : decode b_LW_move 3 = .ok (.iload_n 1, 1) := by decide +kernel
theorem d_LW_move_4 : decode b_LW_move 4 = .ok (.iload_n 2, 1) := by decide +kernel
theorem d_LW_move_5 : decode b_LW_move 5 = .ok (.invokevirtual 15, 3) := by decide +kernel
theorem d_LW_move_13 : decode b_LW_move 13 = .ok (.astore 4, 2) := by decide +kernel
theorem d_LW_move_15 : decode b_LW_move 15 = .ok (.iconst 1, 1) := by decide +kernel
theorem d_LW_move_16 : decode b_LW_move 16 = .ok (.ireturn, 1) := by decide +kernel
abbrev b_LW_run : ByteArray := method_6_code
def y_LW_run : MethodName := ⟨"ExploreSharesLaw", "run", "(LExploreShares;I[J)I"⟩
abbrev h_LW_run : List (Nat × Nat × Nat × Nat) := [(0, 9, 12, 31)]
def w_LW_run : List Cond := .codeWith y_LW_run b_LW_run 4 (some .int) h_LW_run :: xU
theorem d_LW_run_0 : decode b_LW_run 0 = .ok (.aload_n 2, 1) := by decide +kernel
theorem d_LW_run_1 : decode b_LW_run 1 = .ok (.iconst 0, 1) := by decide +kernel
theorem d_LW_run_2 : decode b_LW_run 2 = .ok (.aload_n 0, 1) := by decide +kernel
theorem d_LW_run_3 : decode b_LW_run 3 = .ok (.iload_n 1, 1) := by decide +kernel
theorem d_LW_run_4 : decode b_LW_run 4 = .ok (.invokevirtual 27, 3) := by decide +kernel
theorem d_LW_run_12 : decode b_LW_run 12 = .ok (.astore_n 3, 1) := by decide +kernel
theorem d_LW_run_13 : decode b_LW_run 13 = .ok (.iconst 1, 1) := by decide +kernel
theorem d_LW_run_14 : decode b_LW_run 14 = .ok (.ireturn, 1) := by decide +kernel
abbrev b_LW_level : ByteArray := method_7_code
def y_LW_level : MethodName := ⟨"ExploreSharesLaw", "level", "(LExploreShares;I[J)I"⟩
abbrev h_LW_level : List (Nat × Nat × Nat × Nat) := [(0, 9, 12, 25)]
def w_LW_level : List Cond := .codeWith y_LW_level b_LW_level 4 (some .int) h_LW_level :: xU
theorem d_LW_level_0 : decode b_LW_level 0 = .ok (.aload_n 2, 1) := by decide +kernel
theorem d_LW_level_1 : decode b_LW_level 1 = .ok (.iconst 0, 1) := by decide +kernel
theorem d_LW_level_2 : decode b_LW_level 2 = .ok (.aload_n 0, 1) := by decide +kernel
theorem d_LW_level_3 : decode b_LW_level 3 = .ok (.iload_n 1, 1) := by decide +kernel
theorem d_LW_level_4 : decode b_LW_level 4 = .ok (.invokevirtual 33, 3) := by decide +kernel
theorem d_LW_level_12 : decode b_LW_level 12 = .ok (.astore_n 3, 1) := by decide +kernel
theorem d_LW_level_13 : decode b_LW_level 13 = .ok (.iconst 1, 1) := by decide +kernel
theorem d_LW_level_14 : decode b_LW_level 14 = .ok (.ireturn, 1) := by decide +kernel
abbrev b_LW_owner : ByteArray := method_8_code
def y_LW_owner : MethodName := ⟨"ExploreSharesLaw", "owner", "(LExploreShares;I[J)I"⟩
abbrev h_LW_owner : List (Nat × Nat × Nat × Nat) := [(0, 9, 12, 25)]
def w_LW_owner : List Cond := .codeWith y_LW_owner b_LW_owner 4 (some .int) h_LW_owner :: xU
theorem d_LW_owner_0 : decode b_LW_owner 0 = .ok (.aload_n 2, 1) := by decide +kernel
theorem d_LW_owner_1 : decode b_LW_owner 1 = .ok (.iconst 0, 1) := by decide +kernel
theorem d_LW_owner_2 : decode b_LW_owner 2 = .ok (.aload_n 0, 1) := by decide +kernel
theorem d_LW_owner_3 : decode b_LW_owner 3 = .ok (.iload_n 1, 1) := by decide +kernel
theorem d_LW_owner_4 : decode b_LW_owner 4 = .ok (.invokevirtual 36, 3) := by decide +kernel
theorem d_LW_owner_12 : decode b_LW_owner 12 = .ok (.astore_n 3, 1) := by decide +kernel
theorem d_LW_owner_13 : decode b_LW_owner 13 = .ok (.iconst 1, 1) := by decide +kernel
theorem d_LW_owner_14 : decode b_LW_owner 14 = .ok (.ireturn, 1) := by decide +kernel
abbrev b_LW_times : ByteArray := method_9_code
def y_LW_times : MethodName := ⟨"ExploreSharesLaw", "times", "(LExploreShares;I[J)I"⟩
abbrev h_LW_times : List (Nat × Nat × Nat × Nat) := [(0, 9, 12, 25)]
def w_LW_times : List Cond := .codeWith y_LW_times b_LW_times 4 (some .int) h_LW_times :: xU
theorem d_LW_times_0 : decode b_LW_times 0 = .ok (.aload_n 2, 1) := by decide +kernel
theorem d_LW_times_1 : decode b_LW_times 1 = .ok (.iconst 0, 1) := by decide +kernel
theorem d_LW_times_2 : decode b_LW_times 2 = .ok (.aload_n 0, 1) := by decide +kernel
theorem d_LW_times_3 : decode b_LW_times 3 = .ok (.iload_n 1, 1) := by decide +kernel
theorem d_LW_times_4 : decode b_LW_times 4 = .ok (.invokevirtual 39, 3) := by decide +kernel
theorem d_LW_times_12 : decode b_LW_times 12 = .ok (.astore_n 3, 1) := by decide +kernel
theorem d_LW_times_13 : decode b_LW_times 13 = .ok (.iconst 1, 1) := by decide +kernel
theorem d_LW_times_14 : decode b_LW_times 14 = .ok (.ireturn, 1) := by decide +kernel
abbrev b_LW_way : ByteArray := method_10_code
def y_LW_way : MethodName := ⟨"ExploreSharesLaw", "way", "(LExploreShares;II[J)I"⟩
abbrev h_LW_way : List (Nat × Nat × Nat × Nat) := [(0, 10, 13, 25)]
def w_LW_way : List Cond := .codeWith y_LW_way b_LW_way 5 (some .int) h_LW_way :: xU
theorem d_LW_way_0 : decode b_LW_way 0 = .ok (.aload_n 3, 1) := by decide +kernel
theorem d_LW_way_1 : decode b_LW_way 1 = .ok (.iconst 0, 1) := by decide +kernel
theorem d_LW_way_2 : decode b_LW_way 2 = .ok (.aload_n 0, 1) := by decide +kernel
theorem d_LW_way_3 : decode b_LW_way 3 = .ok (.iload_n 1, 1) := by decide +kernel
theorem d_LW_way_4 : decode b_LW_way 4 = .ok (.iload_n 2, 1) := by decide +kernel
theorem d_LW_way_5 : decode b_LW_way 5 = .ok (.invokevirtual 42, 3) := by decide +kernel
theorem d_LW_way_13 : decode b_LW_way 13 = .ok (.astore 4, 2) := by decide +kernel
theorem d_LW_way_15 : decode b_LW_way 15 = .ok (.iconst 1, 1) := by decide +kernel
theorem d_LW_way_16 : decode b_LW_way 16 = .ok (.ireturn, 1) := by decide +kernel
abbrev b_LW_failed : ByteArray := method_12_code
def y_LW_failed : MethodName := ⟨"ExploreSharesLaw", "failed", "(LExploreShares;II[J)I"⟩
abbrev h_LW_failed : List (Nat × Nat × Nat × Nat) := [(0, 10, 13, 25)]
def w_LW_failed : List Cond := .codeWith y_LW_failed b_LW_failed 5 (some .int) h_LW_failed :: xU
theorem d_LW_failed_0 : decode b_LW_failed 0 = .ok (.aload_n 3, 1) := by decide +kernel
theorem d_LW_failed_1 : decode b_LW_failed 1 = .ok (.iconst 0, 1) := by decide +kernel
theorem d_LW_failed_2 : decode b_LW_failed 2 = .ok (.aload_n 0, 1) := by decide +kernel
theorem d_LW_failed_3 : decode b_LW_failed 3 = .ok (.iload_n 1, 1) := by decide +kernel
theorem d_LW_failed_4 : decode b_LW_failed 4 = .ok (.iload_n 2, 1) := by decide +kernel
theorem d_LW_failed_5 : decode b_LW_failed 5 = .ok (.invokevirtual 48, 3) := by decide +kernel
theorem d_LW_failed_13 : decode b_LW_failed 13 = .ok (.astore 4, 2) := by decide +kernel
theorem d_LW_failed_15 : decode b_LW_failed 15 = .ok (.iconst 1, 1) := by decide +kernel
theorem d_LW_failed_16 : decode b_LW_failed 16 = .ok (.ireturn, 1) := by decide +kernel
abbrev b_LW_size : ByteArray := method_13_code
def y_LW_size : MethodName := ⟨"ExploreSharesLaw", "size", "(LExploreShares;I[J)I"⟩
abbrev h_LW_size : List (Nat × Nat × Nat × Nat) := [(0, 9, 12, 25)]
def w_LW_size : List Cond := .codeWith y_LW_size b_LW_size 4 (some .int) h_LW_size :: xU
theorem d_LW_size_0 : decode b_LW_size 0 = .ok (.aload_n 2, 1) := by decide +kernel
theorem d_LW_size_1 : decode b_LW_size 1 = .ok (.iconst 0, 1) := by decide +kernel
theorem d_LW_size_2 : decode b_LW_size 2 = .ok (.aload_n 0, 1) := by decide +kernel
theorem d_LW_size_3 : decode b_LW_size 3 = .ok (.iload_n 1, 1) := by decide +kernel
theorem d_LW_size_4 : decode b_LW_size 4 = .ok (.invokevirtual 51, 3) := by decide +kernel
theorem d_LW_size_12 : decode b_LW_size 12 = .ok (.astore_n 3, 1) := by decide +kernel
theorem d_LW_size_13 : decode b_LW_size 13 = .ok (.iconst 1, 1) := by decide +kernel
theorem d_LW_size_14 : decode b_LW_size 14 = .ok (.ireturn, 1) := by decide +kernel
abbrev b_LW_worker : ByteArray := method_11_code
def y_LW_worker : MethodName := ⟨"ExploreSharesLaw", "worker", "(LExploreShares;II[J)I"⟩
abbrev h_LW_worker : List (Nat × Nat × Nat × Nat) := [(0, 10, 13, 25)]
def w_LW_worker : List Cond := .codeWith y_LW_worker b_LW_worker 5 (some .int) h_LW_worker :: xU
theorem d_LW_worker_0 : decode b_LW_worker 0 = .ok (.aload_n 3, 1) := by decide +kernel
theorem d_LW_worker_1 : decode b_LW_worker 1 = .ok (.iconst 0, 1) := by decide +kernel
theorem d_LW_worker_2 : decode b_LW_worker 2 = .ok (.aload_n 0, 1) := by decide +kernel
theorem d_LW_worker_3 : decode b_LW_worker 3 = .ok (.iload_n 1, 1) := by decide +kernel
theorem d_LW_worker_4 : decode b_LW_worker 4 = .ok (.iload_n 2, 1) := by decide +kernel
theorem d_LW_worker_5 : decode b_LW_worker 5 = .ok (.invokevirtual 45, 3) := by decide +kernel
theorem d_LW_worker_8 : decode b_LW_worker 8 = .ok (.i2l, 1) := by decide +kernel
theorem d_LW_worker_9 : decode b_LW_worker 9 = .ok (.lastore, 1) := by decide +kernel
theorem d_LW_worker_10 : decode b_LW_worker 10 = .ok (.goto 7, 3) := by decide +kernel
theorem d_LW_worker_13 : decode b_LW_worker 13 = .ok (.astore 4, 2) := by decide +kernel
theorem d_LW_worker_15 : decode b_LW_worker 15 = .ok (.iconst 1, 1) := by decide +kernel
theorem d_LW_worker_16 : decode b_LW_worker 16 = .ok (.ireturn, 1) := by decide +kernel
theorem d_LW_worker_17 : decode b_LW_worker 17 = .ok (.iconst 0, 1) := by decide +kernel
theorem d_LW_worker_18 : decode b_LW_worker 18 = .ok (.ireturn, 1) := by decide +kernel
abbrev b_LW_fail : ByteArray := method_5_code
def y_LW_fail : MethodName := ⟨"ExploreSharesLaw", "fail", "(LExploreShares;III[J)I"⟩
abbrev h_LW_fail : List (Nat × Nat × Nat × Nat) := [(0, 12, 15, 25), (0, 12, 19, 19), (0, 12, 23, 13)]
def w_LW_fail : List Cond := .codeWith y_LW_fail b_LW_fail 6 (some .int) h_LW_fail :: xU
theorem d_LW_fail_0 : decode b_LW_fail 0 = .ok (.aload 4, 2) := by decide +kernel
theorem d_LW_fail_2 : decode b_LW_fail 2 = .ok (.iconst 0, 1) := by decide +kernel
theorem d_LW_fail_3 : decode b_LW_fail 3 = .ok (.aload_n 0, 1) := by decide +kernel
theorem d_LW_fail_4 : decode b_LW_fail 4 = .ok (.iload_n 1, 1) := by decide +kernel
theorem d_LW_fail_5 : decode b_LW_fail 5 = .ok (.iload_n 2, 1) := by decide +kernel
theorem d_LW_fail_6 : decode b_LW_fail 6 = .ok (.iload_n 3, 1) := by decide +kernel
theorem d_LW_fail_7 : decode b_LW_fail 7 = .ok (.invokevirtual 21, 3) := by decide +kernel
theorem d_LW_fail_10 : decode b_LW_fail 10 = .ok (.i2l, 1) := by decide +kernel
theorem d_LW_fail_11 : decode b_LW_fail 11 = .ok (.lastore, 1) := by decide +kernel
theorem d_LW_fail_12 : decode b_LW_fail 12 = .ok (.goto 15, 3) := by decide +kernel
theorem d_LW_fail_15 : decode b_LW_fail 15 = .ok (.astore 5, 2) := by decide +kernel
theorem d_LW_fail_17 : decode b_LW_fail 17 = .ok (.iconst 1, 1) := by decide +kernel
theorem d_LW_fail_18 : decode b_LW_fail 18 = .ok (.ireturn, 1) := by decide +kernel
theorem d_LW_fail_19 : decode b_LW_fail 19 = .ok (.astore 5, 2) := by decide +kernel
theorem d_LW_fail_21 : decode b_LW_fail 21 = .ok (.iconst 2, 1) := by decide +kernel
theorem d_LW_fail_22 : decode b_LW_fail 22 = .ok (.ireturn, 1) := by decide +kernel
theorem d_LW_fail_27 : decode b_LW_fail 27 = .ok (.iconst 0, 1) := by decide +kernel
theorem d_LW_fail_28 : decode b_LW_fail 28 = .ok (.ireturn, 1) := by decide +kernel
abbrev b_LW_law : ByteArray := code
def y_LW_law : MethodName := ⟨"ExploreSharesLaw", "law", "([I)Z"⟩
def w_LW_law : List Cond := .code y_LW_law b_LW_law 7 (some .boolean) :: xU
theorem d_LW_law_0 : decode b_LW_law 0 = .ok (.new 8, 3) := by decide +kernel
theorem d_LW_law_3 : decode b_LW_law 3 = .ok (.dup, 1) := by decide +kernel
theorem d_LW_law_4 : decode b_LW_law 4 = .ok (.aload_n 0, 1) := by decide +kernel
theorem d_LW_law_5 : decode b_LW_law 5 = .ok (.iconst 0, 1) := by decide +kernel
theorem d_LW_law_6 : decode b_LW_law 6 = .ok (.invokestatic 54, 3) := by decide +kernel
theorem d_LW_law_9 : decode b_LW_law 9 = .ok (.aload_n 0, 1) := by decide +kernel
theorem d_LW_law_10 : decode b_LW_law 10 = .ok (.iconst 1, 1) := by decide +kernel
theorem d_LW_law_11 : decode b_LW_law 11 = .ok (.invokestatic 54, 3) := by decide +kernel
theorem d_LW_law_14 : decode b_LW_law 14 = .ok (.invokespecial 60, 3) := by decide +kernel
theorem d_LW_law_17 : decode b_LW_law 17 = .ok (.astore_n 1, 1) := by decide +kernel
theorem d_LW_law_18 : decode b_LW_law 18 = .ok (.new 63, 3) := by decide +kernel
theorem d_LW_law_21 : decode b_LW_law 21 = .ok (.dup, 1) := by decide +kernel
theorem d_LW_law_22 : decode b_LW_law 22 = .ok (.aload_n 0, 1) := by decide +kernel
theorem d_LW_law_23 : decode b_LW_law 23 = .ok (.iconst 0, 1) := by decide +kernel
theorem d_LW_law_24 : decode b_LW_law 24 = .ok (.invokestatic 54, 3) := by decide +kernel
theorem d_LW_law_27 : decode b_LW_law 27 = .ok (.aload_n 0, 1) := by decide +kernel
theorem d_LW_law_28 : decode b_LW_law 28 = .ok (.iconst 1, 1) := by decide +kernel
theorem d_LW_law_29 : decode b_LW_law 29 = .ok (.invokestatic 54, 3) := by decide +kernel
theorem d_LW_law_32 : decode b_LW_law 32 = .ok (.invokespecial 65, 3) := by decide +kernel
theorem d_LW_law_35 : decode b_LW_law 35 = .ok (.astore_n 2, 1) := by decide +kernel
theorem d_LW_law_36 : decode b_LW_law 36 = .ok (.iconst 1, 1) := by decide +kernel
theorem d_LW_law_37 : decode b_LW_law 37 = .ok (.newarray .long, 2) := by decide +kernel
theorem d_LW_law_39 : decode b_LW_law 39 = .ok (.astore_n 3, 1) := by decide +kernel
theorem d_LW_law_40 : decode b_LW_law 40 = .ok (.iconst 2, 1) := by decide +kernel
theorem d_LW_law_41 : decode b_LW_law 41 = .ok (.istore 4, 2) := by decide +kernel
theorem d_LW_law_43 : decode b_LW_law 43 = .ok (.iload 4, 2) := by decide +kernel
theorem d_LW_law_45 : decode b_LW_law 45 = .ok (.aload_n 0, 1) := by decide +kernel
theorem d_LW_law_46 : decode b_LW_law 46 = .ok (.arraylength, 1) := by decide +kernel
theorem d_LW_law_47 : decode b_LW_law 47 = .ok (.iconst 4, 1) := by decide +kernel
theorem d_LW_law_48 : decode b_LW_law 48 = .ok (.isub, 1) := by decide +kernel
theorem d_LW_law_49 : decode b_LW_law 49 = .ok (.if_icmp .gt 778, 3) := by decide +kernel
theorem d_LW_law_52 : decode b_LW_law 52 = .ok (.aload_n 0, 1) := by decide +kernel
theorem d_LW_law_53 : decode b_LW_law 53 = .ok (.iload 4, 2) := by decide +kernel
theorem d_LW_law_55 : decode b_LW_law 55 = .ok (.iaload, 1) := by decide +kernel
theorem d_LW_law_56 : decode b_LW_law 56 = .ok (.bipush 15, 2) := by decide +kernel
theorem d_LW_law_58 : decode b_LW_law 58 = .ok (.iand, 1) := by decide +kernel
theorem d_LW_law_59 : decode b_LW_law 59 = .ok (.tableswitch 762 0 11 #[61, 105, 173, 253, 309, 365, 421, 477, 545, 613, 681, 737], 61) := by decide +kernel
theorem d_LW_law_120 : decode b_LW_law 120 = .ok (.aload_n 1, 1) := by decide +kernel
theorem d_LW_law_121 : decode b_LW_law 121 = .ok (.aload_n 3, 1) := by decide +kernel
theorem d_LW_law_122 : decode b_LW_law 122 = .ok (.invokestatic 66, 3) := by decide +kernel
theorem d_LW_law_125 : decode b_LW_law 125 = .ok (.istore 5, 2) := by decide +kernel
theorem d_LW_law_127 : decode b_LW_law 127 = .ok (.aload_n 2, 1) := by decide +kernel
theorem d_LW_law_128 : decode b_LW_law 128 = .ok (.invokevirtual 69, 3) := by decide +kernel
theorem d_LW_law_131 : decode b_LW_law 131 = .ok (.istore 6, 2) := by decide +kernel
theorem d_LW_law_133 : decode b_LW_law 133 = .ok (.aload_n 2, 1) := by decide +kernel
theorem d_LW_law_134 : decode b_LW_law 134 = .ok (.invokevirtual 70, 3) := by decide +kernel
theorem d_LW_law_137 : decode b_LW_law 137 = .ok (.iload 5, 2) := by decide +kernel
theorem d_LW_law_139 : decode b_LW_law 139 = .ok (.if_icmp .eq 5, 3) := by decide +kernel
theorem d_LW_law_144 : decode b_LW_law 144 = .ok (.iload 5, 2) := by decide +kernel
theorem d_LW_law_146 : decode b_LW_law 146 = .ok (.ifCond .ne 15, 3) := by decide +kernel
theorem d_LW_law_149 : decode b_LW_law 149 = .ok (.aload_n 3, 1) := by decide +kernel
theorem d_LW_law_150 : decode b_LW_law 150 = .ok (.iconst 0, 1) := by decide +kernel
theorem d_LW_law_151 : decode b_LW_law 151 = .ok (.laload, 1) := by decide +kernel
theorem d_LW_law_152 : decode b_LW_law 152 = .ok (.iload 6, 2) := by decide +kernel
theorem d_LW_law_154 : decode b_LW_law 154 = .ok (.i2l, 1) := by decide +kernel
theorem d_LW_law_155 : decode b_LW_law 155 = .ok (.lcmp, 1) := by decide +kernel
theorem d_LW_law_156 : decode b_LW_law 156 = .ok (.ifCond .eq 5, 3) := by decide +kernel
theorem d_LW_law_161 : decode b_LW_law 161 = .ok (.goto 660, 3) := by decide +kernel
theorem d_LW_law_164 : decode b_LW_law 164 = .ok (.aload_n 1, 1) := by decide +kernel
theorem d_LW_law_165 : decode b_LW_law 165 = .ok (.aload_n 0, 1) := by decide +kernel
theorem d_LW_law_166 : decode b_LW_law 166 = .ok (.iload 4, 2) := by decide +kernel
theorem d_LW_law_168 : decode b_LW_law 168 = .ok (.iconst 1, 1) := by decide +kernel
theorem d_LW_law_169 : decode b_LW_law 169 = .ok (.iadd, 1) := by decide +kernel
theorem d_LW_law_170 : decode b_LW_law 170 = .ok (.iaload, 1) := by decide +kernel
theorem d_LW_law_171 : decode b_LW_law 171 = .ok (.aload_n 0, 1) := by decide +kernel
theorem d_LW_law_172 : decode b_LW_law 172 = .ok (.iload 4, 2) := by decide +kernel
theorem d_LW_law_174 : decode b_LW_law 174 = .ok (.iconst 2, 1) := by decide +kernel
theorem d_LW_law_175 : decode b_LW_law 175 = .ok (.iadd, 1) := by decide +kernel
theorem d_LW_law_176 : decode b_LW_law 176 = .ok (.iaload, 1) := by decide +kernel
theorem d_LW_law_177 : decode b_LW_law 177 = .ok (.aload_n 3, 1) := by decide +kernel
theorem d_LW_law_178 : decode b_LW_law 178 = .ok (.invokestatic 73, 3) := by decide +kernel
theorem d_LW_law_181 : decode b_LW_law 181 = .ok (.istore 5, 2) := by decide +kernel
theorem d_LW_law_183 : decode b_LW_law 183 = .ok (.aload_n 2, 1) := by decide +kernel
theorem d_LW_law_184 : decode b_LW_law 184 = .ok (.aload_n 0, 1) := by decide +kernel
theorem d_LW_law_185 : decode b_LW_law 185 = .ok (.iload 4, 2) := by decide +kernel
theorem d_LW_law_187 : decode b_LW_law 187 = .ok (.iconst 1, 1) := by decide +kernel
theorem d_LW_law_188 : decode b_LW_law 188 = .ok (.iadd, 1) := by decide +kernel
theorem d_LW_law_189 : decode b_LW_law 189 = .ok (.iaload, 1) := by decide +kernel
theorem d_LW_law_190 : decode b_LW_law 190 = .ok (.aload_n 0, 1) := by decide +kernel
theorem d_LW_law_191 : decode b_LW_law 191 = .ok (.iload 4, 2) := by decide +kernel
theorem d_LW_law_193 : decode b_LW_law 193 = .ok (.iconst 2, 1) := by decide +kernel
theorem d_LW_law_194 : decode b_LW_law 194 = .ok (.iadd, 1) := by decide +kernel
theorem d_LW_law_195 : decode b_LW_law 195 = .ok (.iaload, 1) := by decide +kernel
theorem d_LW_law_196 : decode b_LW_law 196 = .ok (.invokevirtual 76, 3) := by decide +kernel
theorem d_LW_law_199 : decode b_LW_law 199 = .ok (.istore 6, 2) := by decide +kernel
theorem d_LW_law_201 : decode b_LW_law 201 = .ok (.aload_n 2, 1) := by decide +kernel
theorem d_LW_law_202 : decode b_LW_law 202 = .ok (.invokevirtual 70, 3) := by decide +kernel
theorem d_LW_law_205 : decode b_LW_law 205 = .ok (.iload 5, 2) := by decide +kernel
theorem d_LW_law_207 : decode b_LW_law 207 = .ok (.if_icmp .eq 5, 3) := by decide +kernel
theorem d_LW_law_212 : decode b_LW_law 212 = .ok (.iload 5, 2) := by decide +kernel
theorem d_LW_law_214 : decode b_LW_law 214 = .ok (.ifCond .ne 15, 3) := by decide +kernel
theorem d_LW_law_229 : decode b_LW_law 229 = .ok (.goto 592, 3) := by decide +kernel
theorem d_LW_law_232 : decode b_LW_law 232 = .ok (.aload_n 1, 1) := by decide +kernel
theorem d_LW_law_233 : decode b_LW_law 233 = .ok (.aload_n 0, 1) := by decide +kernel
theorem d_LW_law_234 : decode b_LW_law 234 = .ok (.iload 4, 2) := by decide +kernel
theorem d_LW_law_236 : decode b_LW_law 236 = .ok (.iconst 1, 1) := by decide +kernel
theorem d_LW_law_237 : decode b_LW_law 237 = .ok (.iadd, 1) := by decide +kernel
theorem d_LW_law_238 : decode b_LW_law 238 = .ok (.iaload, 1) := by decide +kernel
theorem d_LW_law_239 : decode b_LW_law 239 = .ok (.aload_n 0, 1) := by decide +kernel
theorem d_LW_law_240 : decode b_LW_law 240 = .ok (.iload 4, 2) := by decide +kernel
theorem d_LW_law_242 : decode b_LW_law 242 = .ok (.iconst 2, 1) := by decide +kernel
theorem d_LW_law_243 : decode b_LW_law 243 = .ok (.iadd, 1) := by decide +kernel
theorem d_LW_law_244 : decode b_LW_law 244 = .ok (.iaload, 1) := by decide +kernel
theorem d_LW_law_245 : decode b_LW_law 245 = .ok (.aload_n 0, 1) := by decide +kernel
theorem d_LW_law_246 : decode b_LW_law 246 = .ok (.iload 4, 2) := by decide +kernel
theorem d_LW_law_248 : decode b_LW_law 248 = .ok (.iconst 3, 1) := by decide +kernel
theorem d_LW_law_249 : decode b_LW_law 249 = .ok (.iadd, 1) := by decide +kernel
theorem d_LW_law_250 : decode b_LW_law 250 = .ok (.iaload, 1) := by decide +kernel
theorem d_LW_law_251 : decode b_LW_law 251 = .ok (.aload_n 3, 1) := by decide +kernel
theorem d_LW_law_252 : decode b_LW_law 252 = .ok (.invokestatic 77, 3) := by decide +kernel
theorem d_LW_law_255 : decode b_LW_law 255 = .ok (.istore 5, 2) := by decide +kernel
theorem d_LW_law_257 : decode b_LW_law 257 = .ok (.aload_n 2, 1) := by decide +kernel
theorem d_LW_law_258 : decode b_LW_law 258 = .ok (.aload_n 0, 1) := by decide +kernel
theorem d_LW_law_259 : decode b_LW_law 259 = .ok (.iload 4, 2) := by decide +kernel
theorem d_LW_law_261 : decode b_LW_law 261 = .ok (.iconst 1, 1) := by decide +kernel
theorem d_LW_law_262 : decode b_LW_law 262 = .ok (.iadd, 1) := by decide +kernel
theorem d_LW_law_263 : decode b_LW_law 263 = .ok (.iaload, 1) := by decide +kernel
theorem d_LW_law_264 : decode b_LW_law 264 = .ok (.aload_n 0, 1) := by decide +kernel
theorem d_LW_law_265 : decode b_LW_law 265 = .ok (.iload 4, 2) := by decide +kernel
theorem d_LW_law_267 : decode b_LW_law 267 = .ok (.iconst 2, 1) := by decide +kernel
theorem d_LW_law_268 : decode b_LW_law 268 = .ok (.iadd, 1) := by decide +kernel
theorem d_LW_law_269 : decode b_LW_law 269 = .ok (.iaload, 1) := by decide +kernel
theorem d_LW_law_270 : decode b_LW_law 270 = .ok (.aload_n 0, 1) := by decide +kernel
theorem d_LW_law_271 : decode b_LW_law 271 = .ok (.iload 4, 2) := by decide +kernel
theorem d_LW_law_273 : decode b_LW_law 273 = .ok (.iconst 3, 1) := by decide +kernel
theorem d_LW_law_274 : decode b_LW_law 274 = .ok (.iadd, 1) := by decide +kernel
theorem d_LW_law_275 : decode b_LW_law 275 = .ok (.iaload, 1) := by decide +kernel
theorem d_LW_law_276 : decode b_LW_law 276 = .ok (.invokevirtual 80, 3) := by decide +kernel
theorem d_LW_law_279 : decode b_LW_law 279 = .ok (.istore 6, 2) := by decide +kernel
theorem d_LW_law_281 : decode b_LW_law 281 = .ok (.aload_n 2, 1) := by decide +kernel
theorem d_LW_law_282 : decode b_LW_law 282 = .ok (.invokevirtual 70, 3) := by decide +kernel
theorem d_LW_law_285 : decode b_LW_law 285 = .ok (.iload 5, 2) := by decide +kernel
theorem d_LW_law_287 : decode b_LW_law 287 = .ok (.if_icmp .eq 5, 3) := by decide +kernel
theorem d_LW_law_292 : decode b_LW_law 292 = .ok (.iload 5, 2) := by decide +kernel
theorem d_LW_law_294 : decode b_LW_law 294 = .ok (.ifCond .ne 15, 3) := by decide +kernel
theorem d_LW_law_297 : decode b_LW_law 297 = .ok (.aload_n 3, 1) := by decide +kernel
theorem d_LW_law_298 : decode b_LW_law 298 = .ok (.iconst 0, 1) := by decide +kernel
theorem d_LW_law_299 : decode b_LW_law 299 = .ok (.laload, 1) := by decide +kernel
theorem d_LW_law_300 : decode b_LW_law 300 = .ok (.iload 6, 2) := by decide +kernel
theorem d_LW_law_302 : decode b_LW_law 302 = .ok (.i2l, 1) := by decide +kernel
theorem d_LW_law_303 : decode b_LW_law 303 = .ok (.lcmp, 1) := by decide +kernel
theorem d_LW_law_304 : decode b_LW_law 304 = .ok (.ifCond .eq 5, 3) := by decide +kernel
theorem d_LW_law_309 : decode b_LW_law 309 = .ok (.goto 512, 3) := by decide +kernel
theorem d_LW_law_312 : decode b_LW_law 312 = .ok (.aload_n 1, 1) := by decide +kernel
theorem d_LW_law_313 : decode b_LW_law 313 = .ok (.aload_n 0, 1) := by decide +kernel
theorem d_LW_law_314 : decode b_LW_law 314 = .ok (.iload 4, 2) := by decide +kernel
theorem d_LW_law_316 : decode b_LW_law 316 = .ok (.iconst 1, 1) := by decide +kernel
theorem d_LW_law_317 : decode b_LW_law 317 = .ok (.iadd, 1) := by decide +kernel
theorem d_LW_law_318 : decode b_LW_law 318 = .ok (.iaload, 1) := by decide +kernel
theorem d_LW_law_319 : decode b_LW_law 319 = .ok (.aload_n 3, 1) := by decide +kernel
theorem d_LW_law_320 : decode b_LW_law 320 = .ok (.invokestatic 81, 3) := by decide +kernel
theorem d_LW_law_323 : decode b_LW_law 323 = .ok (.istore 5, 2) := by decide +kernel
theorem d_LW_law_325 : decode b_LW_law 325 = .ok (.aload_n 2, 1) := by decide +kernel
theorem d_LW_law_326 : decode b_LW_law 326 = .ok (.aload_n 0, 1) := by decide +kernel
theorem d_LW_law_327 : decode b_LW_law 327 = .ok (.iload 4, 2) := by decide +kernel
theorem d_LW_law_329 : decode b_LW_law 329 = .ok (.iconst 1, 1) := by decide +kernel
theorem d_LW_law_330 : decode b_LW_law 330 = .ok (.iadd, 1) := by decide +kernel
theorem d_LW_law_331 : decode b_LW_law 331 = .ok (.iaload, 1) := by decide +kernel
theorem d_LW_law_332 : decode b_LW_law 332 = .ok (.invokevirtual 84, 3) := by decide +kernel
theorem d_LW_law_335 : decode b_LW_law 335 = .ok (.istore 6, 2) := by decide +kernel
theorem d_LW_law_337 : decode b_LW_law 337 = .ok (.aload_n 2, 1) := by decide +kernel
theorem d_LW_law_338 : decode b_LW_law 338 = .ok (.invokevirtual 70, 3) := by decide +kernel
theorem d_LW_law_341 : decode b_LW_law 341 = .ok (.iload 5, 2) := by decide +kernel
theorem d_LW_law_343 : decode b_LW_law 343 = .ok (.if_icmp .eq 5, 3) := by decide +kernel
theorem d_LW_law_348 : decode b_LW_law 348 = .ok (.iload 5, 2) := by decide +kernel
theorem d_LW_law_350 : decode b_LW_law 350 = .ok (.ifCond .ne 15, 3) := by decide +kernel
theorem d_LW_law_365 : decode b_LW_law 365 = .ok (.goto 456, 3) := by decide +kernel
theorem d_LW_law_368 : decode b_LW_law 368 = .ok (.aload_n 1, 1) := by decide +kernel
theorem d_LW_law_369 : decode b_LW_law 369 = .ok (.aload_n 0, 1) := by decide +kernel
theorem d_LW_law_370 : decode b_LW_law 370 = .ok (.iload 4, 2) := by decide +kernel
theorem d_LW_law_372 : decode b_LW_law 372 = .ok (.iconst 1, 1) := by decide +kernel
theorem d_LW_law_373 : decode b_LW_law 373 = .ok (.iadd, 1) := by decide +kernel
theorem d_LW_law_374 : decode b_LW_law 374 = .ok (.iaload, 1) := by decide +kernel
theorem d_LW_law_375 : decode b_LW_law 375 = .ok (.aload_n 3, 1) := by decide +kernel
theorem d_LW_law_376 : decode b_LW_law 376 = .ok (.invokestatic 85, 3) := by decide +kernel
theorem d_LW_law_379 : decode b_LW_law 379 = .ok (.istore 5, 2) := by decide +kernel
theorem d_LW_law_381 : decode b_LW_law 381 = .ok (.aload_n 2, 1) := by decide +kernel
theorem d_LW_law_382 : decode b_LW_law 382 = .ok (.aload_n 0, 1) := by decide +kernel
theorem d_LW_law_383 : decode b_LW_law 383 = .ok (.iload 4, 2) := by decide +kernel
theorem d_LW_law_385 : decode b_LW_law 385 = .ok (.iconst 1, 1) := by decide +kernel
theorem d_LW_law_386 : decode b_LW_law 386 = .ok (.iadd, 1) := by decide +kernel
theorem d_LW_law_387 : decode b_LW_law 387 = .ok (.iaload, 1) := by decide +kernel
theorem d_LW_law_388 : decode b_LW_law 388 = .ok (.invokevirtual 87, 3) := by decide +kernel
theorem d_LW_law_391 : decode b_LW_law 391 = .ok (.istore 6, 2) := by decide +kernel
theorem d_LW_law_393 : decode b_LW_law 393 = .ok (.aload_n 2, 1) := by decide +kernel
theorem d_LW_law_394 : decode b_LW_law 394 = .ok (.invokevirtual 70, 3) := by decide +kernel
theorem d_LW_law_397 : decode b_LW_law 397 = .ok (.iload 5, 2) := by decide +kernel
theorem d_LW_law_399 : decode b_LW_law 399 = .ok (.if_icmp .eq 5, 3) := by decide +kernel
theorem d_LW_law_404 : decode b_LW_law 404 = .ok (.iload 5, 2) := by decide +kernel
theorem d_LW_law_406 : decode b_LW_law 406 = .ok (.ifCond .ne 15, 3) := by decide +kernel
theorem d_LW_law_421 : decode b_LW_law 421 = .ok (.goto 400, 3) := by decide +kernel
theorem d_LW_law_424 : decode b_LW_law 424 = .ok (.aload_n 1, 1) := by decide +kernel
theorem d_LW_law_425 : decode b_LW_law 425 = .ok (.aload_n 0, 1) := by decide +kernel
theorem d_LW_law_426 : decode b_LW_law 426 = .ok (.iload 4, 2) := by decide +kernel
theorem d_LW_law_428 : decode b_LW_law 428 = .ok (.iconst 1, 1) := by decide +kernel
theorem d_LW_law_429 : decode b_LW_law 429 = .ok (.iadd, 1) := by decide +kernel
theorem d_LW_law_430 : decode b_LW_law 430 = .ok (.iaload, 1) := by decide +kernel
theorem d_LW_law_431 : decode b_LW_law 431 = .ok (.aload_n 3, 1) := by decide +kernel
theorem d_LW_law_432 : decode b_LW_law 432 = .ok (.invokestatic 88, 3) := by decide +kernel
theorem d_LW_law_435 : decode b_LW_law 435 = .ok (.istore 5, 2) := by decide +kernel
theorem d_LW_law_437 : decode b_LW_law 437 = .ok (.aload_n 2, 1) := by decide +kernel
theorem d_LW_law_438 : decode b_LW_law 438 = .ok (.aload_n 0, 1) := by decide +kernel
theorem d_LW_law_439 : decode b_LW_law 439 = .ok (.iload 4, 2) := by decide +kernel
theorem d_LW_law_441 : decode b_LW_law 441 = .ok (.iconst 1, 1) := by decide +kernel
theorem d_LW_law_442 : decode b_LW_law 442 = .ok (.iadd, 1) := by decide +kernel
theorem d_LW_law_443 : decode b_LW_law 443 = .ok (.iaload, 1) := by decide +kernel
theorem d_LW_law_444 : decode b_LW_law 444 = .ok (.invokevirtual 90, 3) := by decide +kernel
theorem d_LW_law_447 : decode b_LW_law 447 = .ok (.istore 6, 2) := by decide +kernel
theorem d_LW_law_449 : decode b_LW_law 449 = .ok (.aload_n 2, 1) := by decide +kernel
theorem d_LW_law_450 : decode b_LW_law 450 = .ok (.invokevirtual 70, 3) := by decide +kernel
theorem d_LW_law_453 : decode b_LW_law 453 = .ok (.iload 5, 2) := by decide +kernel
theorem d_LW_law_455 : decode b_LW_law 455 = .ok (.if_icmp .eq 5, 3) := by decide +kernel
theorem d_LW_law_460 : decode b_LW_law 460 = .ok (.iload 5, 2) := by decide +kernel
theorem d_LW_law_462 : decode b_LW_law 462 = .ok (.ifCond .ne 15, 3) := by decide +kernel
theorem d_LW_law_477 : decode b_LW_law 477 = .ok (.goto 344, 3) := by decide +kernel
theorem d_LW_law_480 : decode b_LW_law 480 = .ok (.aload_n 1, 1) := by decide +kernel
theorem d_LW_law_481 : decode b_LW_law 481 = .ok (.aload_n 0, 1) := by decide +kernel
theorem d_LW_law_482 : decode b_LW_law 482 = .ok (.iload 4, 2) := by decide +kernel
theorem d_LW_law_484 : decode b_LW_law 484 = .ok (.iconst 1, 1) := by decide +kernel
theorem d_LW_law_485 : decode b_LW_law 485 = .ok (.iadd, 1) := by decide +kernel
theorem d_LW_law_486 : decode b_LW_law 486 = .ok (.iaload, 1) := by decide +kernel
theorem d_LW_law_487 : decode b_LW_law 487 = .ok (.aload_n 3, 1) := by decide +kernel
theorem d_LW_law_488 : decode b_LW_law 488 = .ok (.invokestatic 91, 3) := by decide +kernel
theorem d_LW_law_491 : decode b_LW_law 491 = .ok (.istore 5, 2) := by decide +kernel
theorem d_LW_law_493 : decode b_LW_law 493 = .ok (.aload_n 2, 1) := by decide +kernel
theorem d_LW_law_494 : decode b_LW_law 494 = .ok (.aload_n 0, 1) := by decide +kernel
theorem d_LW_law_495 : decode b_LW_law 495 = .ok (.iload 4, 2) := by decide +kernel
theorem d_LW_law_497 : decode b_LW_law 497 = .ok (.iconst 1, 1) := by decide +kernel
theorem d_LW_law_498 : decode b_LW_law 498 = .ok (.iadd, 1) := by decide +kernel
theorem d_LW_law_499 : decode b_LW_law 499 = .ok (.iaload, 1) := by decide +kernel
theorem d_LW_law_500 : decode b_LW_law 500 = .ok (.invokevirtual 93, 3) := by decide +kernel
theorem d_LW_law_503 : decode b_LW_law 503 = .ok (.istore 6, 2) := by decide +kernel
theorem d_LW_law_505 : decode b_LW_law 505 = .ok (.aload_n 2, 1) := by decide +kernel
theorem d_LW_law_506 : decode b_LW_law 506 = .ok (.invokevirtual 70, 3) := by decide +kernel
theorem d_LW_law_509 : decode b_LW_law 509 = .ok (.iload 5, 2) := by decide +kernel
theorem d_LW_law_511 : decode b_LW_law 511 = .ok (.if_icmp .eq 5, 3) := by decide +kernel
theorem d_LW_law_516 : decode b_LW_law 516 = .ok (.iload 5, 2) := by decide +kernel
theorem d_LW_law_518 : decode b_LW_law 518 = .ok (.ifCond .ne 15, 3) := by decide +kernel
theorem d_LW_law_533 : decode b_LW_law 533 = .ok (.goto 288, 3) := by decide +kernel
theorem d_LW_law_536 : decode b_LW_law 536 = .ok (.aload_n 1, 1) := by decide +kernel
theorem d_LW_law_537 : decode b_LW_law 537 = .ok (.aload_n 0, 1) := by decide +kernel
theorem d_LW_law_538 : decode b_LW_law 538 = .ok (.iload 4, 2) := by decide +kernel
theorem d_LW_law_540 : decode b_LW_law 540 = .ok (.iconst 1, 1) := by decide +kernel
theorem d_LW_law_541 : decode b_LW_law 541 = .ok (.iadd, 1) := by decide +kernel
theorem d_LW_law_542 : decode b_LW_law 542 = .ok (.iaload, 1) := by decide +kernel
theorem d_LW_law_543 : decode b_LW_law 543 = .ok (.aload_n 0, 1) := by decide +kernel
theorem d_LW_law_544 : decode b_LW_law 544 = .ok (.iload 4, 2) := by decide +kernel
theorem d_LW_law_546 : decode b_LW_law 546 = .ok (.iconst 2, 1) := by decide +kernel
theorem d_LW_law_547 : decode b_LW_law 547 = .ok (.iadd, 1) := by decide +kernel
theorem d_LW_law_548 : decode b_LW_law 548 = .ok (.iaload, 1) := by decide +kernel
theorem d_LW_law_549 : decode b_LW_law 549 = .ok (.aload_n 3, 1) := by decide +kernel
theorem d_LW_law_550 : decode b_LW_law 550 = .ok (.invokestatic 94, 3) := by decide +kernel
theorem d_LW_law_553 : decode b_LW_law 553 = .ok (.istore 5, 2) := by decide +kernel
theorem d_LW_law_555 : decode b_LW_law 555 = .ok (.aload_n 2, 1) := by decide +kernel
theorem d_LW_law_556 : decode b_LW_law 556 = .ok (.aload_n 0, 1) := by decide +kernel
theorem d_LW_law_557 : decode b_LW_law 557 = .ok (.iload 4, 2) := by decide +kernel
theorem d_LW_law_559 : decode b_LW_law 559 = .ok (.iconst 1, 1) := by decide +kernel
theorem d_LW_law_560 : decode b_LW_law 560 = .ok (.iadd, 1) := by decide +kernel
theorem d_LW_law_561 : decode b_LW_law 561 = .ok (.iaload, 1) := by decide +kernel
theorem d_LW_law_562 : decode b_LW_law 562 = .ok (.aload_n 0, 1) := by decide +kernel
theorem d_LW_law_563 : decode b_LW_law 563 = .ok (.iload 4, 2) := by decide +kernel
theorem d_LW_law_565 : decode b_LW_law 565 = .ok (.iconst 2, 1) := by decide +kernel
theorem d_LW_law_566 : decode b_LW_law 566 = .ok (.iadd, 1) := by decide +kernel
theorem d_LW_law_567 : decode b_LW_law 567 = .ok (.iaload, 1) := by decide +kernel
theorem d_LW_law_568 : decode b_LW_law 568 = .ok (.invokevirtual 96, 3) := by decide +kernel
theorem d_LW_law_571 : decode b_LW_law 571 = .ok (.istore 6, 2) := by decide +kernel
theorem d_LW_law_573 : decode b_LW_law 573 = .ok (.aload_n 2, 1) := by decide +kernel
theorem d_LW_law_574 : decode b_LW_law 574 = .ok (.invokevirtual 70, 3) := by decide +kernel
theorem d_LW_law_577 : decode b_LW_law 577 = .ok (.iload 5, 2) := by decide +kernel
theorem d_LW_law_579 : decode b_LW_law 579 = .ok (.if_icmp .eq 5, 3) := by decide +kernel
theorem d_LW_law_584 : decode b_LW_law 584 = .ok (.iload 5, 2) := by decide +kernel
theorem d_LW_law_586 : decode b_LW_law 586 = .ok (.ifCond .ne 15, 3) := by decide +kernel
theorem d_LW_law_601 : decode b_LW_law 601 = .ok (.goto 220, 3) := by decide +kernel
theorem d_LW_law_604 : decode b_LW_law 604 = .ok (.aload_n 1, 1) := by decide +kernel
theorem d_LW_law_605 : decode b_LW_law 605 = .ok (.aload_n 0, 1) := by decide +kernel
theorem d_LW_law_606 : decode b_LW_law 606 = .ok (.iload 4, 2) := by decide +kernel
theorem d_LW_law_608 : decode b_LW_law 608 = .ok (.iconst 1, 1) := by decide +kernel
theorem d_LW_law_609 : decode b_LW_law 609 = .ok (.iadd, 1) := by decide +kernel
theorem d_LW_law_610 : decode b_LW_law 610 = .ok (.iaload, 1) := by decide +kernel
theorem d_LW_law_611 : decode b_LW_law 611 = .ok (.aload_n 0, 1) := by decide +kernel
theorem d_LW_law_612 : decode b_LW_law 612 = .ok (.iload 4, 2) := by decide +kernel
theorem d_LW_law_614 : decode b_LW_law 614 = .ok (.iconst 2, 1) := by decide +kernel
theorem d_LW_law_615 : decode b_LW_law 615 = .ok (.iadd, 1) := by decide +kernel
theorem d_LW_law_616 : decode b_LW_law 616 = .ok (.iaload, 1) := by decide +kernel
theorem d_LW_law_617 : decode b_LW_law 617 = .ok (.aload_n 3, 1) := by decide +kernel
theorem d_LW_law_618 : decode b_LW_law 618 = .ok (.invokestatic 97, 3) := by decide +kernel
theorem d_LW_law_621 : decode b_LW_law 621 = .ok (.istore 5, 2) := by decide +kernel
theorem d_LW_law_623 : decode b_LW_law 623 = .ok (.aload_n 2, 1) := by decide +kernel
theorem d_LW_law_624 : decode b_LW_law 624 = .ok (.aload_n 0, 1) := by decide +kernel
theorem d_LW_law_625 : decode b_LW_law 625 = .ok (.iload 4, 2) := by decide +kernel
theorem d_LW_law_627 : decode b_LW_law 627 = .ok (.iconst 1, 1) := by decide +kernel
theorem d_LW_law_628 : decode b_LW_law 628 = .ok (.iadd, 1) := by decide +kernel
theorem d_LW_law_629 : decode b_LW_law 629 = .ok (.iaload, 1) := by decide +kernel
theorem d_LW_law_630 : decode b_LW_law 630 = .ok (.aload_n 0, 1) := by decide +kernel
theorem d_LW_law_631 : decode b_LW_law 631 = .ok (.iload 4, 2) := by decide +kernel
theorem d_LW_law_633 : decode b_LW_law 633 = .ok (.iconst 2, 1) := by decide +kernel
theorem d_LW_law_634 : decode b_LW_law 634 = .ok (.iadd, 1) := by decide +kernel
theorem d_LW_law_635 : decode b_LW_law 635 = .ok (.iaload, 1) := by decide +kernel
theorem d_LW_law_636 : decode b_LW_law 636 = .ok (.invokevirtual 99, 3) := by decide +kernel
theorem d_LW_law_639 : decode b_LW_law 639 = .ok (.istore 6, 2) := by decide +kernel
theorem d_LW_law_641 : decode b_LW_law 641 = .ok (.aload_n 2, 1) := by decide +kernel
theorem d_LW_law_642 : decode b_LW_law 642 = .ok (.invokevirtual 70, 3) := by decide +kernel
theorem d_LW_law_645 : decode b_LW_law 645 = .ok (.iload 5, 2) := by decide +kernel
theorem d_LW_law_647 : decode b_LW_law 647 = .ok (.if_icmp .eq 5, 3) := by decide +kernel
theorem d_LW_law_652 : decode b_LW_law 652 = .ok (.iload 5, 2) := by decide +kernel
theorem d_LW_law_654 : decode b_LW_law 654 = .ok (.ifCond .ne 15, 3) := by decide +kernel
theorem d_LW_law_657 : decode b_LW_law 657 = .ok (.aload_n 3, 1) := by decide +kernel
theorem d_LW_law_658 : decode b_LW_law 658 = .ok (.iconst 0, 1) := by decide +kernel
theorem d_LW_law_659 : decode b_LW_law 659 = .ok (.laload, 1) := by decide +kernel
theorem d_LW_law_660 : decode b_LW_law 660 = .ok (.iload 6, 2) := by decide +kernel
theorem d_LW_law_662 : decode b_LW_law 662 = .ok (.i2l, 1) := by decide +kernel
theorem d_LW_law_663 : decode b_LW_law 663 = .ok (.lcmp, 1) := by decide +kernel
theorem d_LW_law_664 : decode b_LW_law 664 = .ok (.ifCond .eq 5, 3) := by decide +kernel
theorem d_LW_law_669 : decode b_LW_law 669 = .ok (.goto 152, 3) := by decide +kernel
theorem d_LW_law_672 : decode b_LW_law 672 = .ok (.aload_n 1, 1) := by decide +kernel
theorem d_LW_law_673 : decode b_LW_law 673 = .ok (.aload_n 0, 1) := by decide +kernel
theorem d_LW_law_674 : decode b_LW_law 674 = .ok (.iload 4, 2) := by decide +kernel
theorem d_LW_law_676 : decode b_LW_law 676 = .ok (.iconst 1, 1) := by decide +kernel
theorem d_LW_law_677 : decode b_LW_law 677 = .ok (.iadd, 1) := by decide +kernel
theorem d_LW_law_678 : decode b_LW_law 678 = .ok (.iaload, 1) := by decide +kernel
theorem d_LW_law_679 : decode b_LW_law 679 = .ok (.aload_n 0, 1) := by decide +kernel
theorem d_LW_law_680 : decode b_LW_law 680 = .ok (.iload 4, 2) := by decide +kernel
theorem d_LW_law_682 : decode b_LW_law 682 = .ok (.iconst 2, 1) := by decide +kernel
theorem d_LW_law_683 : decode b_LW_law 683 = .ok (.iadd, 1) := by decide +kernel
theorem d_LW_law_684 : decode b_LW_law 684 = .ok (.iaload, 1) := by decide +kernel
theorem d_LW_law_685 : decode b_LW_law 685 = .ok (.aload_n 3, 1) := by decide +kernel
theorem d_LW_law_686 : decode b_LW_law 686 = .ok (.invokestatic 100, 3) := by decide +kernel
theorem d_LW_law_689 : decode b_LW_law 689 = .ok (.istore 5, 2) := by decide +kernel
theorem d_LW_law_691 : decode b_LW_law 691 = .ok (.aload_n 2, 1) := by decide +kernel
theorem d_LW_law_692 : decode b_LW_law 692 = .ok (.aload_n 0, 1) := by decide +kernel
theorem d_LW_law_693 : decode b_LW_law 693 = .ok (.iload 4, 2) := by decide +kernel
theorem d_LW_law_695 : decode b_LW_law 695 = .ok (.iconst 1, 1) := by decide +kernel
theorem d_LW_law_696 : decode b_LW_law 696 = .ok (.iadd, 1) := by decide +kernel
theorem d_LW_law_697 : decode b_LW_law 697 = .ok (.iaload, 1) := by decide +kernel
theorem d_LW_law_698 : decode b_LW_law 698 = .ok (.aload_n 0, 1) := by decide +kernel
theorem d_LW_law_699 : decode b_LW_law 699 = .ok (.iload 4, 2) := by decide +kernel
theorem d_LW_law_701 : decode b_LW_law 701 = .ok (.iconst 2, 1) := by decide +kernel
theorem d_LW_law_702 : decode b_LW_law 702 = .ok (.iadd, 1) := by decide +kernel
theorem d_LW_law_703 : decode b_LW_law 703 = .ok (.iaload, 1) := by decide +kernel
theorem d_LW_law_704 : decode b_LW_law 704 = .ok (.invokevirtual 102, 3) := by decide +kernel
theorem d_LW_law_707 : decode b_LW_law 707 = .ok (.istore 6, 2) := by decide +kernel
theorem d_LW_law_709 : decode b_LW_law 709 = .ok (.aload_n 2, 1) := by decide +kernel
theorem d_LW_law_710 : decode b_LW_law 710 = .ok (.invokevirtual 70, 3) := by decide +kernel
theorem d_LW_law_713 : decode b_LW_law 713 = .ok (.iload 5, 2) := by decide +kernel
theorem d_LW_law_715 : decode b_LW_law 715 = .ok (.if_icmp .eq 5, 3) := by decide +kernel
theorem d_LW_law_720 : decode b_LW_law 720 = .ok (.iload 5, 2) := by decide +kernel
theorem d_LW_law_722 : decode b_LW_law 722 = .ok (.ifCond .ne 15, 3) := by decide +kernel
theorem d_LW_law_737 : decode b_LW_law 737 = .ok (.goto 84, 3) := by decide +kernel
theorem d_LW_law_740 : decode b_LW_law 740 = .ok (.aload_n 1, 1) := by decide +kernel
theorem d_LW_law_741 : decode b_LW_law 741 = .ok (.aload_n 0, 1) := by decide +kernel
theorem d_LW_law_742 : decode b_LW_law 742 = .ok (.iload 4, 2) := by decide +kernel
theorem d_LW_law_744 : decode b_LW_law 744 = .ok (.iconst 1, 1) := by decide +kernel
theorem d_LW_law_745 : decode b_LW_law 745 = .ok (.iadd, 1) := by decide +kernel
theorem d_LW_law_746 : decode b_LW_law 746 = .ok (.iaload, 1) := by decide +kernel
theorem d_LW_law_747 : decode b_LW_law 747 = .ok (.aload_n 3, 1) := by decide +kernel
theorem d_LW_law_748 : decode b_LW_law 748 = .ok (.invokestatic 103, 3) := by decide +kernel
theorem d_LW_law_751 : decode b_LW_law 751 = .ok (.istore 5, 2) := by decide +kernel
theorem d_LW_law_753 : decode b_LW_law 753 = .ok (.aload_n 2, 1) := by decide +kernel
theorem d_LW_law_754 : decode b_LW_law 754 = .ok (.aload_n 0, 1) := by decide +kernel
theorem d_LW_law_755 : decode b_LW_law 755 = .ok (.iload 4, 2) := by decide +kernel
theorem d_LW_law_757 : decode b_LW_law 757 = .ok (.iconst 1, 1) := by decide +kernel
theorem d_LW_law_758 : decode b_LW_law 758 = .ok (.iadd, 1) := by decide +kernel
theorem d_LW_law_759 : decode b_LW_law 759 = .ok (.iaload, 1) := by decide +kernel
theorem d_LW_law_760 : decode b_LW_law 760 = .ok (.invokevirtual 105, 3) := by decide +kernel
theorem d_LW_law_763 : decode b_LW_law 763 = .ok (.istore 6, 2) := by decide +kernel
theorem d_LW_law_765 : decode b_LW_law 765 = .ok (.aload_n 2, 1) := by decide +kernel
theorem d_LW_law_766 : decode b_LW_law 766 = .ok (.invokevirtual 70, 3) := by decide +kernel
theorem d_LW_law_769 : decode b_LW_law 769 = .ok (.iload 5, 2) := by decide +kernel
theorem d_LW_law_771 : decode b_LW_law 771 = .ok (.if_icmp .eq 5, 3) := by decide +kernel
theorem d_LW_law_776 : decode b_LW_law 776 = .ok (.iload 5, 2) := by decide +kernel
theorem d_LW_law_778 : decode b_LW_law 778 = .ok (.ifCond .ne 15, 3) := by decide +kernel
theorem d_LW_law_793 : decode b_LW_law 793 = .ok (.goto 28, 3) := by decide +kernel
theorem d_LW_law_796 : decode b_LW_law 796 = .ok (.aload_n 1, 1) := by decide +kernel
theorem d_LW_law_797 : decode b_LW_law 797 = .ok (.aload_n 0, 1) := by decide +kernel
theorem d_LW_law_798 : decode b_LW_law 798 = .ok (.iload 4, 2) := by decide +kernel
theorem d_LW_law_800 : decode b_LW_law 800 = .ok (.iconst 1, 1) := by decide +kernel
theorem d_LW_law_801 : decode b_LW_law 801 = .ok (.iadd, 1) := by decide +kernel
theorem d_LW_law_802 : decode b_LW_law 802 = .ok (.iaload, 1) := by decide +kernel
theorem d_LW_law_803 : decode b_LW_law 803 = .ok (.invokevirtual 106, 3) := by decide +kernel
theorem d_LW_law_806 : decode b_LW_law 806 = .ok (.aload_n 2, 1) := by decide +kernel
theorem d_LW_law_807 : decode b_LW_law 807 = .ok (.aload_n 0, 1) := by decide +kernel
theorem d_LW_law_808 : decode b_LW_law 808 = .ok (.iload 4, 2) := by decide +kernel
theorem d_LW_law_810 : decode b_LW_law 810 = .ok (.iconst 1, 1) := by decide +kernel
theorem d_LW_law_811 : decode b_LW_law 811 = .ok (.iadd, 1) := by decide +kernel
theorem d_LW_law_812 : decode b_LW_law 812 = .ok (.iaload, 1) := by decide +kernel
theorem d_LW_law_813 : decode b_LW_law 813 = .ok (.invokevirtual 109, 3) := by decide +kernel
theorem d_LW_law_816 : decode b_LW_law 816 = .ok (.if_icmp .eq 5, 3) := by decide +kernel
theorem d_LW_law_819 : decode b_LW_law 819 = .ok (.iconst 0, 1) := by decide +kernel
theorem d_LW_law_820 : decode b_LW_law 820 = .ok (.ireturn, 1) := by decide +kernel
theorem d_LW_law_821 : decode b_LW_law 821 = .ok (.iinc 4 4, 3) := by decide +kernel
theorem d_LW_law_824 : decode b_LW_law 824 = .ok (.goto (-781), 3) := by decide +kernel
theorem d_LW_law_827 : decode b_LW_law 827 = .ok (.iconst 1, 1) := by decide +kernel
theorem d_LW_law_828 : decode b_LW_law 828 = .ok (.ireturn, 1) := by decide +kernel
abbrev b_LW_cell : ByteArray := method_2_code
def y_LW_cell : MethodName := ⟨"ExploreSharesLaw", "cell", "([II)I"⟩
def w_LW_cell : List Cond := .code y_LW_cell b_LW_cell 2 (some .int) :: xU
theorem d_LW_cell_0 : decode b_LW_cell 0 = .ok (.iload_n 1, 1) := by decide +kernel
theorem d_LW_cell_1 : decode b_LW_cell 1 = .ok (.aload_n 0, 1) := by decide +kernel
theorem d_LW_cell_2 : decode b_LW_cell 2 = .ok (.arraylength, 1) := by decide +kernel
theorem d_LW_cell_3 : decode b_LW_cell 3 = .ok (.if_icmp .ge 9, 3) := by decide +kernel
theorem d_LW_cell_6 : decode b_LW_cell 6 = .ok (.aload_n 0, 1) := by decide +kernel
theorem d_LW_cell_7 : decode b_LW_cell 7 = .ok (.iload_n 1, 1) := by decide +kernel
theorem d_LW_cell_8 : decode b_LW_cell 8 = .ok (.iaload, 1) := by decide +kernel
theorem d_LW_cell_9 : decode b_LW_cell 9 = .ok (.goto 4, 3) := by decide +kernel
theorem d_LW_cell_12 : decode b_LW_cell 12 = .ok (.iconst 0, 1) := by decide +kernel
theorem d_LW_cell_13 : decode b_LW_cell 13 = .ok (.ireturn, 1) := by decide +kernel
