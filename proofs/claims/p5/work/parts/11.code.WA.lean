abbrev b_WA_init : ByteArray := prog_10_method_1_code
def y_WA_init : MethodName := ⟨"ExploreShares$Ways", "<init>", "()V"⟩
def w_WA_init : List Cond := .code y_WA_init b_WA_init 1 (none) :: xU
theorem d_WA_init_0 : decode b_WA_init 0 = .ok (.aload_n 0, 1) := by decide +kernel
theorem d_WA_init_1 : decode b_WA_init 1 = .ok (.invokespecial 3, 3) := by decide +kernel
theorem d_WA_init_4 : decode b_WA_init 4 = .ok (.aload_n 0, 1) := by decide +kernel
theorem d_WA_init_5 : decode b_WA_init 5 = .ok (.sipush 200, 3) := by decide +kernel
theorem d_WA_init_8 : decode b_WA_init 8 = .ok (.newarray .boolean, 2) := by decide +kernel
theorem d_WA_init_10 : decode b_WA_init 10 = .ok (.putfield 9, 3) := by decide +kernel
theorem d_WA_init_13 : decode b_WA_init 13 = .ok (.return_, 1) := by decide +kernel
abbrev b_WA_lowestBehind : ByteArray := prog_10_method_4_code
def y_WA_lowestBehind : MethodName := ⟨"ExploreShares$Ways", "lowestBehind", "(LExploreShares$Net;LExploreShares$Levels;I)I"⟩
def w_WA_lowestBehind : List Cond := .code y_WA_lowestBehind b_WA_lowestBehind 8 (some .int) :: xU
theorem d_WA_lowestBehind_0 : decode b_WA_lowestBehind 0 = .ok (.iconst (-1), 1) := by decide +kernel
theorem d_WA_lowestBehind_1 : decode b_WA_lowestBehind 1 = .ok (.istore 4, 2) := by decide +kernel
theorem d_WA_lowestBehind_3 : decode b_WA_lowestBehind 3 = .ok (.aload_n 1, 1) := by decide +kernel
theorem d_WA_lowestBehind_4 : decode b_WA_lowestBehind 4 = .ok (.getfield 39, 3) := by decide +kernel
theorem d_WA_lowestBehind_7 : decode b_WA_lowestBehind 7 = .ok (.iload_n 3, 1) := by decide +kernel
theorem d_WA_lowestBehind_8 : decode b_WA_lowestBehind 8 = .ok (.iaload, 1) := by decide +kernel
theorem d_WA_lowestBehind_9 : decode b_WA_lowestBehind 9 = .ok (.istore 5, 2) := by decide +kernel
theorem d_WA_lowestBehind_11 : decode b_WA_lowestBehind 11 = .ok (.iload 5, 2) := by decide +kernel
theorem d_WA_lowestBehind_13 : decode b_WA_lowestBehind 13 = .ok (.aload_n 1, 1) := by decide +kernel
theorem d_WA_lowestBehind_14 : decode b_WA_lowestBehind 14 = .ok (.getfield 39, 3) := by decide +kernel
theorem d_WA_lowestBehind_17 : decode b_WA_lowestBehind 17 = .ok (.iload_n 3, 1) := by decide +kernel
theorem d_WA_lowestBehind_18 : decode b_WA_lowestBehind 18 = .ok (.iconst 1, 1) := by decide +kernel
theorem d_WA_lowestBehind_19 : decode b_WA_lowestBehind 19 = .ok (.iadd, 1) := by decide +kernel
theorem d_WA_lowestBehind_20 : decode b_WA_lowestBehind 20 = .ok (.iaload, 1) := by decide +kernel
theorem d_WA_lowestBehind_21 : decode b_WA_lowestBehind 21 = .ok (.if_icmp .ge 75, 3) := by decide +kernel
theorem d_WA_lowestBehind_24 : decode b_WA_lowestBehind 24 = .ok (.aload_n 1, 1) := by decide +kernel
theorem d_WA_lowestBehind_25 : decode b_WA_lowestBehind 25 = .ok (.getfield 42, 3) := by decide +kernel
theorem d_WA_lowestBehind_28 : decode b_WA_lowestBehind 28 = .ok (.iload 5, 2) := by decide +kernel
theorem d_WA_lowestBehind_30 : decode b_WA_lowestBehind 30 = .ok (.iaload, 1) := by decide +kernel
theorem d_WA_lowestBehind_31 : decode b_WA_lowestBehind 31 = .ok (.istore 6, 2) := by decide +kernel
theorem d_WA_lowestBehind_33 : decode b_WA_lowestBehind 33 = .ok (.aload_n 0, 1) := by decide +kernel
theorem d_WA_lowestBehind_34 : decode b_WA_lowestBehind 34 = .ok (.getfield 9, 3) := by decide +kernel
theorem d_WA_lowestBehind_37 : decode b_WA_lowestBehind 37 = .ok (.iload 6, 2) := by decide +kernel
theorem d_WA_lowestBehind_39 : decode b_WA_lowestBehind 39 = .ok (.baload, 1) := by decide +kernel
theorem d_WA_lowestBehind_40 : decode b_WA_lowestBehind 40 = .ok (.ifCond .eq 25, 3) := by decide +kernel
theorem d_WA_lowestBehind_43 : decode b_WA_lowestBehind 43 = .ok (.aload_n 2, 1) := by decide +kernel
theorem d_WA_lowestBehind_44 : decode b_WA_lowestBehind 44 = .ok (.getfield 33, 3) := by decide +kernel
theorem d_WA_lowestBehind_47 : decode b_WA_lowestBehind 47 = .ok (.iload 6, 2) := by decide +kernel
theorem d_WA_lowestBehind_49 : decode b_WA_lowestBehind 49 = .ok (.iaload, 1) := by decide +kernel
theorem d_WA_lowestBehind_50 : decode b_WA_lowestBehind 50 = .ok (.aload_n 2, 1) := by decide +kernel
theorem d_WA_lowestBehind_51 : decode b_WA_lowestBehind 51 = .ok (.getfield 33, 3) := by decide +kernel
theorem d_WA_lowestBehind_54 : decode b_WA_lowestBehind 54 = .ok (.iload_n 3, 1) := by decide +kernel
theorem d_WA_lowestBehind_55 : decode b_WA_lowestBehind 55 = .ok (.iaload, 1) := by decide +kernel
theorem d_WA_lowestBehind_56 : decode b_WA_lowestBehind 56 = .ok (.iconst 1, 1) := by decide +kernel
theorem d_WA_lowestBehind_57 : decode b_WA_lowestBehind 57 = .ok (.iadd, 1) := by decide +kernel
theorem d_WA_lowestBehind_58 : decode b_WA_lowestBehind 58 = .ok (.if_icmp .ne 7, 3) := by decide +kernel
theorem d_WA_lowestBehind_61 : decode b_WA_lowestBehind 61 = .ok (.iconst 1, 1) := by decide +kernel
theorem d_WA_lowestBehind_62 : decode b_WA_lowestBehind 62 = .ok (.goto 4, 3) := by decide +kernel
theorem d_WA_lowestBehind_65 : decode b_WA_lowestBehind 65 = .ok (.iconst 0, 1) := by decide +kernel
theorem d_WA_lowestBehind_66 : decode b_WA_lowestBehind 66 = .ok (.istore 7, 2) := by decide +kernel
theorem d_WA_lowestBehind_68 : decode b_WA_lowestBehind 68 = .ok (.iload 7, 2) := by decide +kernel
theorem d_WA_lowestBehind_70 : decode b_WA_lowestBehind 70 = .ok (.ifCond .eq 20, 3) := by decide +kernel
theorem d_WA_lowestBehind_73 : decode b_WA_lowestBehind 73 = .ok (.iload 4, 2) := by decide +kernel
theorem d_WA_lowestBehind_75 : decode b_WA_lowestBehind 75 = .ok (.iconst (-1), 1) := by decide +kernel
theorem d_WA_lowestBehind_76 : decode b_WA_lowestBehind 76 = .ok (.if_icmp .eq 10, 3) := by decide +kernel
theorem d_WA_lowestBehind_79 : decode b_WA_lowestBehind 79 = .ok (.iload 6, 2) := by decide +kernel
theorem d_WA_lowestBehind_81 : decode b_WA_lowestBehind 81 = .ok (.iload 4, 2) := by decide +kernel
theorem d_WA_lowestBehind_83 : decode b_WA_lowestBehind 83 = .ok (.if_icmp .ge 7, 3) := by decide +kernel
theorem d_WA_lowestBehind_86 : decode b_WA_lowestBehind 86 = .ok (.iload 6, 2) := by decide +kernel
theorem d_WA_lowestBehind_88 : decode b_WA_lowestBehind 88 = .ok (.istore 4, 2) := by decide +kernel
theorem d_WA_lowestBehind_90 : decode b_WA_lowestBehind 90 = .ok (.iinc 5 1, 3) := by decide +kernel
theorem d_WA_lowestBehind_93 : decode b_WA_lowestBehind 93 = .ok (.goto (-82), 3) := by decide +kernel
theorem d_WA_lowestBehind_96 : decode b_WA_lowestBehind 96 = .ok (.iload 4, 2) := by decide +kernel
theorem d_WA_lowestBehind_98 : decode b_WA_lowestBehind 98 = .ok (.ireturn, 1) := by decide +kernel
abbrev b_WA_markWhatLeadsTo : ByteArray := prog_10_method_3_code
def y_WA_markWhatLeadsTo : MethodName := ⟨"ExploreShares$Ways", "markWhatLeadsTo", "(LExploreShares$Net;LExploreShares$Levels;I)V"⟩
def w_WA_markWhatLeadsTo : List Cond := .code y_WA_markWhatLeadsTo b_WA_markWhatLeadsTo 6 (none) :: xU
theorem d_WA_markWhatLeadsTo_0 : decode b_WA_markWhatLeadsTo 0 = .ok (.aload_n 0, 1) := by decide +kernel
theorem d_WA_markWhatLeadsTo_1 : decode b_WA_markWhatLeadsTo 1 = .ok (.getfield 9, 3) := by decide +kernel
theorem d_WA_markWhatLeadsTo_4 : decode b_WA_markWhatLeadsTo 4 = .ok (.iconst 0, 1) := by decide +kernel
theorem d_WA_markWhatLeadsTo_5 : decode b_WA_markWhatLeadsTo 5 = .ok (.invokestatic 23, 3) := by decide +kernel
theorem d_WA_markWhatLeadsTo_8 : decode b_WA_markWhatLeadsTo 8 = .ok (.aload_n 0, 1) := by decide +kernel
theorem d_WA_markWhatLeadsTo_9 : decode b_WA_markWhatLeadsTo 9 = .ok (.getfield 9, 3) := by decide +kernel
theorem d_WA_markWhatLeadsTo_12 : decode b_WA_markWhatLeadsTo 12 = .ok (.iload_n 3, 1) := by decide +kernel
theorem d_WA_markWhatLeadsTo_13 : decode b_WA_markWhatLeadsTo 13 = .ok (.iconst 1, 1) := by decide +kernel
theorem d_WA_markWhatLeadsTo_14 : decode b_WA_markWhatLeadsTo 14 = .ok (.bastore, 1) := by decide +kernel
theorem d_WA_markWhatLeadsTo_15 : decode b_WA_markWhatLeadsTo 15 = .ok (.aload_n 2, 1) := by decide +kernel
theorem d_WA_markWhatLeadsTo_16 : decode b_WA_markWhatLeadsTo 16 = .ok (.getfield 27, 3) := by decide +kernel
theorem d_WA_markWhatLeadsTo_19 : decode b_WA_markWhatLeadsTo 19 = .ok (.aload_n 2, 1) := by decide +kernel
theorem d_WA_markWhatLeadsTo_20 : decode b_WA_markWhatLeadsTo 20 = .ok (.getfield 33, 3) := by decide +kernel
theorem d_WA_markWhatLeadsTo_23 : decode b_WA_markWhatLeadsTo 23 = .ok (.iload_n 3, 1) := by decide +kernel
theorem d_WA_markWhatLeadsTo_24 : decode b_WA_markWhatLeadsTo 24 = .ok (.iaload, 1) := by decide +kernel
theorem d_WA_markWhatLeadsTo_25 : decode b_WA_markWhatLeadsTo 25 = .ok (.iaload, 1) := by decide +kernel
theorem d_WA_markWhatLeadsTo_26 : decode b_WA_markWhatLeadsTo 26 = .ok (.iconst 1, 1) := by decide +kernel
theorem d_WA_markWhatLeadsTo_27 : decode b_WA_markWhatLeadsTo 27 = .ok (.isub, 1) := by decide +kernel
theorem d_WA_markWhatLeadsTo_28 : decode b_WA_markWhatLeadsTo 28 = .ok (.istore 4, 2) := by decide +kernel
theorem d_WA_markWhatLeadsTo_30 : decode b_WA_markWhatLeadsTo 30 = .ok (.iload 4, 2) := by decide +kernel
theorem d_WA_markWhatLeadsTo_32 : decode b_WA_markWhatLeadsTo 32 = .ok (.ifCond .lt 42, 3) := by decide +kernel
theorem d_WA_markWhatLeadsTo_35 : decode b_WA_markWhatLeadsTo 35 = .ok (.aload_n 2, 1) := by decide +kernel
theorem d_WA_markWhatLeadsTo_36 : decode b_WA_markWhatLeadsTo 36 = .ok (.getfield 36, 3) := by decide +kernel
theorem d_WA_markWhatLeadsTo_39 : decode b_WA_markWhatLeadsTo 39 = .ok (.iload 4, 2) := by decide +kernel
theorem d_WA_markWhatLeadsTo_41 : decode b_WA_markWhatLeadsTo 41 = .ok (.iaload, 1) := by decide +kernel
theorem d_WA_markWhatLeadsTo_42 : decode b_WA_markWhatLeadsTo 42 = .ok (.istore 5, 2) := by decide +kernel
theorem d_WA_markWhatLeadsTo_44 : decode b_WA_markWhatLeadsTo 44 = .ok (.aload_n 0, 1) := by decide +kernel
theorem d_WA_markWhatLeadsTo_45 : decode b_WA_markWhatLeadsTo 45 = .ok (.getfield 9, 3) := by decide +kernel
theorem d_WA_markWhatLeadsTo_48 : decode b_WA_markWhatLeadsTo 48 = .ok (.iload 5, 2) := by decide +kernel
theorem d_WA_markWhatLeadsTo_50 : decode b_WA_markWhatLeadsTo 50 = .ok (.aload_n 0, 1) := by decide +kernel
theorem d_WA_markWhatLeadsTo_51 : decode b_WA_markWhatLeadsTo 51 = .ok (.aload_n 1, 1) := by decide +kernel
theorem d_WA_markWhatLeadsTo_52 : decode b_WA_markWhatLeadsTo 52 = .ok (.aload_n 2, 1) := by decide +kernel
theorem d_WA_markWhatLeadsTo_53 : decode b_WA_markWhatLeadsTo 53 = .ok (.iload 5, 2) := by decide +kernel
theorem d_WA_markWhatLeadsTo_55 : decode b_WA_markWhatLeadsTo 55 = .ok (.invokevirtual 19, 3) := by decide +kernel
theorem d_WA_markWhatLeadsTo_58 : decode b_WA_markWhatLeadsTo 58 = .ok (.iconst (-1), 1) := by decide +kernel
theorem d_WA_markWhatLeadsTo_59 : decode b_WA_markWhatLeadsTo 59 = .ok (.if_icmp .eq 7, 3) := by decide +kernel
theorem d_WA_markWhatLeadsTo_62 : decode b_WA_markWhatLeadsTo 62 = .ok (.iconst 1, 1) := by decide +kernel
theorem d_WA_markWhatLeadsTo_63 : decode b_WA_markWhatLeadsTo 63 = .ok (.goto 4, 3) := by decide +kernel
theorem d_WA_markWhatLeadsTo_66 : decode b_WA_markWhatLeadsTo 66 = .ok (.iconst 0, 1) := by decide +kernel
theorem d_WA_markWhatLeadsTo_67 : decode b_WA_markWhatLeadsTo 67 = .ok (.bastore, 1) := by decide +kernel
theorem d_WA_markWhatLeadsTo_68 : decode b_WA_markWhatLeadsTo 68 = .ok (.iinc 4 (-1), 3) := by decide +kernel
theorem d_WA_markWhatLeadsTo_71 : decode b_WA_markWhatLeadsTo 71 = .ok (.goto (-41), 3) := by decide +kernel
theorem d_WA_markWhatLeadsTo_74 : decode b_WA_markWhatLeadsTo 74 = .ok (.return_, 1) := by decide +kernel
abbrev b_WA_stateAt : ByteArray := prog_10_method_2_code
def y_WA_stateAt : MethodName := ⟨"ExploreShares$Ways", "stateAt", "(LExploreShares$Net;LExploreShares$Levels;II)I"⟩
def w_WA_stateAt : List Cond := .code y_WA_stateAt b_WA_stateAt 7 (some .int) :: xU
theorem d_WA_stateAt_0 : decode b_WA_stateAt 0 = .ok (.aload_n 0, 1) := by decide +kernel
theorem d_WA_stateAt_1 : decode b_WA_stateAt 1 = .ok (.aload_n 1, 1) := by decide +kernel
theorem d_WA_stateAt_2 : decode b_WA_stateAt 2 = .ok (.aload_n 2, 1) := by decide +kernel
theorem d_WA_stateAt_3 : decode b_WA_stateAt 3 = .ok (.iload_n 3, 1) := by decide +kernel
theorem d_WA_stateAt_4 : decode b_WA_stateAt 4 = .ok (.invokevirtual 15, 3) := by decide +kernel
theorem d_WA_stateAt_7 : decode b_WA_stateAt 7 = .ok (.iconst 0, 1) := by decide +kernel
theorem d_WA_stateAt_8 : decode b_WA_stateAt 8 = .ok (.istore 5, 2) := by decide +kernel
theorem d_WA_stateAt_10 : decode b_WA_stateAt 10 = .ok (.iconst 0, 1) := by decide +kernel
theorem d_WA_stateAt_11 : decode b_WA_stateAt 11 = .ok (.istore 6, 2) := by decide +kernel
theorem d_WA_stateAt_13 : decode b_WA_stateAt 13 = .ok (.iload 6, 2) := by decide +kernel
theorem d_WA_stateAt_15 : decode b_WA_stateAt 15 = .ok (.iload 4, 2) := by decide +kernel
theorem d_WA_stateAt_17 : decode b_WA_stateAt 17 = .ok (.if_icmp .ge 25, 3) := by decide +kernel
theorem d_WA_stateAt_20 : decode b_WA_stateAt 20 = .ok (.iload 5, 2) := by decide +kernel
theorem d_WA_stateAt_22 : decode b_WA_stateAt 22 = .ok (.iconst (-1), 1) := by decide +kernel
theorem d_WA_stateAt_23 : decode b_WA_stateAt 23 = .ok (.if_icmp .eq 19, 3) := by decide +kernel
theorem d_WA_stateAt_26 : decode b_WA_stateAt 26 = .ok (.aload_n 0, 1) := by decide +kernel
theorem d_WA_stateAt_27 : decode b_WA_stateAt 27 = .ok (.aload_n 1, 1) := by decide +kernel
theorem d_WA_stateAt_28 : decode b_WA_stateAt 28 = .ok (.aload_n 2, 1) := by decide +kernel
theorem d_WA_stateAt_29 : decode b_WA_stateAt 29 = .ok (.iload 5, 2) := by decide +kernel
theorem d_WA_stateAt_31 : decode b_WA_stateAt 31 = .ok (.invokevirtual 19, 3) := by decide +kernel
theorem d_WA_stateAt_34 : decode b_WA_stateAt 34 = .ok (.istore 5, 2) := by decide +kernel
theorem d_WA_stateAt_36 : decode b_WA_stateAt 36 = .ok (.iinc 6 1, 3) := by decide +kernel
theorem d_WA_stateAt_39 : decode b_WA_stateAt 39 = .ok (.goto (-26), 3) := by decide +kernel
theorem d_WA_stateAt_42 : decode b_WA_stateAt 42 = .ok (.iload 5, 2) := by decide +kernel
theorem d_WA_stateAt_44 : decode b_WA_stateAt 44 = .ok (.ireturn, 1) := by decide +kernel
