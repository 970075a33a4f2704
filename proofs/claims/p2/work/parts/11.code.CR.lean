abbrev b_CR_ownerOf : ByteArray := prog_2_method_4_code
def y_CR_ownerOf : MethodName := ⟨"ExploreShares$Crew", "ownerOf", "(I)I"⟩
def w_CR_ownerOf : List Cond := .code y_CR_ownerOf b_CR_ownerOf 4 (some .int) :: xU
theorem d_CR_ownerOf_0 : decode b_CR_ownerOf 0 = .ok (.aload_n 0, 1) := by decide +kernel
theorem d_CR_ownerOf_1 : decode b_CR_ownerOf 1 = .ok (.getfield 9, 3) := by decide +kernel
theorem d_CR_ownerOf_4 : decode b_CR_ownerOf 4 = .ok (.iload_n 1, 1) := by decide +kernel
theorem d_CR_ownerOf_5 : decode b_CR_ownerOf 5 = .ok (.iaload, 1) := by decide +kernel
theorem d_CR_ownerOf_6 : decode b_CR_ownerOf 6 = .ok (.istore_n 2, 1) := by decide +kernel
theorem d_CR_ownerOf_7 : decode b_CR_ownerOf 7 = .ok (.iconst 0, 1) := by decide +kernel
theorem d_CR_ownerOf_8 : decode b_CR_ownerOf 8 = .ok (.istore_n 3, 1) := by decide +kernel
theorem d_CR_ownerOf_9 : decode b_CR_ownerOf 9 = .ok (.iload_n 3, 1) := by decide +kernel
theorem d_CR_ownerOf_10 : decode b_CR_ownerOf 10 = .ok (.aload_n 0, 1) := by decide +kernel
theorem d_CR_ownerOf_11 : decode b_CR_ownerOf 11 = .ok (.getfield 28, 3) := by decide +kernel
theorem d_CR_ownerOf_14 : decode b_CR_ownerOf 14 = .ok (.if_icmp .ge 36, 3) := by decide +kernel
theorem d_CR_ownerOf_17 : decode b_CR_ownerOf 17 = .ok (.aload_n 0, 1) := by decide +kernel
theorem d_CR_ownerOf_18 : decode b_CR_ownerOf 18 = .ok (.getfield 15, 3) := by decide +kernel
theorem d_CR_ownerOf_21 : decode b_CR_ownerOf 21 = .ok (.iload_n 2, 1) := by decide +kernel
theorem d_CR_ownerOf_22 : decode b_CR_ownerOf 22 = .ok (.baload, 1) := by decide +kernel
theorem d_CR_ownerOf_23 : decode b_CR_ownerOf 23 = .ok (.ifCond .ne 27, 3) := by decide +kernel
theorem d_CR_ownerOf_26 : decode b_CR_ownerOf 26 = .ok (.iload_n 2, 1) := by decide +kernel
theorem d_CR_ownerOf_27 : decode b_CR_ownerOf 27 = .ok (.iconst 1, 1) := by decide +kernel
theorem d_CR_ownerOf_28 : decode b_CR_ownerOf 28 = .ok (.iadd, 1) := by decide +kernel
theorem d_CR_ownerOf_29 : decode b_CR_ownerOf 29 = .ok (.aload_n 0, 1) := by decide +kernel
theorem d_CR_ownerOf_30 : decode b_CR_ownerOf 30 = .ok (.getfield 28, 3) := by decide +kernel
theorem d_CR_ownerOf_33 : decode b_CR_ownerOf 33 = .ok (.if_icmp .ge 9, 3) := by decide +kernel
theorem d_CR_ownerOf_36 : decode b_CR_ownerOf 36 = .ok (.iload_n 2, 1) := by decide +kernel
theorem d_CR_ownerOf_37 : decode b_CR_ownerOf 37 = .ok (.iconst 1, 1) := by decide +kernel
theorem d_CR_ownerOf_38 : decode b_CR_ownerOf 38 = .ok (.iadd, 1) := by decide +kernel
theorem d_CR_ownerOf_39 : decode b_CR_ownerOf 39 = .ok (.goto 4, 3) := by decide +kernel
theorem d_CR_ownerOf_42 : decode b_CR_ownerOf 42 = .ok (.iconst 0, 1) := by decide +kernel
theorem d_CR_ownerOf_43 : decode b_CR_ownerOf 43 = .ok (.istore_n 2, 1) := by decide +kernel
theorem d_CR_ownerOf_44 : decode b_CR_ownerOf 44 = .ok (.iinc 3 1, 3) := by decide +kernel
theorem d_CR_ownerOf_47 : decode b_CR_ownerOf 47 = .ok (.goto (-38), 3) := by decide +kernel
theorem d_CR_ownerOf_50 : decode b_CR_ownerOf 50 = .ok (.iload_n 2, 1) := by decide +kernel
theorem d_CR_ownerOf_51 : decode b_CR_ownerOf 51 = .ok (.ireturn, 1) := by decide +kernel
