abbrev b_NET_has : ByteArray := prog_7_method_2_code
def y_NET_has : MethodName := ⟨"ExploreShares$Net", "has", "(I)Z"⟩
def w_NET_has : List Cond := .code y_NET_has b_NET_has 2 (some .boolean) :: xU
theorem d_NET_has_0 : decode b_NET_has 0 = .ok (.iload_n 1, 1) := by decide +kernel
theorem d_NET_has_1 : decode b_NET_has 1 = .ok (.ifCond .lt 15, 3) := by decide +kernel
theorem d_NET_has_4 : decode b_NET_has 4 = .ok (.iload_n 1, 1) := by decide +kernel
theorem d_NET_has_5 : decode b_NET_has 5 = .ok (.aload_n 0, 1) := by decide +kernel
theorem d_NET_has_6 : decode b_NET_has 6 = .ok (.getfield 18, 3) := by decide +kernel
theorem d_NET_has_9 : decode b_NET_has 9 = .ok (.if_icmp .ge 7, 3) := by decide +kernel
theorem d_NET_has_16 : decode b_NET_has 16 = .ok (.iconst 0, 1) := by decide +kernel
theorem d_NET_has_17 : decode b_NET_has 17 = .ok (.ireturn, 1) := by decide +kernel
