section
-- ===== PART A: goes FIRST, ahead of the names: the tables' words, and 'selects' of the private methods out of them =====
/-- a private method of a class that the tables say can be made, by its rows of tables_1 -/
def lw_okq (q : MethodName × Nat) : Prop := (q.1.cls ≠ "java/lang/invoke/MethodHandle" ∧ q.1.cls ≠ "java/lang/invoke/VarHandle") ∧ Cond.instantiable q.1.cls q.2 ∈ tables_1 ∧ Cond.privateMethod q.1 ∈ tables_1 ∧ Cond.instanceMethod q.1 ∈ tables_1
theorem lw_p0 : lw_okq (⟨"java/lang/Throwable", "fillInStackTrace", "(I)Ljava/lang/Throwable;"⟩, 6) := ⟨⟨by decide +kernel, by decide +kernel⟩, List.mem_of_getElem? (i := 379) (by decide +kernel), List.mem_of_getElem? (i := 377) (by decide +kernel), List.mem_of_getElem? (i := 378) (by decide +kernel)⟩
theorem lw_p1 : lw_okq (⟨"ExploreShares$FailPlan", "takeBack", "(I)V"⟩, 4) := ⟨⟨by decide +kernel, by decide +kernel⟩, List.mem_of_getElem? (i := 66) (by decide +kernel), List.mem_of_getElem? (i := 504) (by decide +kernel), List.mem_of_getElem? (i := 505) (by decide +kernel)⟩
theorem lw_p2 : lw_okq (⟨"ExploreShares$Search", "beginLevel", "(I)V"⟩, 11) := ⟨⟨by decide +kernel, by decide +kernel⟩, List.mem_of_getElem? (i := 30) (by decide +kernel), List.mem_of_getElem? (i := 546) (by decide +kernel), List.mem_of_getElem? (i := 547) (by decide +kernel)⟩
theorem lw_p3 : lw_okq (⟨"ExploreShares$Search", "takeTurns", "(I)Z"⟩, 11) := ⟨⟨by decide +kernel, by decide +kernel⟩, List.mem_of_getElem? (i := 30) (by decide +kernel), List.mem_of_getElem? (i := 570) (by decide +kernel), List.mem_of_getElem? (i := 571) (by decide +kernel)⟩
theorem lw_p4 : lw_okq (⟨"ExploreShares$Search", "workerOfNextTurn", "()I"⟩, 11) := ⟨⟨by decide +kernel, by decide +kernel⟩, List.mem_of_getElem? (i := 30) (by decide +kernel), List.mem_of_getElem? (i := 575) (by decide +kernel), List.mem_of_getElem? (i := 576) (by decide +kernel)⟩
theorem lw_p5 : lw_okq (⟨"ExploreShares$Search", "isToFail", "(II)Z"⟩, 11) := ⟨⟨by decide +kernel, by decide +kernel⟩, List.mem_of_getElem? (i := 30) (by decide +kernel), List.mem_of_getElem? (i := 589) (by decide +kernel), List.mem_of_getElem? (i := 590) (by decide +kernel)⟩
theorem lw_p6 : lw_okq (⟨"ExploreShares$Search", "takeTurn", "(I)V"⟩, 11) := ⟨⟨by decide +kernel, by decide +kernel⟩, List.mem_of_getElem? (i := 30) (by decide +kernel), List.mem_of_getElem? (i := 605) (by decide +kernel), List.mem_of_getElem? (i := 606) (by decide +kernel)⟩
theorem lw_p7 : lw_okq (⟨"ExploreShares$Search", "takeMove", "(I)V"⟩, 11) := ⟨⟨by decide +kernel, by decide +kernel⟩, List.mem_of_getElem? (i := 30) (by decide +kernel), List.mem_of_getElem? (i := 617) (by decide +kernel), List.mem_of_getElem? (i := 618) (by decide +kernel)⟩
theorem lw_p8 : lw_okq (⟨"ExploreShares$Search", "handOver", "(II)Z"⟩, 11) := ⟨⟨by decide +kernel, by decide +kernel⟩, List.mem_of_getElem? (i := 30) (by decide +kernel), List.mem_of_getElem? (i := 625) (by decide +kernel), List.mem_of_getElem? (i := 626) (by decide +kernel)⟩
theorem lw_p9 : lw_okq (⟨"ExploreShares$Ways", "markWhatLeadsTo", "(LExploreShares$Net;LExploreShares$Levels;I)V"⟩, 1) := ⟨⟨by decide +kernel, by decide +kernel⟩, List.mem_of_getElem? (i := 175) (by decide +kernel), List.mem_of_getElem? (i := 675) (by decide +kernel), List.mem_of_getElem? (i := 676) (by decide +kernel)⟩
theorem lw_p10 : lw_okq (⟨"ExploreShares$Ways", "lowestBehind", "(LExploreShares$Net;LExploreShares$Levels;I)I"⟩, 1) := ⟨⟨by decide +kernel, by decide +kernel⟩, List.mem_of_getElem? (i := 175) (by decide +kernel), List.mem_of_getElem? (i := 680) (by decide +kernel), List.mem_of_getElem? (i := 681) (by decide +kernel)⟩
theorem lw_p11 : lw_okq (⟨"ExploreSharesModel", "forget", "()V"⟩, 36) := ⟨⟨by decide +kernel, by decide +kernel⟩, List.mem_of_getElem? (i := 714) (by decide +kernel), List.mem_of_getElem? (i := 720) (by decide +kernel), List.mem_of_getElem? (i := 721) (by decide +kernel)⟩
theorem lw_p12 : lw_okq (⟨"ExploreSharesModel", "throwing", "(ZZZ)Z"⟩, 36) := ⟨⟨by decide +kernel, by decide +kernel⟩, List.mem_of_getElem? (i := 714) (by decide +kernel), List.mem_of_getElem? (i := 841) (by decide +kernel), List.mem_of_getElem? (i := 842) (by decide +kernel)⟩
theorem lw_p13 : lw_okq (⟨"ExploreSharesModel", "toldAt", "(II)I"⟩, 36) := ⟨⟨by decide +kernel, by decide +kernel⟩, List.mem_of_getElem? (i := 714) (by decide +kernel), List.mem_of_getElem? (i := 856) (by decide +kernel), List.mem_of_getElem? (i := 857) (by decide +kernel)⟩
theorem lw_p14 : lw_okq (⟨"ExploreSharesModel", "goThrough", "()V"⟩, 36) := ⟨⟨by decide +kernel, by decide +kernel⟩, List.mem_of_getElem? (i := 714) (by decide +kernel), List.mem_of_getElem? (i := 865) (by decide +kernel), List.mem_of_getElem? (i := 866) (by decide +kernel)⟩
theorem lw_p15 : lw_okq (⟨"ExploreSharesModel", "beginLevel", "()V"⟩, 36) := ⟨⟨by decide +kernel, by decide +kernel⟩, List.mem_of_getElem? (i := 714) (by decide +kernel), List.mem_of_getElem? (i := 869) (by decide +kernel), List.mem_of_getElem? (i := 870) (by decide +kernel)⟩
def lw_privs_1 : List (MethodName × Nat) := [(⟨"java/lang/Throwable", "fillInStackTrace", "(I)Ljava/lang/Throwable;"⟩, 6), (⟨"ExploreShares$FailPlan", "takeBack", "(I)V"⟩, 4), (⟨"ExploreShares$Search", "beginLevel", "(I)V"⟩, 11), (⟨"ExploreShares$Search", "takeTurns", "(I)Z"⟩, 11), (⟨"ExploreShares$Search", "workerOfNextTurn", "()I"⟩, 11), (⟨"ExploreShares$Search", "isToFail", "(II)Z"⟩, 11), (⟨"ExploreShares$Search", "takeTurn", "(I)V"⟩, 11), (⟨"ExploreShares$Search", "takeMove", "(I)V"⟩, 11), (⟨"ExploreShares$Search", "handOver", "(II)Z"⟩, 11), (⟨"ExploreShares$Ways", "markWhatLeadsTo", "(LExploreShares$Net;LExploreShares$Levels;I)V"⟩, 1), (⟨"ExploreShares$Ways", "lowestBehind", "(LExploreShares$Net;LExploreShares$Levels;I)I"⟩, 1), (⟨"ExploreSharesModel", "forget", "()V"⟩, 36), (⟨"ExploreSharesModel", "throwing", "(ZZZ)Z"⟩, 36), (⟨"ExploreSharesModel", "toldAt", "(II)I"⟩, 36), (⟨"ExploreSharesModel", "goThrough", "()V"⟩, 36), (⟨"ExploreSharesModel", "beginLevel", "()V"⟩, 36)]
theorem lw_r1 : ∀ q ∈ lw_privs_1, lw_okq q := List.forall_mem_cons.mpr ⟨lw_p0, List.forall_mem_cons.mpr ⟨lw_p1, List.forall_mem_cons.mpr ⟨lw_p2, List.forall_mem_cons.mpr ⟨lw_p3, List.forall_mem_cons.mpr ⟨lw_p4, List.forall_mem_cons.mpr ⟨lw_p5, List.forall_mem_cons.mpr ⟨lw_p6, List.forall_mem_cons.mpr ⟨lw_p7, List.forall_mem_cons.mpr ⟨lw_p8, List.forall_mem_cons.mpr ⟨lw_p9, List.forall_mem_cons.mpr ⟨lw_p10, List.forall_mem_cons.mpr ⟨lw_p11, List.forall_mem_cons.mpr ⟨lw_p12, List.forall_mem_cons.mpr ⟨lw_p13, List.forall_mem_cons.mpr ⟨lw_p14, List.forall_mem_cons.mpr ⟨lw_p15, fun _ h => absurd h List.not_mem_nil⟩⟩⟩⟩⟩⟩⟩⟩⟩⟩⟩⟩⟩⟩⟩⟩
theorem lw_p16 : lw_okq (⟨"ExploreSharesModel", "nextState", "(II)I"⟩, 36) := ⟨⟨by decide +kernel, by decide +kernel⟩, List.mem_of_getElem? (i := 714) (by decide +kernel), List.mem_of_getElem? (i := 873) (by decide +kernel), List.mem_of_getElem? (i := 874) (by decide +kernel)⟩
theorem lw_p17 : lw_okq (⟨"ExploreSharesModel", "ownerOf", "(I)I"⟩, 36) := ⟨⟨by decide +kernel, by decide +kernel⟩, List.mem_of_getElem? (i := 714) (by decide +kernel), List.mem_of_getElem? (i := 877) (by decide +kernel), List.mem_of_getElem? (i := 878) (by decide +kernel)⟩
theorem lw_p18 : lw_okq (⟨"ExploreSharesModel", "pick", "()I"⟩, 36) := ⟨⟨by decide +kernel, by decide +kernel⟩, List.mem_of_getElem? (i := 714) (by decide +kernel), List.mem_of_getElem? (i := 886) (by decide +kernel), List.mem_of_getElem? (i := 887) (by decide +kernel)⟩
theorem lw_p19 : lw_okq (⟨"ExploreSharesModel", "isDone", "(I)Z"⟩, 36) := ⟨⟨by decide +kernel, by decide +kernel⟩, List.mem_of_getElem? (i := 714) (by decide +kernel), List.mem_of_getElem? (i := 890) (by decide +kernel), List.mem_of_getElem? (i := 891) (by decide +kernel)⟩
theorem lw_p20 : lw_okq (⟨"ExploreSharesModel", "fails", "(I)Z"⟩, 36) := ⟨⟨by decide +kernel, by decide +kernel⟩, List.mem_of_getElem? (i := 714) (by decide +kernel), List.mem_of_getElem? (i := 894) (by decide +kernel), List.mem_of_getElem? (i := 895) (by decide +kernel)⟩
theorem lw_p21 : lw_okq (⟨"ExploreSharesModel", "live", "()I"⟩, 36) := ⟨⟨by decide +kernel, by decide +kernel⟩, List.mem_of_getElem? (i := 714) (by decide +kernel), List.mem_of_getElem? (i := 898) (by decide +kernel), List.mem_of_getElem? (i := 899) (by decide +kernel)⟩
theorem lw_p22 : lw_okq (⟨"ExploreSharesModel", "turn", "(I)V"⟩, 36) := ⟨⟨by decide +kernel, by decide +kernel⟩, List.mem_of_getElem? (i := 714) (by decide +kernel), List.mem_of_getElem? (i := 902) (by decide +kernel), List.mem_of_getElem? (i := 903) (by decide +kernel)⟩
theorem lw_p23 : lw_okq (⟨"ExploreSharesModel", "take", "(I)V"⟩, 36) := ⟨⟨by decide +kernel, by decide +kernel⟩, List.mem_of_getElem? (i := 714) (by decide +kernel), List.mem_of_getElem? (i := 906) (by decide +kernel), List.mem_of_getElem? (i := 907) (by decide +kernel)⟩
theorem lw_p24 : lw_okq (⟨"ExploreSharesModel", "meet", "(I)V"⟩, 36) := ⟨⟨by decide +kernel, by decide +kernel⟩, List.mem_of_getElem? (i := 714) (by decide +kernel), List.mem_of_getElem? (i := 910) (by decide +kernel), List.mem_of_getElem? (i := 911) (by decide +kernel)⟩
theorem lw_p25 : lw_okq (⟨"ExploreSharesModel", "target", "(II)I"⟩, 36) := ⟨⟨by decide +kernel, by decide +kernel⟩, List.mem_of_getElem? (i := 714) (by decide +kernel), List.mem_of_getElem? (i := 914) (by decide +kernel), List.mem_of_getElem? (i := 915) (by decide +kernel)⟩
theorem lw_p26 : lw_okq (⟨"ExploreSharesModel", "findWays", "(I)V"⟩, 36) := ⟨⟨by decide +kernel, by decide +kernel⟩, List.mem_of_getElem? (i := 714) (by decide +kernel), List.mem_of_getElem? (i := 934) (by decide +kernel), List.mem_of_getElem? (i := 935) (by decide +kernel)⟩
theorem lw_p27 : lw_okq (⟨"ExploreSharesModel", "isMove", "(II)Z"⟩, 36) := ⟨⟨by decide +kernel, by decide +kernel⟩, List.mem_of_getElem? (i := 714) (by decide +kernel), List.mem_of_getElem? (i := 938) (by decide +kernel), List.mem_of_getElem? (i := 939) (by decide +kernel)⟩
theorem lw_p28 : lw_okq (⟨"ExploreSharesModel", "owned", "(I)I"⟩, 36) := ⟨⟨by decide +kernel, by decide +kernel⟩, List.mem_of_getElem? (i := 714) (by decide +kernel), List.mem_of_getElem? (i := 946) (by decide +kernel), List.mem_of_getElem? (i := 947) (by decide +kernel)⟩
theorem lw_p29 : lw_okq (⟨"ExploreSharesModel", "cameAll", "()I"⟩, 36) := ⟨⟨by decide +kernel, by decide +kernel⟩, List.mem_of_getElem? (i := 714) (by decide +kernel), List.mem_of_getElem? (i := 962) (by decide +kernel), List.mem_of_getElem? (i := 963) (by decide +kernel)⟩
def lw_privs_2 : List (MethodName × Nat) := [(⟨"ExploreSharesModel", "nextState", "(II)I"⟩, 36), (⟨"ExploreSharesModel", "ownerOf", "(I)I"⟩, 36), (⟨"ExploreSharesModel", "pick", "()I"⟩, 36), (⟨"ExploreSharesModel", "isDone", "(I)Z"⟩, 36), (⟨"ExploreSharesModel", "fails", "(I)Z"⟩, 36), (⟨"ExploreSharesModel", "live", "()I"⟩, 36), (⟨"ExploreSharesModel", "turn", "(I)V"⟩, 36), (⟨"ExploreSharesModel", "take", "(I)V"⟩, 36), (⟨"ExploreSharesModel", "meet", "(I)V"⟩, 36), (⟨"ExploreSharesModel", "target", "(II)I"⟩, 36), (⟨"ExploreSharesModel", "findWays", "(I)V"⟩, 36), (⟨"ExploreSharesModel", "isMove", "(II)Z"⟩, 36), (⟨"ExploreSharesModel", "owned", "(I)I"⟩, 36), (⟨"ExploreSharesModel", "cameAll", "()I"⟩, 36)]
theorem lw_r2 : ∀ q ∈ lw_privs_2, lw_okq q := List.forall_mem_cons.mpr ⟨lw_p16, List.forall_mem_cons.mpr ⟨lw_p17, List.forall_mem_cons.mpr ⟨lw_p18, List.forall_mem_cons.mpr ⟨lw_p19, List.forall_mem_cons.mpr ⟨lw_p20, List.forall_mem_cons.mpr ⟨lw_p21, List.forall_mem_cons.mpr ⟨lw_p22, List.forall_mem_cons.mpr ⟨lw_p23, List.forall_mem_cons.mpr ⟨lw_p24, List.forall_mem_cons.mpr ⟨lw_p25, List.forall_mem_cons.mpr ⟨lw_p26, List.forall_mem_cons.mpr ⟨lw_p27, List.forall_mem_cons.mpr ⟨lw_p28, List.forall_mem_cons.mpr ⟨lw_p29, fun _ h => absurd h List.not_mem_nil⟩⟩⟩⟩⟩⟩⟩⟩⟩⟩⟩⟩⟩⟩
def lw_privs : List (MethodName × Nat) := lw_privs_1 ++ (lw_privs_2)
def lw_tbl : List Cond := k2_sels lw_privs ++ tables_1
theorem lw_privs_ok : ∀ q ∈ lw_privs, lw_okq q := by
  show ∀ q ∈ lw_privs_1 ++ (lw_privs_2), lw_okq q
  exact List.forall_mem_append.mpr ⟨lw_r1, lw_r2⟩
end
section
def R_X : String := "ExploreShares"
def T_X : u_T := fun k => match k with
  | 0 => ("ExploreShares", "search", "LExploreShares$Search;", true)
  | 1 => ("ExploreShares", "net", "LExploreShares$Net;", true)
  | 2 => ("ExploreShares", "plan", "LExploreShares$FailPlan;", true)
  | _ => ("ExploreShares", "crew", "LExploreShares$Crew;", true)
def ty_X : Nat → FieldType := fun k => match k with
  | 0 => (.object "ExploreShares$Search")
  | 1 => (.object "ExploreShares$Net")
  | 2 => (.object "ExploreShares$FailPlan")
  | _ => (.object "ExploreShares$Crew")
theorem nm_X : ∀ a, a < 4 → ∀ b, b < 4 → a ≠ b → (T_X a).2.1 ≠ (T_X b).2.1 := by decide +kernel
theorem ty_X_ok : ∀ k, k < 4 → parseFieldDescriptor (T_X k).2.2.1 = some (ty_X k) := by decide +kernel
def R_NET : String := "ExploreShares$Net"
def T_NET : u_T := fun k => match k with
  | 0 => ("ExploreShares$Net", "states", "I", false)
  | 1 => ("ExploreShares$Net", "moves", "I", false)
  | 2 => ("ExploreShares$Net", "begin", "[I", true)
  | _ => ("ExploreShares$Net", "target", "[I", true)
def ty_NET : Nat → FieldType := fun k => match k with
  | 0 => .int
  | 1 => .int
  | 2 => (.array .int)
  | _ => (.array .int)
theorem nm_NET : ∀ a, a < 4 → ∀ b, b < 4 → a ≠ b → (T_NET a).2.1 ≠ (T_NET b).2.1 := by decide +kernel
theorem ty_NET_ok : ∀ k, k < 4 → parseFieldDescriptor (T_NET k).2.2.1 = some (ty_NET k) := by decide +kernel
def R_FP : String := "ExploreShares$FailPlan"
def T_FP : u_T := fun k => match k with
  | 0 => ("ExploreShares$FailPlan", "worker", "[I", true)
  | 1 => ("ExploreShares$FailPlan", "level", "[I", true)
  | 2 => ("ExploreShares$FailPlan", "turn", "[I", true)
  | _ => ("ExploreShares$FailPlan", "told", "I", false)
def ty_FP : Nat → FieldType := fun k => match k with
  | 0 => (.array .int)
  | 1 => (.array .int)
  | 2 => (.array .int)
  | _ => .int
theorem nm_FP : ∀ a, a < 4 → ∀ b, b < 4 → a ≠ b → (T_FP a).2.1 ≠ (T_FP b).2.1 := by decide +kernel
theorem ty_FP_ok : ∀ k, k < 4 → parseFieldDescriptor (T_FP k).2.2.1 = some (ty_FP k) := by decide +kernel
def R_FL : String := "ExploreShares$FailLog"
def T_FL : u_T := fun k => match k with
  | 0 => ("ExploreShares$FailLog", "worker", "[I", true)
  | 1 => ("ExploreShares$FailLog", "level", "[I", true)
  | 2 => ("ExploreShares$FailLog", "turnsBefore", "[I", true)
  | _ => ("ExploreShares$FailLog", "happened", "I", false)
def ty_FL : Nat → FieldType := fun k => match k with
  | 0 => (.array .int)
  | 1 => (.array .int)
  | 2 => (.array .int)
  | _ => .int
theorem nm_FL : ∀ a, a < 4 → ∀ b, b < 4 → a ≠ b → (T_FL a).2.1 ≠ (T_FL b).2.1 := by decide +kernel
theorem ty_FL_ok : ∀ k, k < 4 → parseFieldDescriptor (T_FL k).2.2.1 = some (ty_FL k) := by decide +kernel
def R_CR : String := "ExploreShares$Crew"
def T_CR : u_T := fun k => match k with
  | 0 => ("ExploreShares$Crew", "workers", "I", true)
  | 1 => ("ExploreShares$Crew", "firstOwner", "[I", true)
  | 2 => ("ExploreShares$Crew", "live", "[Z", true)
  | 3 => ("ExploreShares$Crew", "turns", "[I", true)
  | 4 => ("ExploreShares$Crew", "taken", "[I", true)
  | 5 => ("ExploreShares$Crew", "stalls", "[I", true)
  | 6 => ("ExploreShares$Crew", "liveWorkers", "I", false)
  | _ => ("ExploreShares$Crew", "allTurns", "I", false)
def ty_CR : Nat → FieldType := fun k => match k with
  | 0 => .int
  | 1 => (.array .int)
  | 2 => (.array .boolean)
  | 3 => (.array .int)
  | 4 => (.array .int)
  | 5 => (.array .int)
  | 6 => .int
  | _ => .int
theorem nm_CR : ∀ a, a < 8 → ∀ b, b < 8 → a ≠ b → (T_CR a).2.1 ≠ (T_CR b).2.1 := by decide +kernel
theorem ty_CR_ok : ∀ k, k < 8 → parseFieldDescriptor (T_CR k).2.2.1 = some (ty_CR k) := by decide +kernel
def R_QU : String := "ExploreShares$Queues"
def T_QU : u_T := fun k => match k with
  | 0 => ("ExploreShares$Queues", "room", "I", true)
  | 1 => ("ExploreShares$Queues", "ring", "[[I", true)
  | 2 => ("ExploreShares$Queues", "first", "[I", true)
  | 3 => ("ExploreShares$Queues", "held", "[I", true)
  | _ => ("ExploreShares$Queues", "most", "I", false)
def ty_QU : Nat → FieldType := fun k => match k with
  | 0 => .int
  | 1 => (.array (.array .int))
  | 2 => (.array .int)
  | 3 => (.array .int)
  | _ => .int
theorem nm_QU : ∀ a, a < 5 → ∀ b, b < 5 → a ≠ b → (T_QU a).2.1 ≠ (T_QU b).2.1 := by decide +kernel
theorem ty_QU_ok : ∀ k, k < 5 → parseFieldDescriptor (T_QU k).2.2.1 = some (ty_QU k) := by decide +kernel
def R_LI : String := "ExploreShares$Lists"
def T_LI : u_T := fun k => match k with
  | 0 => ("ExploreShares$Lists", "list", "[[I", true)
  | 1 => ("ExploreShares$Lists", "listed", "[I", true)
  | 2 => ("ExploreShares$Lists", "at", "[I", true)
  | 3 => ("ExploreShares$Lists", "movesDone", "[I", true)
  | 4 => ("ExploreShares$Lists", "lookedAt", "[Z", true)
  | _ => ("ExploreShares$Lists", "turns", "[I", true)
def ty_LI : Nat → FieldType := fun k => match k with
  | 0 => (.array (.array .int))
  | 1 => (.array .int)
  | 2 => (.array .int)
  | 3 => (.array .int)
  | 4 => (.array .boolean)
  | _ => (.array .int)
theorem nm_LI : ∀ a, a < 6 → ∀ b, b < 6 → a ≠ b → (T_LI a).2.1 ≠ (T_LI b).2.1 := by decide +kernel
theorem ty_LI_ok : ∀ k, k < 6 → parseFieldDescriptor (T_LI k).2.2.1 = some (ty_LI k) := by decide +kernel
def R_LE : String := "ExploreShares$Levels"
def T_LE : u_T := fun k => match k with
  | 0 => ("ExploreShares$Levels", "levelOf", "[I", true)
  | 1 => ("ExploreShares$Levels", "order", "[I", true)
  | 2 => ("ExploreShares$Levels", "begin", "[I", true)
  | 3 => ("ExploreShares$Levels", "levels", "I", false)
  | _ => ("ExploreShares$Levels", "found", "[Z", true)
def ty_LE : Nat → FieldType := fun k => match k with
  | 0 => (.array .int)
  | 1 => (.array .int)
  | 2 => (.array .int)
  | 3 => .int
  | _ => (.array .boolean)
theorem nm_LE : ∀ a, a < 5 → ∀ b, b < 5 → a ≠ b → (T_LE a).2.1 ≠ (T_LE b).2.1 := by decide +kernel
theorem ty_LE_ok : ∀ k, k < 5 → parseFieldDescriptor (T_LE k).2.2.1 = some (ty_LE k) := by decide +kernel
def R_WA : String := "ExploreShares$Ways"
def T_WA : u_T := fun k => match k with
  | _ => ("ExploreShares$Ways", "leads", "[Z", true)
def ty_WA : Nat → FieldType := fun k => match k with
  | _ => (.array .boolean)
theorem nm_WA : ∀ a, a < 1 → ∀ b, b < 1 → a ≠ b → (T_WA a).2.1 ≠ (T_WA b).2.1 := by decide +kernel
theorem ty_WA_ok : ∀ k, k < 1 → parseFieldDescriptor (T_WA k).2.2.1 = some (ty_WA k) := by decide +kernel
def R_SE : String := "ExploreShares$Search"
def T_SE : u_T := fun k => match k with
  | 0 => ("ExploreShares$Search", "net", "LExploreShares$Net;", true)
  | 1 => ("ExploreShares$Search", "plan", "LExploreShares$FailPlan;", true)
  | 2 => ("ExploreShares$Search", "crew", "LExploreShares$Crew;", true)
  | 3 => ("ExploreShares$Search", "queues", "LExploreShares$Queues;", true)
  | 4 => ("ExploreShares$Search", "lists", "LExploreShares$Lists;", true)
  | 5 => ("ExploreShares$Search", "levels", "LExploreShares$Levels;", true)
  | 6 => ("ExploreShares$Search", "log", "LExploreShares$FailLog;", true)
  | 7 => ("ExploreShares$Search", "ways", "LExploreShares$Ways;", true)
  | 8 => ("ExploreShares$Search", "looks", "[I", true)
  | 9 => ("ExploreShares$Search", "busy", "[I", true)
  | _ => ("ExploreShares$Search", "x", "I", false)
def ty_SE : Nat → FieldType := fun k => match k with
  | 0 => (.object "ExploreShares$Net")
  | 1 => (.object "ExploreShares$FailPlan")
  | 2 => (.object "ExploreShares$Crew")
  | 3 => (.object "ExploreShares$Queues")
  | 4 => (.object "ExploreShares$Lists")
  | 5 => (.object "ExploreShares$Levels")
  | 6 => (.object "ExploreShares$FailLog")
  | 7 => (.object "ExploreShares$Ways")
  | 8 => (.array .int)
  | 9 => (.array .int)
  | _ => .int
theorem nm_SE : ∀ a, a < 11 → ∀ b, b < 11 → a ≠ b → (T_SE a).2.1 ≠ (T_SE b).2.1 := by decide +kernel
theorem ty_SE_ok : ∀ k, k < 11 → parseFieldDescriptor (T_SE k).2.2.1 = some (ty_SE k) := by decide +kernel
def R_MO : String := "ExploreSharesModel"
def T_MO : u_T := fun k => match k with
  | 0 => ("ExploreSharesModel", "thrown", "I", false)
  | 1 => ("ExploreSharesModel", "workers", "I", true)
  | 2 => ("ExploreSharesModel", "room", "I", true)
  | 3 => ("ExploreSharesModel", "states", "I", false)
  | 4 => ("ExploreSharesModel", "moves", "I", false)
  | 5 => ("ExploreSharesModel", "told", "I", false)
  | 6 => ("ExploreSharesModel", "from", "[I", true)
  | 7 => ("ExploreSharesModel", "to", "[I", true)
  | 8 => ("ExploreSharesModel", "failWorker", "[I", true)
  | 9 => ("ExploreSharesModel", "failLevel", "[I", true)
  | 10 => ("ExploreSharesModel", "failTurn", "[I", true)
  | 11 => ("ExploreSharesModel", "wasRun", "Z", false)
  | 12 => ("ExploreSharesModel", "x", "I", false)
  | 13 => ("ExploreSharesModel", "level", "I", false)
  | 14 => ("ExploreSharesModel", "levels", "I", false)
  | 15 => ("ExploreSharesModel", "turns", "I", false)
  | 16 => ("ExploreSharesModel", "most", "I", false)
  | 17 => ("ExploreSharesModel", "failings", "I", false)
  | 18 => ("ExploreSharesModel", "levelOf", "[I", true)
  | 19 => ("ExploreSharesModel", "times", "[I", true)
  | 20 => ("ExploreSharesModel", "sizes", "[I", true)
  | 21 => ("ExploreSharesModel", "isNext", "[Z", true)
  | 22 => ("ExploreSharesModel", "isLive", "[Z", true)
  | 23 => ("ExploreSharesModel", "isLooked", "[Z", true)
  | 24 => ("ExploreSharesModel", "turnsOf", "[I", true)
  | 25 => ("ExploreSharesModel", "takenOf", "[I", true)
  | 26 => ("ExploreSharesModel", "stallsOf", "[I", true)
  | 27 => ("ExploreSharesModel", "here", "[I", true)
  | 28 => ("ExploreSharesModel", "stands", "[I", true)
  | 29 => ("ExploreSharesModel", "nextMove", "[I", true)
  | 30 => ("ExploreSharesModel", "queued", "[I", true)
  | 31 => ("ExploreSharesModel", "queue", "[I", true)
  | 32 => ("ExploreSharesModel", "failedWorker", "[I", true)
  | 33 => ("ExploreSharesModel", "failedLevel", "[I", true)
  | 34 => ("ExploreSharesModel", "failedTurns", "[I", true)
  | _ => ("ExploreSharesModel", "can", "[Z", true)
def ty_MO : Nat → FieldType := fun k => match k with
  | 0 => .int
  | 1 => .int
  | 2 => .int
  | 3 => .int
  | 4 => .int
  | 5 => .int
  | 6 => (.array .int)
  | 7 => (.array .int)
  | 8 => (.array .int)
  | 9 => (.array .int)
  | 10 => (.array .int)
  | 11 => .boolean
  | 12 => .int
  | 13 => .int
  | 14 => .int
  | 15 => .int
  | 16 => .int
  | 17 => .int
  | 18 => (.array .int)
  | 19 => (.array .int)
  | 20 => (.array .int)
  | 21 => (.array .boolean)
  | 22 => (.array .boolean)
  | 23 => (.array .boolean)
  | 24 => (.array .int)
  | 25 => (.array .int)
  | 26 => (.array .int)
  | 27 => (.array .int)
  | 28 => (.array .int)
  | 29 => (.array .int)
  | 30 => (.array .int)
  | 31 => (.array .int)
  | 32 => (.array .int)
  | 33 => (.array .int)
  | 34 => (.array .int)
  | _ => (.array .boolean)
theorem nm_MO : ∀ a, a < 36 → ∀ b, b < 36 → a ≠ b → (T_MO a).2.1 ≠ (T_MO b).2.1 := by decide +kernel
theorem ty_MO_ok : ∀ k, k < 36 → parseFieldDescriptor (T_MO k).2.2.1 = some (ty_MO k) := by decide +kernel
abbrev vwCl : List vw_C := [(R_X, T_X, 4), (R_NET, T_NET, 4), (R_FP, T_FP, 4), (R_FL, T_FL, 4), (R_CR, T_CR, 8), (R_QU, T_QU, 5), (R_LI, T_LI, 6), (R_LE, T_LE, 5), (R_WA, T_WA, 1), (R_SE, T_SE, 11), (R_MO, T_MO, 36)]
abbrev xs_tys (cI cB cL : ClassId) : List (ClassId × FieldType) := [(cI, .int), (cB, .boolean), (cL, .long)]
end
section
/-- the tables' words that every state of the run keeps -/
def xU : List Cond := lw_tbl.filter goodWord
theorem xU_of {w : Cond} (i : Nat) (h : lw_tbl[i]? = some w) (hg : goodWord w = true) : w ∈ xU := List.mem_filter.mpr ⟨List.mem_of_getElem? h, hg⟩
theorem xU_all (ws : List Cond) (ps : List Nat) (hp : ws = ps.filterMap (fun i => lw_tbl[i]?)) (h : ws.all goodWord = true) : ∀ w ∈ ws, w ∈ xU := by
  intro w hw
  have h1 := List.all_eq_true.mp h w hw
  rw [hp] at hw
  obtain ⟨i, -, hi⟩ := List.mem_filterMap.mp hw
  exact xU_of i hi h1
theorem xU_good {w : Cond} (h : w ∈ xU) : (w.onTables && w.keeps) = true ∨ ∃ ty, w = .arrayClass ty := good_of_word (List.mem_filter.mp h).2
theorem xs_good {y : MethodName} {b : ByteArray} {n : Nat} {r : Option FieldType} (hc : Cond.code y b n r ∈ xU) : GoodIn xU (Cond.code y b n r :: xU) := fun w h => by
  rcases List.mem_cons.mp h with e | h
  · rw [e]; exact ⟨hc, xU_good hc⟩
  · exact ⟨h, xU_good h⟩
theorem xs_goodV {own C : String} {idx : Nat} {y : MethodName} {b : ByteArray} {n : Nat} {r : Option FieldType} (h1 : Cond.methodLink own idx y ∈ xU) (h2 : Cond.instanceMethod y ∈ xU) (h3 : Cond.selects C y y ∈ xU) (h4 : Cond.initialized C ∈ xU) (hc : Cond.code y b n r ∈ xU) : GoodIn xU (wsV own idx C y (Cond.code y b n r :: xU)) := fun w h => by
  unfold wsV at h
  rcases List.mem_append.mp h with h | h
  · simp only [List.mem_cons, List.not_mem_nil, or_false] at h
    rcases h with e | e | e | e <;> rw [e]
    · exact ⟨h1, xU_good h1⟩
    · exact ⟨h2, xU_good h2⟩
    · exact ⟨h3, xU_good h3⟩
    · exact ⟨h4, xU_good h4⟩
  · exact xs_good hc w h
theorem xs_goodS {own : String} {idx : Nat} {y : MethodName} {b : ByteArray} {n : Nat} {r : Option FieldType} (h1 : Cond.methodLink own idx y ∈ xU) (h2 : Cond.static y ∈ xU) (h4 : Cond.initialized y.cls ∈ xU) (hc : Cond.code y b n r ∈ xU) : GoodIn xU (va_wsS own idx y (Cond.code y b n r :: xU)) := fun w h => by
  unfold va_wsS at h
  rcases List.mem_append.mp h with h | h
  · simp only [List.mem_cons, List.not_mem_nil, or_false] at h
    rcases h with e | e | e <;> rw [e]
    · exact ⟨h1, xU_good h1⟩
    · exact ⟨h2, xU_good h2⟩
    · exact ⟨h4, xU_good h4⟩
  · exact xs_good hc w h
/-- words of nest mates, of casts, of declarations: kept too, but not by the same rule -/
def xs_nk : Cond → Bool
  | .fieldLinkNest _ _ _ _ _ _ => true
  | .methodLinkNest _ _ _ _ => true
  | .declares _ => true
  | .castable _ _ => true
  | .arrayOver (.array _) => true
  | _ => false
def xs_NW : List Cond := lw_tbl.filter xs_nk
theorem xs_NW_of {w : Cond} (i : Nat) (h : lw_tbl[i]? = some w) (hg : xs_nk w = true) : w ∈ xs_NW := List.mem_filter.mpr ⟨List.mem_of_getElem? h, hg⟩
def xs_N (U : State) : Prop := ∀ w ∈ xs_NW, va_Nw w U
theorem xs_nk_warm {w : Cond} (hk : xs_nk w = true) {s U : State} (hW : s.WarmedH U.vm) (h : va_Nw w s) : va_Nw w U := by
  cases w with
  | fieldLinkNest => exact va_Nw.warmF hW h
  | methodLinkNest => exact va_Nw.warmM hW h
  | declares => exact va_Nw.warmD hW h
  | castable => exact va_Nw.warmC hW h
  | arrayOver t =>
    cases t with
    | array t => exact Jvm.Stand.arrayOver_alikeB (args' := #[]) hW.alike h
    | _ => exact Bool.noConfusion hk
  | _ => exact Bool.noConfusion hk
theorem xs_N.warm {s U : State} (hW : s.WarmedH U.vm) (h : xs_N s) : xs_N U := fun w hw => xs_nk_warm (List.mem_filter.mp hw).2 hW (h w hw)
theorem iw_X : ∀ w ∈ u_ws R_X T_X 4, w ∈ xU := xU_all _ [341, 343, 345, 347] (by decide +kernel) (by decide +kernel)
theorem iw_NET : ∀ w ∈ u_ws R_NET T_NET 4, w ∈ xU := xU_all _ [85, 87, 89, 91] (by decide +kernel) (by decide +kernel)
theorem iw_FP : ∀ w ∈ u_ws R_FP T_FP 4, w ∈ xU := xU_all _ [106, 108, 110, 112] (by decide +kernel) (by decide +kernel)
theorem iw_FL : ∀ w ∈ u_ws R_FL T_FL 4, w ∈ xU := xU_all _ [195, 197, 199, 201] (by decide +kernel) (by decide +kernel)
theorem iw_CR : ∀ w ∈ u_ws R_CR T_CR 8, w ∈ xU := xU_all _ [252, 254, 256, 258, 260, 262, 264, 266] (by decide +kernel) (by decide +kernel)
theorem iw_QU : ∀ w ∈ u_ws R_QU T_QU 5, w ∈ xU := xU_all _ [284, 286, 288, 290, 292] (by decide +kernel) (by decide +kernel)
theorem iw_LI : ∀ w ∈ u_ws R_LI T_LI 6, w ∈ xU := xU_all _ [132, 134, 136, 138, 140, 142] (by decide +kernel) (by decide +kernel)
theorem iw_LE : ∀ w ∈ u_ws R_LE T_LE 5, w ∈ xU := xU_all _ [169, 171, 173, 175, 177] (by decide +kernel) (by decide +kernel)
theorem iw_WA : ∀ w ∈ u_ws R_WA T_WA 1, w ∈ xU := xU_all _ [211] (by decide +kernel) (by decide +kernel)
theorem iw_SE : ∀ w ∈ u_ws R_SE T_SE 11, w ∈ xU := xU_all _ [314, 316, 318, 320, 322, 324, 326, 328, 330, 332, 334] (by decide +kernel) (by decide +kernel)
theorem iw_MO : ∀ w ∈ u_ws R_MO T_MO 36, w ∈ xU := xU_all _ [789, 791, 793, 795, 797, 799, 801, 803, 805, 807, 809, 811, 813, 815, 817, 819, 821, 823, 825, 827, 829, 831, 833, 835, 837, 839, 841, 843, 845, 847, 849, 851, 853, 855, 857, 859] (by decide +kernel) (by decide +kernel)
theorem uw_m13 : Cond.selects "ExploreSharesModel" ({ cls := "ExploreSharesModel", name := "throwing", desc := "(ZZZ)Z" } : MethodName) ({ cls := "ExploreSharesModel", name := "throwing", desc := "(ZZZ)Z" } : MethodName) ∈ xU := xU_of 12 (by decide +kernel) (by decide +kernel)
theorem uw_m12 : Cond.selects "ExploreSharesModel" ({ cls := "ExploreSharesModel", name := "forget", desc := "()V" } : MethodName) ({ cls := "ExploreSharesModel", name := "forget", desc := "()V" } : MethodName) ∈ xU := xU_of 11 (by decide +kernel) (by decide +kernel)
theorem uw_1 : (Cond.initialized "ExploreShares") ∈ xU := xU_of 31 (by decide +kernel) (by decide +kernel)
theorem uw_2 : (Cond.initialized "ExploreShares$Search") ∈ xU := xU_of 32 (by decide +kernel) (by decide +kernel)
theorem uw_3 : (Cond.initialized "java/lang/Math") ∈ xU := xU_of 33 (by decide +kernel) (by decide +kernel)
theorem uw_4 : (Cond.initialized "ExploreShares$Net") ∈ xU := xU_of 34 (by decide +kernel) (by decide +kernel)
theorem uw_5 : (Cond.initialized "ExploreShares$FailPlan") ∈ xU := xU_of 35 (by decide +kernel) (by decide +kernel)
theorem uw_6 : (Cond.initialized "ExploreShares$Lists") ∈ xU := xU_of 36 (by decide +kernel) (by decide +kernel)
theorem uw_7 : (Cond.initialized "ExploreShares$Levels") ∈ xU := xU_of 37 (by decide +kernel) (by decide +kernel)
theorem uw_8 : (Cond.initialized "java/util/Arrays") ∈ xU := xU_of 38 (by decide +kernel) (by decide +kernel)
theorem uw_9 : (Cond.initialized "ExploreShares$FailLog") ∈ xU := xU_of 39 (by decide +kernel) (by decide +kernel)
theorem uw_10 : (Cond.initialized "ExploreShares$Ways") ∈ xU := xU_of 40 (by decide +kernel) (by decide +kernel)
theorem uw_11 : (Cond.initialized "ExploreShares$Crew") ∈ xU := xU_of 41 (by decide +kernel) (by decide +kernel)
theorem uw_12 : (Cond.initialized "ExploreShares$Queues") ∈ xU := xU_of 42 (by decide +kernel) (by decide +kernel)
theorem uw_13 : (Cond.initialized "ExploreSharesModel") ∈ xU := xU_of 43 (by decide +kernel) (by decide +kernel)
theorem uw_26 : (Cond.methodLink "ExploreShares" (1 : Nat) ({ cls := "java/lang/Object", name := "<init>", desc := "()V" } : MethodName)) ∈ xU := xU_of 56 (by decide +kernel) (by decide +kernel)
theorem uw_27 : (Cond.instanceMethod ({ cls := "java/lang/Object", name := "<init>", desc := "()V" } : MethodName)) ∈ xU := xU_of 57 (by decide +kernel) (by decide +kernel)
theorem uw_28 : (Cond.code ({ cls := "java/lang/Object", name := "<init>", desc := "()V" } : MethodName) object_method_1_code (1 : Nat) (none : Option Jvm.ClassFile.FieldType)) ∈ xU := xU_of 58 (by decide +kernel) (by decide +kernel)
theorem uw_29 : (Cond.classLink "ExploreShares" (7 : Nat) "ExploreShares$Search") ∈ xU := xU_of 59 (by decide +kernel) (by decide +kernel)
theorem uw_30 : (Cond.instantiable "ExploreShares$Search" (11 : Nat)) ∈ xU := xU_of 60 (by decide +kernel) (by decide +kernel)
theorem uw_31 : (Cond.methodLink "ExploreShares" (11 : Nat) ({ cls := "java/lang/Math", name := "floorMod", desc := "(II)I" } : MethodName)) ∈ xU := xU_of 61 (by decide +kernel) (by decide +kernel)
theorem uw_32 : (Cond.static ({ cls := "java/lang/Math", name := "floorMod", desc := "(II)I" } : MethodName)) ∈ xU := xU_of 62 (by decide +kernel) (by decide +kernel)
theorem uw_33 : (Cond.code ({ cls := "java/lang/Math", name := "floorMod", desc := "(II)I" } : MethodName) prog_17_method_50_code (3 : Nat) (some .int)) ∈ xU := xU_of 63 (by decide +kernel) (by decide +kernel)
theorem uw_34 : (Cond.methodLink "ExploreShares" (17 : Nat) ({ cls := "ExploreShares$Search", name := "<init>", desc := "(II)V" } : MethodName)) ∈ xU := xU_of 64 (by decide +kernel) (by decide +kernel)
theorem uw_35 : (Cond.instanceMethod ({ cls := "ExploreShares$Search", name := "<init>", desc := "(II)V" } : MethodName)) ∈ xU := xU_of 65 (by decide +kernel) (by decide +kernel)
theorem uw_36 : (Cond.code ({ cls := "ExploreShares$Search", name := "<init>", desc := "(II)V" } : MethodName) prog_9_method_1_code (3 : Nat) (none : Option Jvm.ClassFile.FieldType)) ∈ xU := xU_of 66 (by decide +kernel) (by decide +kernel)
theorem uw_37 : (Cond.methodLink "ExploreShares$Search" (3 : Nat) ({ cls := "java/lang/Object", name := "<init>", desc := "()V" } : MethodName)) ∈ xU := xU_of 67 (by decide +kernel) (by decide +kernel)
theorem uw_38 : (Cond.classLink "ExploreShares$Search" (9 : Nat) "ExploreShares$Net") ∈ xU := xU_of 68 (by decide +kernel) (by decide +kernel)
theorem uw_39 : (Cond.instantiable "ExploreShares$Net" (4 : Nat)) ∈ xU := xU_of 69 (by decide +kernel) (by decide +kernel)
theorem uw_41 : (Cond.instanceMethod ({ cls := "ExploreShares$Net", name := "<init>", desc := "()V" } : MethodName)) ∈ xU := xU_of 71 (by decide +kernel) (by decide +kernel)
theorem uw_42 : (Cond.code ({ cls := "ExploreShares$Net", name := "<init>", desc := "()V" } : MethodName) prog_7_method_1_code (1 : Nat) (none : Option Jvm.ClassFile.FieldType)) ∈ xU := xU_of 72 (by decide +kernel) (by decide +kernel)
theorem uw_43 : (Cond.methodLink "ExploreShares$Net" (3 : Nat) ({ cls := "java/lang/Object", name := "<init>", desc := "()V" } : MethodName)) ∈ xU := xU_of 73 (by decide +kernel) (by decide +kernel)
theorem uw_45 : (Cond.fieldLink "ExploreShares$Net" (18 : Nat) "ExploreShares$Net" "states" "I") ∈ xU := xU_of 75 (by decide +kernel) (by decide +kernel)
theorem uw_49 : (Cond.fieldLink "ExploreShares$Net" (9 : Nat) "ExploreShares$Net" "begin" "[I") ∈ xU := xU_of 79 (by decide +kernel) (by decide +kernel)
theorem uw_52 : (Cond.fieldLink "ExploreShares$Net" (15 : Nat) "ExploreShares$Net" "target" "[I") ∈ xU := xU_of 82 (by decide +kernel) (by decide +kernel)
theorem uw_64 : (Cond.arrayClass .int) ∈ xU := xU_of 94 (by decide +kernel) (by decide +kernel)
theorem uw_65 : (Cond.classLink "ExploreShares$Search" (18 : Nat) "ExploreShares$FailPlan") ∈ xU := xU_of 95 (by decide +kernel) (by decide +kernel)
theorem uw_66 : (Cond.instantiable "ExploreShares$FailPlan" (4 : Nat)) ∈ xU := xU_of 96 (by decide +kernel) (by decide +kernel)
theorem uw_68 : (Cond.instanceMethod ({ cls := "ExploreShares$FailPlan", name := "<init>", desc := "()V" } : MethodName)) ∈ xU := xU_of 98 (by decide +kernel) (by decide +kernel)
theorem uw_69 : (Cond.code ({ cls := "ExploreShares$FailPlan", name := "<init>", desc := "()V" } : MethodName) prog_4_method_1_code (1 : Nat) (none : Option Jvm.ClassFile.FieldType)) ∈ xU := xU_of 99 (by decide +kernel) (by decide +kernel)
theorem uw_70 : (Cond.methodLink "ExploreShares$FailPlan" (3 : Nat) ({ cls := "java/lang/Object", name := "<init>", desc := "()V" } : MethodName)) ∈ xU := xU_of 100 (by decide +kernel) (by decide +kernel)
theorem uw_71 : (Cond.fieldLink "ExploreShares$FailPlan" (9 : Nat) "ExploreShares$FailPlan" "worker" "[I") ∈ xU := xU_of 101 (by decide +kernel) (by decide +kernel)
theorem uw_72 : (Cond.fieldLink "ExploreShares$FailPlan" (15 : Nat) "ExploreShares$FailPlan" "level" "[I") ∈ xU := xU_of 102 (by decide +kernel) (by decide +kernel)
theorem uw_73 : (Cond.fieldLink "ExploreShares$FailPlan" (18 : Nat) "ExploreShares$FailPlan" "turn" "[I") ∈ xU := xU_of 103 (by decide +kernel) (by decide +kernel)
theorem uw_74 : (Cond.fieldLink "ExploreShares$FailPlan" (21 : Nat) "ExploreShares$FailPlan" "told" "I") ∈ xU := xU_of 104 (by decide +kernel) (by decide +kernel)
theorem uw_85 : (Cond.classLink "ExploreShares$Search" (25 : Nat) "ExploreShares$Lists") ∈ xU := xU_of 115 (by decide +kernel) (by decide +kernel)
theorem uw_86 : (Cond.instantiable "ExploreShares$Lists" (6 : Nat)) ∈ xU := xU_of 116 (by decide +kernel) (by decide +kernel)
theorem uw_88 : (Cond.instanceMethod ({ cls := "ExploreShares$Lists", name := "<init>", desc := "()V" } : MethodName)) ∈ xU := xU_of 118 (by decide +kernel) (by decide +kernel)
theorem uw_89 : (Cond.code ({ cls := "ExploreShares$Lists", name := "<init>", desc := "()V" } : MethodName) prog_6_method_1_code (1 : Nat) (none : Option Jvm.ClassFile.FieldType)) ∈ xU := xU_of 119 (by decide +kernel) (by decide +kernel)
theorem uw_90 : (Cond.methodLink "ExploreShares$Lists" (3 : Nat) ({ cls := "java/lang/Object", name := "<init>", desc := "()V" } : MethodName)) ∈ xU := xU_of 120 (by decide +kernel) (by decide +kernel)
theorem uw_91 : (Cond.classLink "ExploreShares$Lists" (9 : Nat) "[[I") ∈ xU := xU_of 121 (by decide +kernel) (by decide +kernel)
theorem uw_93 : (Cond.fieldLink "ExploreShares$Lists" (11 : Nat) "ExploreShares$Lists" "list" "[[I") ∈ xU := xU_of 123 (by decide +kernel) (by decide +kernel)
theorem uw_94 : (Cond.fieldLink "ExploreShares$Lists" (16 : Nat) "ExploreShares$Lists" "listed" "[I") ∈ xU := xU_of 124 (by decide +kernel) (by decide +kernel)
theorem uw_95 : (Cond.fieldLink "ExploreShares$Lists" (20 : Nat) "ExploreShares$Lists" "at" "[I") ∈ xU := xU_of 125 (by decide +kernel) (by decide +kernel)
theorem uw_96 : (Cond.fieldLink "ExploreShares$Lists" (23 : Nat) "ExploreShares$Lists" "movesDone" "[I") ∈ xU := xU_of 126 (by decide +kernel) (by decide +kernel)
theorem uw_98 : (Cond.fieldLink "ExploreShares$Lists" (26 : Nat) "ExploreShares$Lists" "lookedAt" "[Z") ∈ xU := xU_of 128 (by decide +kernel) (by decide +kernel)
theorem uw_100 : (Cond.fieldLink "ExploreShares$Lists" (30 : Nat) "ExploreShares$Lists" "turns" "[I") ∈ xU := xU_of 130 (by decide +kernel) (by decide +kernel)
theorem uw_115 : (Cond.arrayClass .boolean) ∈ xU := xU_of 145 (by decide +kernel) (by decide +kernel)
theorem uw_116 : (Cond.classLink "ExploreShares$Search" (32 : Nat) "ExploreShares$Levels") ∈ xU := xU_of 146 (by decide +kernel) (by decide +kernel)
theorem uw_117 : (Cond.instantiable "ExploreShares$Levels" (5 : Nat)) ∈ xU := xU_of 147 (by decide +kernel) (by decide +kernel)
theorem uw_118 : (Cond.methodLink "ExploreShares$Search" (34 : Nat) ({ cls := "ExploreShares$Levels", name := "<init>", desc := "()V" } : MethodName)) ∈ xU := xU_of 148 (by decide +kernel) (by decide +kernel)
theorem uw_119 : (Cond.instanceMethod ({ cls := "ExploreShares$Levels", name := "<init>", desc := "()V" } : MethodName)) ∈ xU := xU_of 149 (by decide +kernel) (by decide +kernel)
theorem uw_120 : (Cond.code ({ cls := "ExploreShares$Levels", name := "<init>", desc := "()V" } : MethodName) prog_5_method_1_code (1 : Nat) (none : Option Jvm.ClassFile.FieldType)) ∈ xU := xU_of 150 (by decide +kernel) (by decide +kernel)
theorem uw_121 : (Cond.methodLink "ExploreShares$Levels" (3 : Nat) ({ cls := "java/lang/Object", name := "<init>", desc := "()V" } : MethodName)) ∈ xU := xU_of 151 (by decide +kernel) (by decide +kernel)
theorem uw_122 : (Cond.methodLink "ExploreShares$Levels" (25 : Nat) ({ cls := "java/util/Arrays", name := "fill", desc := "([II)V" } : MethodName)) ∈ xU := xU_of 152 (by decide +kernel) (by decide +kernel)
theorem uw_123 : (Cond.static ({ cls := "java/util/Arrays", name := "fill", desc := "([II)V" } : MethodName)) ∈ xU := xU_of 153 (by decide +kernel) (by decide +kernel)
theorem uw_124 : (Cond.code ({ cls := "java/util/Arrays", name := "fill", desc := "([II)V" } : MethodName) prog_22_method_103_code (4 : Nat) (none : Option Jvm.ClassFile.FieldType)) ∈ xU := xU_of 154 (by decide +kernel) (by decide +kernel)
theorem uw_125 : (Cond.fieldLink "ExploreShares$Levels" (9 : Nat) "ExploreShares$Levels" "levelOf" "[I") ∈ xU := xU_of 155 (by decide +kernel) (by decide +kernel)
theorem uw_128 : (Cond.fieldLink "ExploreShares$Levels" (15 : Nat) "ExploreShares$Levels" "order" "[I") ∈ xU := xU_of 158 (by decide +kernel) (by decide +kernel)
theorem uw_131 : (Cond.fieldLink "ExploreShares$Levels" (18 : Nat) "ExploreShares$Levels" "begin" "[I") ∈ xU := xU_of 161 (by decide +kernel) (by decide +kernel)
theorem uw_135 : (Cond.fieldLink "ExploreShares$Levels" (31 : Nat) "ExploreShares$Levels" "levels" "I") ∈ xU := xU_of 165 (by decide +kernel) (by decide +kernel)
theorem uw_138 : (Cond.fieldLink "ExploreShares$Levels" (21 : Nat) "ExploreShares$Levels" "found" "[Z") ∈ xU := xU_of 168 (by decide +kernel) (by decide +kernel)
theorem uw_150 : (Cond.classLink "ExploreShares$Search" (39 : Nat) "ExploreShares$FailLog") ∈ xU := xU_of 180 (by decide +kernel) (by decide +kernel)
theorem uw_151 : (Cond.instantiable "ExploreShares$FailLog" (4 : Nat)) ∈ xU := xU_of 181 (by decide +kernel) (by decide +kernel)
theorem uw_153 : (Cond.instanceMethod ({ cls := "ExploreShares$FailLog", name := "<init>", desc := "()V" } : MethodName)) ∈ xU := xU_of 183 (by decide +kernel) (by decide +kernel)
theorem uw_154 : (Cond.code ({ cls := "ExploreShares$FailLog", name := "<init>", desc := "()V" } : MethodName) prog_3_method_1_code (1 : Nat) (none : Option Jvm.ClassFile.FieldType)) ∈ xU := xU_of 184 (by decide +kernel) (by decide +kernel)
theorem uw_155 : (Cond.methodLink "ExploreShares$FailLog" (3 : Nat) ({ cls := "java/lang/Object", name := "<init>", desc := "()V" } : MethodName)) ∈ xU := xU_of 185 (by decide +kernel) (by decide +kernel)
theorem uw_156 : (Cond.fieldLink "ExploreShares$FailLog" (9 : Nat) "ExploreShares$FailLog" "worker" "[I") ∈ xU := xU_of 186 (by decide +kernel) (by decide +kernel)
theorem uw_158 : (Cond.fieldLink "ExploreShares$FailLog" (15 : Nat) "ExploreShares$FailLog" "level" "[I") ∈ xU := xU_of 188 (by decide +kernel) (by decide +kernel)
theorem uw_160 : (Cond.fieldLink "ExploreShares$FailLog" (18 : Nat) "ExploreShares$FailLog" "turnsBefore" "[I") ∈ xU := xU_of 190 (by decide +kernel) (by decide +kernel)
theorem uw_174 : (Cond.classLink "ExploreShares$Search" (46 : Nat) "ExploreShares$Ways") ∈ xU := xU_of 204 (by decide +kernel) (by decide +kernel)
theorem uw_175 : (Cond.instantiable "ExploreShares$Ways" (1 : Nat)) ∈ xU := xU_of 205 (by decide +kernel) (by decide +kernel)
theorem uw_177 : (Cond.instanceMethod ({ cls := "ExploreShares$Ways", name := "<init>", desc := "()V" } : MethodName)) ∈ xU := xU_of 207 (by decide +kernel) (by decide +kernel)
theorem uw_178 : (Cond.code ({ cls := "ExploreShares$Ways", name := "<init>", desc := "()V" } : MethodName) prog_10_method_1_code (1 : Nat) (none : Option Jvm.ClassFile.FieldType)) ∈ xU := xU_of 208 (by decide +kernel) (by decide +kernel)
theorem uw_179 : (Cond.methodLink "ExploreShares$Ways" (3 : Nat) ({ cls := "java/lang/Object", name := "<init>", desc := "()V" } : MethodName)) ∈ xU := xU_of 209 (by decide +kernel) (by decide +kernel)
theorem uw_180 : (Cond.fieldLink "ExploreShares$Ways" (9 : Nat) "ExploreShares$Ways" "leads" "[Z") ∈ xU := xU_of 210 (by decide +kernel) (by decide +kernel)
theorem uw_184 : (Cond.classLink "ExploreShares$Search" (60 : Nat) "ExploreShares$Crew") ∈ xU := xU_of 214 (by decide +kernel) (by decide +kernel)
theorem uw_185 : (Cond.instantiable "ExploreShares$Crew" (8 : Nat)) ∈ xU := xU_of 215 (by decide +kernel) (by decide +kernel)
theorem uw_186 : (Cond.methodLink "ExploreShares$Search" (62 : Nat) ({ cls := "ExploreShares$Crew", name := "<init>", desc := "(I)V" } : MethodName)) ∈ xU := xU_of 216 (by decide +kernel) (by decide +kernel)
theorem uw_187 : (Cond.instanceMethod ({ cls := "ExploreShares$Crew", name := "<init>", desc := "(I)V" } : MethodName)) ∈ xU := xU_of 217 (by decide +kernel) (by decide +kernel)
theorem uw_188 : (Cond.code ({ cls := "ExploreShares$Crew", name := "<init>", desc := "(I)V" } : MethodName) prog_2_method_1_code (3 : Nat) (none : Option Jvm.ClassFile.FieldType)) ∈ xU := xU_of 218 (by decide +kernel) (by decide +kernel)
theorem uw_189 : (Cond.methodLink "ExploreShares$Crew" (3 : Nat) ({ cls := "java/lang/Object", name := "<init>", desc := "()V" } : MethodName)) ∈ xU := xU_of 219 (by decide +kernel) (by decide +kernel)
theorem uw_191 : (Cond.static ({ cls := "ExploreShares", name := "fillFlags", desc := "([ZZ)V" } : MethodName)) ∈ xU := xU_of 221 (by decide +kernel) (by decide +kernel)
theorem uw_192 : (Cond.code ({ cls := "ExploreShares", name := "fillFlags", desc := "([ZZ)V" } : MethodName) prog_1_method_16_code (3 : Nat) (none : Option Jvm.ClassFile.FieldType)) ∈ xU := xU_of 222 (by decide +kernel) (by decide +kernel)
theorem uw_194 : (Cond.static ({ cls := "ExploreShares", name := "numberBehind", desc := "(I)I" } : MethodName)) ∈ xU := xU_of 224 (by decide +kernel) (by decide +kernel)
theorem uw_195 : (Cond.code ({ cls := "ExploreShares", name := "numberBehind", desc := "(I)I" } : MethodName) prog_1_method_14_code (1 : Nat) (some .int)) ∈ xU := xU_of 225 (by decide +kernel) (by decide +kernel)
theorem uw_196 : (Cond.constant "ExploreShares" (209 : Nat) (1103515245 : Int32)) ∈ xU := xU_of 226 (by decide +kernel) (by decide +kernel)
theorem uw_197 : (Cond.constant "ExploreShares" (210 : Nat) (2147483647 : Int32)) ∈ xU := xU_of 227 (by decide +kernel) (by decide +kernel)
theorem uw_199 : (Cond.static ({ cls := "ExploreShares", name := "oneOf", desc := "(II)I" } : MethodName)) ∈ xU := xU_of 229 (by decide +kernel) (by decide +kernel)
theorem uw_200 : (Cond.code ({ cls := "ExploreShares", name := "oneOf", desc := "(II)I" } : MethodName) prog_1_method_15_code (2 : Nat) (some .int)) ∈ xU := xU_of 230 (by decide +kernel) (by decide +kernel)
theorem uw_201 : (Cond.constant "ExploreShares" (211 : Nat) (65536 : Int32)) ∈ xU := xU_of 231 (by decide +kernel) (by decide +kernel)
theorem uw_202 : (Cond.fieldLink "ExploreShares$Crew" (28 : Nat) "ExploreShares$Crew" "workers" "I") ∈ xU := xU_of 232 (by decide +kernel) (by decide +kernel)
theorem uw_205 : (Cond.fieldLink "ExploreShares$Crew" (9 : Nat) "ExploreShares$Crew" "firstOwner" "[I") ∈ xU := xU_of 235 (by decide +kernel) (by decide +kernel)
theorem uw_206 : (Cond.fieldLink "ExploreShares$Crew" (15 : Nat) "ExploreShares$Crew" "live" "[Z") ∈ xU := xU_of 236 (by decide +kernel) (by decide +kernel)
theorem uw_208 : (Cond.fieldLink "ExploreShares$Crew" (19 : Nat) "ExploreShares$Crew" "turns" "[I") ∈ xU := xU_of 238 (by decide +kernel) (by decide +kernel)
theorem uw_210 : (Cond.fieldLink "ExploreShares$Crew" (22 : Nat) "ExploreShares$Crew" "taken" "[I") ∈ xU := xU_of 240 (by decide +kernel) (by decide +kernel)
theorem uw_213 : (Cond.fieldLink "ExploreShares$Crew" (25 : Nat) "ExploreShares$Crew" "stalls" "[I") ∈ xU := xU_of 243 (by decide +kernel) (by decide +kernel)
theorem uw_216 : (Cond.fieldLink "ExploreShares$Crew" (32 : Nat) "ExploreShares$Crew" "liveWorkers" "I") ∈ xU := xU_of 246 (by decide +kernel) (by decide +kernel)
theorem uw_219 : (Cond.fieldLink "ExploreShares$Crew" (53 : Nat) "ExploreShares$Crew" "allTurns" "I") ∈ xU := xU_of 249 (by decide +kernel) (by decide +kernel)
theorem uw_239 : (Cond.classLink "ExploreShares$Search" (69 : Nat) "ExploreShares$Queues") ∈ xU := xU_of 269 (by decide +kernel) (by decide +kernel)
theorem uw_240 : (Cond.instantiable "ExploreShares$Queues" (5 : Nat)) ∈ xU := xU_of 270 (by decide +kernel) (by decide +kernel)
theorem uw_241 : (Cond.methodLink "ExploreShares$Search" (71 : Nat) ({ cls := "ExploreShares$Queues", name := "<init>", desc := "(I)V" } : MethodName)) ∈ xU := xU_of 271 (by decide +kernel) (by decide +kernel)
theorem uw_242 : (Cond.instanceMethod ({ cls := "ExploreShares$Queues", name := "<init>", desc := "(I)V" } : MethodName)) ∈ xU := xU_of 272 (by decide +kernel) (by decide +kernel)
theorem uw_243 : (Cond.code ({ cls := "ExploreShares$Queues", name := "<init>", desc := "(I)V" } : MethodName) prog_8_method_1_code (2 : Nat) (none : Option Jvm.ClassFile.FieldType)) ∈ xU := xU_of 273 (by decide +kernel) (by decide +kernel)
theorem uw_244 : (Cond.methodLink "ExploreShares$Queues" (3 : Nat) ({ cls := "java/lang/Object", name := "<init>", desc := "()V" } : MethodName)) ∈ xU := xU_of 274 (by decide +kernel) (by decide +kernel)
theorem uw_245 : (Cond.classLink "ExploreShares$Queues" (9 : Nat) "[[I") ∈ xU := xU_of 275 (by decide +kernel) (by decide +kernel)
theorem uw_246 : (Cond.fieldLink "ExploreShares$Queues" (23 : Nat) "ExploreShares$Queues" "room" "I") ∈ xU := xU_of 276 (by decide +kernel) (by decide +kernel)
theorem uw_248 : (Cond.fieldLink "ExploreShares$Queues" (11 : Nat) "ExploreShares$Queues" "ring" "[[I") ∈ xU := xU_of 278 (by decide +kernel) (by decide +kernel)
theorem uw_249 : (Cond.fieldLink "ExploreShares$Queues" (16 : Nat) "ExploreShares$Queues" "first" "[I") ∈ xU := xU_of 279 (by decide +kernel) (by decide +kernel)
theorem uw_250 : (Cond.fieldLink "ExploreShares$Queues" (20 : Nat) "ExploreShares$Queues" "held" "[I") ∈ xU := xU_of 280 (by decide +kernel) (by decide +kernel)
theorem uw_265 : (Cond.fieldLink "ExploreShares$Search" (12 : Nat) "ExploreShares$Search" "net" "LExploreShares$Net;") ∈ xU := xU_of 295 (by decide +kernel) (by decide +kernel)
theorem uw_267 : (Cond.fieldLink "ExploreShares$Search" (21 : Nat) "ExploreShares$Search" "plan" "LExploreShares$FailPlan;") ∈ xU := xU_of 297 (by decide +kernel) (by decide +kernel)
theorem uw_270 : (Cond.fieldLink "ExploreShares$Search" (65 : Nat) "ExploreShares$Search" "crew" "LExploreShares$Crew;") ∈ xU := xU_of 300 (by decide +kernel) (by decide +kernel)
theorem uw_271 : (Cond.fieldLink "ExploreShares$Search" (72 : Nat) "ExploreShares$Search" "queues" "LExploreShares$Queues;") ∈ xU := xU_of 301 (by decide +kernel) (by decide +kernel)
theorem uw_273 : (Cond.fieldLink "ExploreShares$Search" (28 : Nat) "ExploreShares$Search" "lists" "LExploreShares$Lists;") ∈ xU := xU_of 303 (by decide +kernel) (by decide +kernel)
theorem uw_274 : (Cond.fieldLink "ExploreShares$Search" (35 : Nat) "ExploreShares$Search" "levels" "LExploreShares$Levels;") ∈ xU := xU_of 304 (by decide +kernel) (by decide +kernel)
theorem uw_276 : (Cond.fieldLink "ExploreShares$Search" (42 : Nat) "ExploreShares$Search" "log" "LExploreShares$FailLog;") ∈ xU := xU_of 306 (by decide +kernel) (by decide +kernel)
theorem uw_278 : (Cond.fieldLink "ExploreShares$Search" (49 : Nat) "ExploreShares$Search" "ways" "LExploreShares$Ways;") ∈ xU := xU_of 308 (by decide +kernel) (by decide +kernel)
theorem uw_280 : (Cond.fieldLink "ExploreShares$Search" (53 : Nat) "ExploreShares$Search" "looks" "[I") ∈ xU := xU_of 310 (by decide +kernel) (by decide +kernel)
theorem uw_282 : (Cond.fieldLink "ExploreShares$Search" (57 : Nat) "ExploreShares$Search" "busy" "[I") ∈ xU := xU_of 312 (by decide +kernel) (by decide +kernel)
theorem uw_307 : (Cond.fieldLink "ExploreShares" (20 : Nat) "ExploreShares" "search" "LExploreShares$Search;") ∈ xU := xU_of 337 (by decide +kernel) (by decide +kernel)
theorem uw_308 : (Cond.fieldLink "ExploreShares" (28 : Nat) "ExploreShares" "net" "LExploreShares$Net;") ∈ xU := xU_of 338 (by decide +kernel) (by decide +kernel)
theorem uw_309 : (Cond.fieldLink "ExploreShares" (33 : Nat) "ExploreShares" "plan" "LExploreShares$FailPlan;") ∈ xU := xU_of 339 (by decide +kernel) (by decide +kernel)
theorem uw_310 : (Cond.fieldLink "ExploreShares" (38 : Nat) "ExploreShares" "crew" "LExploreShares$Crew;") ∈ xU := xU_of 340 (by decide +kernel) (by decide +kernel)
theorem uw_325 : (Cond.instanceMethod ({ cls := "ExploreShares$Levels", name := "cameInAll", desc := "()I" } : MethodName)) ∈ xU := xU_of 355 (by decide +kernel) (by decide +kernel)
theorem uw_326 : (Cond.selects "ExploreShares$Levels" ({ cls := "ExploreShares$Levels", name := "cameInAll", desc := "()I" } : MethodName) ({ cls := "ExploreShares$Levels", name := "cameInAll", desc := "()I" } : MethodName)) ∈ xU := xU_of 356 (by decide +kernel) (by decide +kernel)
theorem uw_327 : (Cond.code ({ cls := "ExploreShares$Levels", name := "cameInAll", desc := "()I" } : MethodName) prog_5_method_4_code (1 : Nat) (some .int)) ∈ xU := xU_of 357 (by decide +kernel) (by decide +kernel)
theorem uw_412 : (Cond.methodLink "ExploreShares$Search" (76 : Nat) ({ cls := "ExploreShares$Crew", name := "startAnew", desc := "()V" } : MethodName)) ∈ xU := xU_of 442 (by decide +kernel) (by decide +kernel)
theorem uw_413 : (Cond.instanceMethod ({ cls := "ExploreShares$Crew", name := "startAnew", desc := "()V" } : MethodName)) ∈ xU := xU_of 443 (by decide +kernel) (by decide +kernel)
theorem uw_414 : (Cond.selects "ExploreShares$Crew" ({ cls := "ExploreShares$Crew", name := "startAnew", desc := "()V" } : MethodName) ({ cls := "ExploreShares$Crew", name := "startAnew", desc := "()V" } : MethodName)) ∈ xU := xU_of 444 (by decide +kernel) (by decide +kernel)
theorem uw_415 : (Cond.code ({ cls := "ExploreShares$Crew", name := "startAnew", desc := "()V" } : MethodName) prog_2_method_3_code (1 : Nat) (none : Option Jvm.ClassFile.FieldType)) ∈ xU := xU_of 445 (by decide +kernel) (by decide +kernel)
theorem uw_416 : (Cond.methodLink "ExploreShares$Crew" (47 : Nat) ({ cls := "java/util/Arrays", name := "fill", desc := "([II)V" } : MethodName)) ∈ xU := xU_of 446 (by decide +kernel) (by decide +kernel)
theorem uw_417 : (Cond.methodLink "ExploreShares$Search" (79 : Nat) ({ cls := "ExploreShares$Levels", name := "startAnew", desc := "()V" } : MethodName)) ∈ xU := xU_of 447 (by decide +kernel) (by decide +kernel)
theorem uw_418 : (Cond.instanceMethod ({ cls := "ExploreShares$Levels", name := "startAnew", desc := "()V" } : MethodName)) ∈ xU := xU_of 448 (by decide +kernel) (by decide +kernel)
theorem uw_419 : (Cond.selects "ExploreShares$Levels" ({ cls := "ExploreShares$Levels", name := "startAnew", desc := "()V" } : MethodName) ({ cls := "ExploreShares$Levels", name := "startAnew", desc := "()V" } : MethodName)) ∈ xU := xU_of 449 (by decide +kernel) (by decide +kernel)
theorem uw_420 : (Cond.code ({ cls := "ExploreShares$Levels", name := "startAnew", desc := "()V" } : MethodName) prog_5_method_2_code (1 : Nat) (none : Option Jvm.ClassFile.FieldType)) ∈ xU := xU_of 450 (by decide +kernel) (by decide +kernel)
theorem uw_421 : (Cond.methodLink "ExploreShares$Levels" (35 : Nat) ({ cls := "ExploreShares$Levels", name := "emptySets", desc := "()V" } : MethodName)) ∈ xU := xU_of 451 (by decide +kernel) (by decide +kernel)
theorem uw_422 : (Cond.instanceMethod ({ cls := "ExploreShares$Levels", name := "emptySets", desc := "()V" } : MethodName)) ∈ xU := xU_of 452 (by decide +kernel) (by decide +kernel)
theorem uw_423 : (Cond.selects "ExploreShares$Levels" ({ cls := "ExploreShares$Levels", name := "emptySets", desc := "()V" } : MethodName) ({ cls := "ExploreShares$Levels", name := "emptySets", desc := "()V" } : MethodName)) ∈ xU := xU_of 453 (by decide +kernel) (by decide +kernel)
theorem uw_424 : (Cond.code ({ cls := "ExploreShares$Levels", name := "emptySets", desc := "()V" } : MethodName) prog_5_method_3_code (1 : Nat) (none : Option Jvm.ClassFile.FieldType)) ∈ xU := xU_of 454 (by decide +kernel) (by decide +kernel)
theorem uw_426 : (Cond.methodLink "ExploreShares$Search" (80 : Nat) ({ cls := "java/util/Arrays", name := "fill", desc := "([II)V" } : MethodName)) ∈ xU := xU_of 456 (by decide +kernel) (by decide +kernel)
theorem uw_494 : (Cond.instanceMethod ({ cls := "ExploreShares$FailPlan", name := "placeOf", desc := "(II)I" } : MethodName)) ∈ xU := xU_of 524 (by decide +kernel) (by decide +kernel)
theorem uw_495 : (Cond.selects "ExploreShares$FailPlan" ({ cls := "ExploreShares$FailPlan", name := "placeOf", desc := "(II)I" } : MethodName) ({ cls := "ExploreShares$FailPlan", name := "placeOf", desc := "(II)I" } : MethodName)) ∈ xU := xU_of 525 (by decide +kernel) (by decide +kernel)
theorem uw_496 : (Cond.code ({ cls := "ExploreShares$FailPlan", name := "placeOf", desc := "(II)I" } : MethodName) prog_4_method_2_code (4 : Nat) (some .int)) ∈ xU := xU_of 526 (by decide +kernel) (by decide +kernel)
theorem uw_502 : (Cond.methodLink "ExploreShares$FailPlan" (25 : Nat) ({ cls := "ExploreShares$FailPlan", name := "placeOf", desc := "(II)I" } : MethodName)) ∈ xU := xU_of 532 (by decide +kernel) (by decide +kernel)
theorem uw_694 : (Cond.methodLink "ExploreShares$Search" (118 : Nat) ({ cls := "ExploreShares$Levels", name := "cameInAll", desc := "()I" } : MethodName)) ∈ xU := xU_of 724 (by decide +kernel) (by decide +kernel)
theorem uw_718 : (Cond.methodLink "ExploreSharesModel" (1 : Nat) ({ cls := "java/lang/Object", name := "<init>", desc := "()V" } : MethodName)) ∈ xU := xU_of 748 (by decide +kernel) (by decide +kernel)
theorem uw_719 : (Cond.methodLink "ExploreSharesModel" (87 : Nat) ({ cls := "ExploreSharesModel", name := "forget", desc := "()V" } : MethodName)) ∈ xU := xU_of 749 (by decide +kernel) (by decide +kernel)
theorem uw_721 : (Cond.instanceMethod ({ cls := "ExploreSharesModel", name := "forget", desc := "()V" } : MethodName)) ∈ xU := xU_of 751 (by decide +kernel) (by decide +kernel)
theorem uw_722 : (Cond.code ({ cls := "ExploreSharesModel", name := "forget", desc := "()V" } : MethodName) prog_12_method_5_code (2 : Nat) (none : Option Jvm.ClassFile.FieldType)) ∈ xU := xU_of 752 (by decide +kernel) (by decide +kernel)
theorem uw_723 : (Cond.fieldLink "ExploreSharesModel" (90 : Nat) "ExploreSharesModel" "thrown" "I") ∈ xU := xU_of 753 (by decide +kernel) (by decide +kernel)
theorem uw_724 : (Cond.fieldLink "ExploreSharesModel" (80 : Nat) "ExploreSharesModel" "workers" "I") ∈ xU := xU_of 754 (by decide +kernel) (by decide +kernel)
theorem uw_725 : (Cond.fieldLink "ExploreSharesModel" (84 : Nat) "ExploreSharesModel" "room" "I") ∈ xU := xU_of 755 (by decide +kernel) (by decide +kernel)
theorem uw_726 : (Cond.fieldLink "ExploreSharesModel" (112 : Nat) "ExploreSharesModel" "states" "I") ∈ xU := xU_of 756 (by decide +kernel) (by decide +kernel)
theorem uw_727 : (Cond.fieldLink "ExploreSharesModel" (123 : Nat) "ExploreSharesModel" "moves" "I") ∈ xU := xU_of 757 (by decide +kernel) (by decide +kernel)
theorem uw_728 : (Cond.fieldLink "ExploreSharesModel" (126 : Nat) "ExploreSharesModel" "told" "I") ∈ xU := xU_of 758 (by decide +kernel) (by decide +kernel)
theorem uw_729 : (Cond.fieldLink "ExploreSharesModel" (7 : Nat) "ExploreSharesModel" "from" "[I") ∈ xU := xU_of 759 (by decide +kernel) (by decide +kernel)
theorem uw_730 : (Cond.fieldLink "ExploreSharesModel" (13 : Nat) "ExploreSharesModel" "to" "[I") ∈ xU := xU_of 760 (by decide +kernel) (by decide +kernel)
theorem uw_731 : (Cond.fieldLink "ExploreSharesModel" (16 : Nat) "ExploreSharesModel" "failWorker" "[I") ∈ xU := xU_of 761 (by decide +kernel) (by decide +kernel)
theorem uw_732 : (Cond.fieldLink "ExploreSharesModel" (19 : Nat) "ExploreSharesModel" "failLevel" "[I") ∈ xU := xU_of 762 (by decide +kernel) (by decide +kernel)
theorem uw_733 : (Cond.fieldLink "ExploreSharesModel" (22 : Nat) "ExploreSharesModel" "failTurn" "[I") ∈ xU := xU_of 763 (by decide +kernel) (by decide +kernel)
theorem uw_734 : (Cond.fieldLink "ExploreSharesModel" (93 : Nat) "ExploreSharesModel" "wasRun" "Z") ∈ xU := xU_of 764 (by decide +kernel) (by decide +kernel)
theorem uw_736 : (Cond.fieldLink "ExploreSharesModel" (97 : Nat) "ExploreSharesModel" "level" "I") ∈ xU := xU_of 766 (by decide +kernel) (by decide +kernel)
theorem uw_737 : (Cond.fieldLink "ExploreSharesModel" (100 : Nat) "ExploreSharesModel" "levels" "I") ∈ xU := xU_of 767 (by decide +kernel) (by decide +kernel)
theorem uw_738 : (Cond.fieldLink "ExploreSharesModel" (103 : Nat) "ExploreSharesModel" "turns" "I") ∈ xU := xU_of 768 (by decide +kernel) (by decide +kernel)
theorem uw_739 : (Cond.fieldLink "ExploreSharesModel" (106 : Nat) "ExploreSharesModel" "most" "I") ∈ xU := xU_of 769 (by decide +kernel) (by decide +kernel)
theorem uw_740 : (Cond.fieldLink "ExploreSharesModel" (109 : Nat) "ExploreSharesModel" "failings" "I") ∈ xU := xU_of 770 (by decide +kernel) (by decide +kernel)
theorem uw_741 : (Cond.fieldLink "ExploreSharesModel" (25 : Nat) "ExploreSharesModel" "levelOf" "[I") ∈ xU := xU_of 771 (by decide +kernel) (by decide +kernel)
theorem uw_742 : (Cond.fieldLink "ExploreSharesModel" (28 : Nat) "ExploreSharesModel" "times" "[I") ∈ xU := xU_of 772 (by decide +kernel) (by decide +kernel)
theorem uw_743 : (Cond.fieldLink "ExploreSharesModel" (31 : Nat) "ExploreSharesModel" "sizes" "[I") ∈ xU := xU_of 773 (by decide +kernel) (by decide +kernel)
theorem uw_744 : (Cond.fieldLink "ExploreSharesModel" (34 : Nat) "ExploreSharesModel" "isNext" "[Z") ∈ xU := xU_of 774 (by decide +kernel) (by decide +kernel)
theorem uw_745 : (Cond.fieldLink "ExploreSharesModel" (38 : Nat) "ExploreSharesModel" "isLive" "[Z") ∈ xU := xU_of 775 (by decide +kernel) (by decide +kernel)
theorem uw_746 : (Cond.fieldLink "ExploreSharesModel" (41 : Nat) "ExploreSharesModel" "isLooked" "[Z") ∈ xU := xU_of 776 (by decide +kernel) (by decide +kernel)
theorem uw_747 : (Cond.fieldLink "ExploreSharesModel" (44 : Nat) "ExploreSharesModel" "turnsOf" "[I") ∈ xU := xU_of 777 (by decide +kernel) (by decide +kernel)
theorem uw_748 : (Cond.fieldLink "ExploreSharesModel" (47 : Nat) "ExploreSharesModel" "takenOf" "[I") ∈ xU := xU_of 778 (by decide +kernel) (by decide +kernel)
theorem uw_749 : (Cond.fieldLink "ExploreSharesModel" (50 : Nat) "ExploreSharesModel" "stallsOf" "[I") ∈ xU := xU_of 779 (by decide +kernel) (by decide +kernel)
theorem uw_750 : (Cond.fieldLink "ExploreSharesModel" (53 : Nat) "ExploreSharesModel" "here" "[I") ∈ xU := xU_of 780 (by decide +kernel) (by decide +kernel)
theorem uw_751 : (Cond.fieldLink "ExploreSharesModel" (56 : Nat) "ExploreSharesModel" "stands" "[I") ∈ xU := xU_of 781 (by decide +kernel) (by decide +kernel)
theorem uw_752 : (Cond.fieldLink "ExploreSharesModel" (59 : Nat) "ExploreSharesModel" "nextMove" "[I") ∈ xU := xU_of 782 (by decide +kernel) (by decide +kernel)
theorem uw_753 : (Cond.fieldLink "ExploreSharesModel" (62 : Nat) "ExploreSharesModel" "queued" "[I") ∈ xU := xU_of 783 (by decide +kernel) (by decide +kernel)
theorem uw_754 : (Cond.fieldLink "ExploreSharesModel" (65 : Nat) "ExploreSharesModel" "queue" "[I") ∈ xU := xU_of 784 (by decide +kernel) (by decide +kernel)
theorem uw_755 : (Cond.fieldLink "ExploreSharesModel" (68 : Nat) "ExploreSharesModel" "failedWorker" "[I") ∈ xU := xU_of 785 (by decide +kernel) (by decide +kernel)
theorem uw_756 : (Cond.fieldLink "ExploreSharesModel" (71 : Nat) "ExploreSharesModel" "failedLevel" "[I") ∈ xU := xU_of 786 (by decide +kernel) (by decide +kernel)
theorem uw_757 : (Cond.fieldLink "ExploreSharesModel" (74 : Nat) "ExploreSharesModel" "failedTurns" "[I") ∈ xU := xU_of 787 (by decide +kernel) (by decide +kernel)
theorem uw_758 : (Cond.fieldLink "ExploreSharesModel" (77 : Nat) "ExploreSharesModel" "can" "[Z") ∈ xU := xU_of 788 (by decide +kernel) (by decide +kernel)
theorem uw_840 : (Cond.methodLink "ExploreSharesModel" (115 : Nat) ({ cls := "ExploreSharesModel", name := "throwing", desc := "(ZZZ)Z" } : MethodName)) ∈ xU := xU_of 870 (by decide +kernel) (by decide +kernel)
theorem uw_842 : (Cond.instanceMethod ({ cls := "ExploreSharesModel", name := "throwing", desc := "(ZZZ)Z" } : MethodName)) ∈ xU := xU_of 872 (by decide +kernel) (by decide +kernel)
theorem uw_843 : (Cond.code ({ cls := "ExploreSharesModel", name := "throwing", desc := "(ZZZ)Z" } : MethodName) prog_12_method_3_code (4 : Nat) (some .boolean)) ∈ xU := xU_of 873 (by decide +kernel) (by decide +kernel)
theorem uw_848 : (Cond.methodLink "ExploreSharesModel" (119 : Nat) ({ cls := "ExploreSharesModel", name := "isOf", desc := "(II)Z" } : MethodName)) ∈ xU := xU_of 878 (by decide +kernel) (by decide +kernel)
theorem uw_849 : (Cond.static ({ cls := "ExploreSharesModel", name := "isOf", desc := "(II)Z" } : MethodName)) ∈ xU := xU_of 879 (by decide +kernel) (by decide +kernel)
theorem uw_850 : (Cond.code ({ cls := "ExploreSharesModel", name := "isOf", desc := "(II)Z" } : MethodName) prog_12_method_4_code (2 : Nat) (some .boolean)) ∈ xU := xU_of 880 (by decide +kernel) (by decide +kernel)
theorem nw_40 : (Cond.methodLinkNest "ExploreShares$Search" (11 : Nat) ({ cls := "ExploreShares$Net", name := "<init>", desc := "()V" } : MethodName) "ExploreShares") ∈ xs_NW := xs_NW_of 70 (by decide +kernel) (by decide +kernel)
theorem nw_67 : (Cond.methodLinkNest "ExploreShares$Search" (20 : Nat) ({ cls := "ExploreShares$FailPlan", name := "<init>", desc := "()V" } : MethodName) "ExploreShares") ∈ xs_NW := xs_NW_of 97 (by decide +kernel) (by decide +kernel)
theorem nw_87 : (Cond.methodLinkNest "ExploreShares$Search" (27 : Nat) ({ cls := "ExploreShares$Lists", name := "<init>", desc := "()V" } : MethodName) "ExploreShares") ∈ xs_NW := xs_NW_of 117 (by decide +kernel) (by decide +kernel)
theorem nw_92 : (Cond.arrayOver (.array .int)) ∈ xs_NW := xs_NW_of 122 (by decide +kernel) (by decide +kernel)
theorem nw_152 : (Cond.methodLinkNest "ExploreShares$Search" (41 : Nat) ({ cls := "ExploreShares$FailLog", name := "<init>", desc := "()V" } : MethodName) "ExploreShares") ∈ xs_NW := xs_NW_of 182 (by decide +kernel) (by decide +kernel)
theorem nw_163 : (Cond.fieldLinkNest "ExploreShares$Search" (90 : Nat) "ExploreShares$FailLog" "happened" "I" "ExploreShares") ∈ xs_NW := xs_NW_of 193 (by decide +kernel) (by decide +kernel)
theorem nw_176 : (Cond.methodLinkNest "ExploreShares$Search" (48 : Nat) ({ cls := "ExploreShares$Ways", name := "<init>", desc := "()V" } : MethodName) "ExploreShares") ∈ xs_NW := xs_NW_of 206 (by decide +kernel) (by decide +kernel)
theorem nw_190 : (Cond.methodLinkNest "ExploreShares$Crew" (35 : Nat) ({ cls := "ExploreShares", name := "fillFlags", desc := "([ZZ)V" } : MethodName) "ExploreShares") ∈ xs_NW := xs_NW_of 220 (by decide +kernel) (by decide +kernel)
theorem nw_193 : (Cond.methodLinkNest "ExploreShares$Crew" (39 : Nat) ({ cls := "ExploreShares", name := "numberBehind", desc := "(I)I" } : MethodName) "ExploreShares") ∈ xs_NW := xs_NW_of 223 (by decide +kernel) (by decide +kernel)
theorem nw_198 : (Cond.methodLinkNest "ExploreShares$Crew" (43 : Nat) ({ cls := "ExploreShares", name := "oneOf", desc := "(II)I" } : MethodName) "ExploreShares") ∈ xs_NW := xs_NW_of 228 (by decide +kernel) (by decide +kernel)
theorem nw_251 : (Cond.fieldLinkNest "ExploreShares$Search" (86 : Nat) "ExploreShares$Queues" "most" "I" "ExploreShares") ∈ xs_NW := xs_NW_of 281 (by decide +kernel) (by decide +kernel)
theorem nw_266 : (Cond.fieldLinkNest "ExploreShares" (24 : Nat) "ExploreShares$Search" "net" "LExploreShares$Net;" "ExploreShares") ∈ xs_NW := xs_NW_of 296 (by decide +kernel) (by decide +kernel)
theorem nw_268 : (Cond.fieldLinkNest "ExploreShares" (29 : Nat) "ExploreShares$Search" "plan" "LExploreShares$FailPlan;" "ExploreShares") ∈ xs_NW := xs_NW_of 298 (by decide +kernel) (by decide +kernel)
theorem nw_269 : (Cond.fieldLinkNest "ExploreShares" (34 : Nat) "ExploreShares$Search" "crew" "LExploreShares$Crew;" "ExploreShares") ∈ xs_NW := xs_NW_of 299 (by decide +kernel) (by decide +kernel)
theorem nw_425 : (Cond.methodLinkNest "ExploreShares$Levels" (38 : Nat) ({ cls := "ExploreShares", name := "fillFlags", desc := "([ZZ)V" } : MethodName) "ExploreShares") ∈ xs_NW := xs_NW_of 455 (by decide +kernel) (by decide +kernel)
end
section
section XSB
/-! a method over cells: where it starts, where it ends, what it makes -/
def xPre (D : va_G) (cl : List vw_C) (tys : List (ClassId × FieldType)) (av : List Value) (w : va_W) (sz : Nat) : Array Value → State → Prop := va_Pc av (fun U => U.heap.size = sz ∧ va_P D cl w U.heap ∧ va_K D cl tys U ∧ va_D (fun _ => True) w ∧ xs_N U)
def xPost {σ : Type} (D : va_G) (cl : List vw_C) (w : va_W) (sz : Nat) (f : σ → Prop) (r : σ → Option Value) (w2 : σ → va_W) : State → Outcome → State → Prop := fun st oc t => ∃ u : σ, oc = .returned (r u) ∧ f u ∧ va_P D cl (w2 u) t.heap ∧ va_D (va_A w sz) (w2 u) ∧ va_F (va_A w sz) st t
/-- from the cells w: it answers r u and leaves the cells w2 u, for some u with f u; nothing else that was there changes; it makes at most rm.cells cells of rm.slots slots -/
def xG {σ : Type} (l : Launch) (y : MethodName) (wd : List Cond) (rm : Room) (D : va_G) (cl : List vw_C) (tys : List (ClassId × FieldType)) (av : List Value) (w : va_W) (f : σ → Prop) (r : σ → Option Value) (w2 : σ → va_W) : Prop :=
  ∀ sz : Nat, Met l y wd rm (xPre D cl tys av w sz) (fun _ => xPost D cl w sz f r w2) rm.cells rm.slots (va_A w sz)
theorem xs_blind {av : List Value} {sz : Nat} {D : va_G} {cl : List vw_C} {tys : List (ClassId × FieldType)} {w : va_W} : FrameBlind (xPre D cl tys av w sz) :=
  fun a U g mk q => by obtain ⟨q0, q1, qP, qK, qD, qN⟩ := q; exact ⟨q0, q1, qP, va_K.moved (u := U) (U := U.calling g mk a) (Vm.Alike.refl U.vm) qK, qD, xs_N.warm (s := U) (U := U.calling g mk a) (State.WarmedH.refl U) qN⟩
theorem xs_P_sub {D : va_G} {cl : List vw_C} {ws w : va_W} {H : Heap} (h : va_P D cl ws H) (is : List Nat) (hs : is.map (fun i => ws[i]?) = w.map some) : va_P D cl w H := by
  intro k q hq
  have h1 : (is.map (fun i => ws[i]?))[k]? = some (some q) := by rw [hs, List.getElem?_map, hq]; rfl
  rw [List.getElem?_map] at h1
  cases hi : is[k]? with
  | none => rw [hi] at h1; cases h1
  | some i => rw [hi] at h1; exact h i q (Option.some.inj h1)
theorem xs_pre {D : va_G} {cl : List vw_C} {tys : List (ClassId × FieldType)} {s : State} {ws w : va_W} {A : Nat → Prop} {H : Heap} (av : List Value) (hN : xs_N s) (hK : va_K D cl tys s) (hP : va_P D cl ws H) (hD : va_D A ws) (is : List Nat) (hn : va_nd is = true) (hs : is.map (fun i => ws[i]?) = w.map some) :
    ∀ U : State, U.heap = H → s.WarmedH U.vm → xPre D cl tys av w H.size av.toArray U := fun U hU hW =>
  ⟨rfl, by rw [hU], by rw [hU]; exact xs_P_sub hP is hs, va_K.moved hW.alike hK, (hD.sub is hn hs).weaken (fun _ _ _ _ => trivial), xs_N.warm hW hN⟩
section XSR
variable {p : Program} {l : Launch} {e : Env} {R : Room} {s : State} {m : MethodId} {args : Array Value} {below : List Frame} {meth : Method} {c : Code} {H : Heap} {locs : List Loc} {cells slots : Nat} {Q : State → Prop}
variable {pc : Nat} {ls : Array Slot} {rest st0 : List Value} {A : Nat → Prop} {H0 : Heap} {D : va_G} {cl : List vw_C} {tys : List (ClassId × FieldType)}
theorem xs_keep {w : va_W} {st₀ t T' : State} {L : List Loc} (h0 : st₀.heap = H) (e1 : T'.heap = t.heap) (hS : va_S A H0 H locs) (hF : ∀ q, va_A w H.size q → A q) (hL : ∀ q ∈ L, va_A w H.size q.base) (hf : va_F (va_A w H.size) st₀ t) :
    (∀ q : Nat, q < H.size → ¬ va_A w H.size q → T'.heap[q]? = H[q]?) ∧ va_S A H0 T'.heap (locs ++ L) := by
  obtain ⟨hz, hk⟩ := hf
  rw [h0] at hz hk
  rw [← e1] at hz hk
  exact ⟨hk, Nat.le_trans hS.1 hz, fun q h1 h2 => by
    rw [hk q (Nat.lt_of_lt_of_le h1 hS.1) (fun z => h2 (hF q z))]; exact hS.2.1 q h1 h2, fun q hq => by
    rcases List.mem_append.mp hq with h | h
    · exact hS.2.2 q h
    · exact hF _ (hL q h)⟩
/-- behind a call -/
theorem xw_back {σ : Type} {f : σ → Prop} {r : σ → Option Value} {w2 : σ → va_W} {ws w wr : va_W} {mc ms : Nat} (hr : va_Run p l e R s m args below meth c H locs cells slots mc ms (F0 m pc ls st0) rest (xPost D cl w H.size f r w2) (va_A w H.size))
    (isC isR : List Nat) (hC : isC.map (fun i => ws[i]?) = w.map some) (hR : isR.map (fun i => ws[i]?) = wr.map some) (hn : va_nd isR = true) (hdis : ∀ i ∈ isR, i ∉ isC) (hP : va_P D cl ws H) (hD : va_D A ws) (hS : va_S A H0 H locs) (hA : ∀ q, H0.size ≤ q → A q)
    (kk : ∀ (u : σ) (H1 : Heap) (locs1 : List Loc), f u → va_P D cl (wr ++ w2 u) H1 → va_D A (wr ++ w2 u) → va_S A H0 H1 locs1 → W p l e R s m args below meth c H1 locs1 (cells + mc) (slots + ms) Q (F0 m (pc + 3) ls ((r u).toList ++ rest))) : W p l e R s m args below meth c H locs cells slots Q (F0 m pc ls st0) := by
  have hF := va_free (wc := w) hD hS hA isC hC
  intro T hT X
  obtain ⟨v, st₀, t, T', L, h0, X', hL, e1, e2, ⟨u, hv, hq, hp, hd, hf⟩, st⟩ := hr T hT X
  cases hv
  obtain ⟨hk, hS'⟩ := xs_keep h0 e1 hS hF hL hf
  rw [← e1] at hp
  obtain ⟨j1, j2⟩ := va_join hP hD isC isR hC hR hn hdis hk hF hp hd
  obtain ⟨t2, a1, b1⟩ := kk u T'.heap (locs ++ L) hq j1 j2 hS' T' rfl X'
  exact ⟨t2, st t2 a1, b1⟩
variable {y : MethodName} {bytes cc : ByteArray} {maxL nL n index : Nat} {ret : Option FieldType} {wd : List Cond} {rm : Room} {Ts : List Cond} {own C host : String} {b : Nat}
/-- calls of such a method: by its receiver, of a nest mate, static, a constructor -/
theorem xw_callV {σ : Type} {f : σ → Prop} {r : σ → Option Value} {w2 : σ → va_W} {ws w wr : va_W} (As : List Value) (hM : xG l y wd rm D cl tys (.ref b :: As) w f r w2) (S : CallFix p m c cc nL s args Ts own) (cw : CallW R s args own C index y bytes maxL ret wd rm rm.cells rm.slots n)
    (q0 : Nat) {ci : Nat} {q : vw_C} {fs : List Value} (hc : cl[ci]? = some q) (he : ws[q0]? = some (b, .inr (ci, fs))) (hq : q.1 = C) (hn9 : As.length = n) (hsize : ls.size = nL) (hstack : st0 = As.reverse ++ .ref b :: rest) (hW : (rest.map fun v => v.category).sum ≤ 8) (hdg : decode cc pc = .ok (.invokevirtual index, 3)) (hf : cells + rm.cells ≤ R.cells ∧ slots + rm.slots ≤ R.slots)
    (isC isR : List Nat) (hC : isC.map (fun i => ws[i]?) = w.map some) (hR : isR.map (fun i => ws[i]?) = wr.map some) (hnC : va_nd isC = true) (hn : va_nd isR = true) (hdis : ∀ i ∈ isR, i ∉ isC) (hN : xs_N s) (hK : va_K D cl tys s) (hP : va_P D cl ws H) (hD : va_D A ws) (hS : va_S A H0 H locs) (hA : ∀ q, H0.size ≤ q → A q)
    (kk : ∀ (u : σ) (H1 : Heap) (locs1 : List Loc), f u → va_P D cl (wr ++ w2 u) H1 → va_D A (wr ++ w2 u) → va_S A H0 H1 locs1 → W p l e R s m args below meth c H1 locs1 (cells + rm.cells) (slots + rm.slots) Q (F0 m (pc + 3) ls ((r u).toList ++ rest))) : W p l e R s m args below meth c H locs cells slots Q (F0 m pc ls st0) :=
  xw_back (va_runV S (hM H.size) cw ⟨xs_blind, by have h9 := va_recv hK hP hc he; rw [hq] at h9; exact h9, xs_pre (.ref b :: As) hN hK hP hD isC hnC hC⟩ rfl hn9 hsize hstack (lv_room hW) hdg hf) isC isR hC hR hn hdis hP hD hS hA kk
theorem xw_callN {σ : Type} {f : σ → Prop} {r : σ → Option Value} {w2 : σ → va_W} {ws w wr : va_W} (As : List Value) (hM : xG l y wd rm D cl tys (.ref b :: As) w f r w2) (S : CallFix p m c cc nL s args Ts own) (cw : va_CN R s args own index y host bytes maxL ret wd rm rm.cells rm.slots n ∧ (Cond.instanceMethod y).before args s = true ∧ (Cond.selects C y y).before args s = true)
    (q0 : Nat) {ci : Nat} {q : vw_C} {fs : List Value} (hc : cl[ci]? = some q) (he : ws[q0]? = some (b, .inr (ci, fs))) (hq : q.1 = C) (hn9 : As.length = n) (hsize : ls.size = nL) (hstack : st0 = As.reverse ++ .ref b :: rest) (hW : (rest.map fun v => v.category).sum ≤ 8) (hdg : decode cc pc = .ok (.invokevirtual index, 3)) (hf : cells + rm.cells ≤ R.cells ∧ slots + rm.slots ≤ R.slots)
    (isC isR : List Nat) (hC : isC.map (fun i => ws[i]?) = w.map some) (hR : isR.map (fun i => ws[i]?) = wr.map some) (hnC : va_nd isC = true) (hn : va_nd isR = true) (hdis : ∀ i ∈ isR, i ∉ isC) (hN : xs_N s) (hK : va_K D cl tys s) (hP : va_P D cl ws H) (hD : va_D A ws) (hS : va_S A H0 H locs) (hA : ∀ q, H0.size ≤ q → A q)
    (kk : ∀ (u : σ) (H1 : Heap) (locs1 : List Loc), f u → va_P D cl (wr ++ w2 u) H1 → va_D A (wr ++ w2 u) → va_S A H0 H1 locs1 → W p l e R s m args below meth c H1 locs1 (cells + rm.cells) (slots + rm.slots) Q (F0 m (pc + 3) ls ((r u).toList ++ rest))) : W p l e R s m args below meth c H locs cells slots Q (F0 m pc ls st0) :=
  xw_back (va_runVN S (hM H.size) cw ⟨xs_blind, by have h9 := va_recv hK hP hc he; rw [hq] at h9; exact h9, xs_pre (.ref b :: As) hN hK hP hD isC hnC hC⟩ rfl hn9 hsize hstack (lv_room hW) hdg hf) isC isR hC hR hn hdis hP hD hS hA kk
theorem xw_callS {σ : Type} {f : σ → Prop} {r : σ → Option Value} {w2 : σ → va_W} {ws w wr : va_W} (As : List Value) (hM : xG l y wd rm D cl tys As w f r w2) (S : CallFix p m c cc nL s args Ts own) (cw : CallB R s args own index y bytes maxL ret wd rm rm.cells rm.slots n ∧ (Cond.static y).before args s = true)
    (hn9 : As.length = n) (hsize : ls.size = nL) (hstack : st0 = As.reverse ++ rest) (hW : (rest.map fun v => v.category).sum ≤ 8) (hdg : decode cc pc = .ok (.invokestatic index, 3)) (hf : cells + rm.cells ≤ R.cells ∧ slots + rm.slots ≤ R.slots)
    (isC isR : List Nat) (hC : isC.map (fun i => ws[i]?) = w.map some) (hR : isR.map (fun i => ws[i]?) = wr.map some) (hnC : va_nd isC = true) (hn : va_nd isR = true) (hdis : ∀ i ∈ isR, i ∉ isC) (hN : xs_N s) (hK : va_K D cl tys s) (hP : va_P D cl ws H) (hD : va_D A ws) (hS : va_S A H0 H locs) (hA : ∀ q, H0.size ≤ q → A q)
    (kk : ∀ (u : σ) (H1 : Heap) (locs1 : List Loc), f u → va_P D cl (wr ++ w2 u) H1 → va_D A (wr ++ w2 u) → va_S A H0 H1 locs1 → W p l e R s m args below meth c H1 locs1 (cells + rm.cells) (slots + rm.slots) Q (F0 m (pc + 3) ls ((r u).toList ++ rest))) : W p l e R s m args below meth c H locs cells slots Q (F0 m pc ls st0) :=
  xw_back (va_runS S (hM H.size) cw ⟨xs_blind, xs_pre As hN hK hP hD isC hnC hC⟩ rfl hn9 hsize hstack (lv_room hW) hdg hf) isC isR hC hR hn hdis hP hD hS hA kk
theorem xw_callSN {σ : Type} {f : σ → Prop} {r : σ → Option Value} {w2 : σ → va_W} {ws w wr : va_W} (As : List Value) (hM : xG l y wd rm D cl tys As w f r w2) (S : CallFix p m c cc nL s args Ts own) (cw : va_CN R s args own index y host bytes maxL ret wd rm rm.cells rm.slots n ∧ (Cond.static y).before args s = true ∧ True)
    (hn9 : As.length = n) (hsize : ls.size = nL) (hstack : st0 = As.reverse ++ rest) (hW : (rest.map fun v => v.category).sum ≤ 8) (hdg : decode cc pc = .ok (.invokestatic index, 3)) (hf : cells + rm.cells ≤ R.cells ∧ slots + rm.slots ≤ R.slots)
    (isC isR : List Nat) (hC : isC.map (fun i => ws[i]?) = w.map some) (hR : isR.map (fun i => ws[i]?) = wr.map some) (hnC : va_nd isC = true) (hn : va_nd isR = true) (hdis : ∀ i ∈ isR, i ∉ isC) (hN : xs_N s) (hK : va_K D cl tys s) (hP : va_P D cl ws H) (hD : va_D A ws) (hS : va_S A H0 H locs) (hA : ∀ q, H0.size ≤ q → A q)
    (kk : ∀ (u : σ) (H1 : Heap) (locs1 : List Loc), f u → va_P D cl (wr ++ w2 u) H1 → va_D A (wr ++ w2 u) → va_S A H0 H1 locs1 → W p l e R s m args below meth c H1 locs1 (cells + rm.cells) (slots + rm.slots) Q (F0 m (pc + 3) ls ((r u).toList ++ rest))) : W p l e R s m args below meth c H locs cells slots Q (F0 m pc ls st0) :=
  xw_back (va_runSN S (hM H.size) cw ⟨xs_blind, xs_pre As hN hK hP hD isC hnC hC⟩ rfl hn9 hsize hstack (lv_room hW) hdg hf) isC isR hC hR hn hdis hP hD hS hA kk
theorem xw_callI {σ : Type} {f : σ → Prop} {r : σ → Option Value} {w2 : σ → va_W} {ws w wr : va_W} (As : List Value) (hM : xG l y wd rm D cl tys (.ref b :: As) w f r w2) (S : CallFix p m c cc nL s args Ts own) (cw : CallB R s args own index y bytes maxL none wd rm rm.cells rm.slots n ∧ y.name = "<init>" ∧ (Cond.instanceMethod y).before args s = true)
    (hn9 : As.length = n) (hsize : ls.size = nL) (hstack : st0 = As.reverse ++ .ref b :: rest) (hW : (rest.map fun v => v.category).sum ≤ 8) (hdg : decode cc pc = .ok (.invokespecial index, 3)) (hf : cells + rm.cells ≤ R.cells ∧ slots + rm.slots ≤ R.slots)
    (isC isR : List Nat) (hC : isC.map (fun i => ws[i]?) = w.map some) (hR : isR.map (fun i => ws[i]?) = wr.map some) (hnC : va_nd isC = true) (hn : va_nd isR = true) (hdis : ∀ i ∈ isR, i ∉ isC) (hN : xs_N s) (hK : va_K D cl tys s) (hP : va_P D cl ws H) (hD : va_D A ws) (hS : va_S A H0 H locs) (hA : ∀ q, H0.size ≤ q → A q)
    (kk : ∀ (u : σ) (H1 : Heap) (locs1 : List Loc), f u → va_P D cl (wr ++ w2 u) H1 → va_D A (wr ++ w2 u) → va_S A H0 H1 locs1 → W p l e R s m args below meth c H1 locs1 (cells + rm.cells) (slots + rm.slots) Q (F0 m (pc + 3) ls ((r u).toList ++ rest))) : W p l e R s m args below meth c H locs cells slots Q (F0 m pc ls st0) :=
  xw_back (va_runI S (hM H.size) cw ⟨xs_blind, xs_pre (.ref b :: As) hN hK hP hD isC hnC hC⟩ rfl hn9 hsize hstack (lv_room hW) hdg hf) isC isR hC hR hn hdis hP hD hS hA kk
theorem xw_callIN {σ : Type} {f : σ → Prop} {r : σ → Option Value} {w2 : σ → va_W} {ws w wr : va_W} (As : List Value) (hM : xG l y wd rm D cl tys (.ref b :: As) w f r w2) (S : CallFix p m c cc nL s args Ts own) (cw : va_CN R s args own index y host bytes maxL none wd rm rm.cells rm.slots n ∧ y.name = "<init>" ∧ (Cond.instanceMethod y).before args s = true)
    (hn9 : As.length = n) (hsize : ls.size = nL) (hstack : st0 = As.reverse ++ .ref b :: rest) (hW : (rest.map fun v => v.category).sum ≤ 8) (hdg : decode cc pc = .ok (.invokespecial index, 3)) (hf : cells + rm.cells ≤ R.cells ∧ slots + rm.slots ≤ R.slots)
    (isC isR : List Nat) (hC : isC.map (fun i => ws[i]?) = w.map some) (hR : isR.map (fun i => ws[i]?) = wr.map some) (hnC : va_nd isC = true) (hn : va_nd isR = true) (hdis : ∀ i ∈ isR, i ∉ isC) (hN : xs_N s) (hK : va_K D cl tys s) (hP : va_P D cl ws H) (hD : va_D A ws) (hS : va_S A H0 H locs) (hA : ∀ q, H0.size ≤ q → A q)
    (kk : ∀ (u : σ) (H1 : Heap) (locs1 : List Loc), f u → va_P D cl (wr ++ w2 u) H1 → va_D A (wr ++ w2 u) → va_S A H0 H1 locs1 → W p l e R s m args below meth c H1 locs1 (cells + rm.cells) (slots + rm.slots) Q (F0 m (pc + 3) ls ((r u).toList ++ rest))) : W p l e R s m args below meth c H locs cells slots Q (F0 m pc ls st0) :=
  xw_back (va_runIN S (hM H.size) cw ⟨xs_blind, xs_pre (.ref b :: As) hN hK hP hD isC hnC hC⟩ rfl hn9 hsize hstack (lv_room hW) hdg hf) isC isR hC hR hn hdis hP hD hS hA kk
end XSR
section XSE
/-- what a walk in a method over cells owes at its end -/
def xZ {σ : Type} (below : List Frame) (args : Array Value) (s : State) (D : va_G) (cl : List vw_C) (w : va_W) (sz mc ms : Nat) (f : σ → Prop) (r : σ → Option Value) (w2 : σ → va_W) : State → Prop :=
  MQ below (fun _ => xPost D cl w sz f r w2) args s mc ms (va_A w sz)
/-- what holds all through a walk -/
def xC (p : Program) (s : State) (m : MethodId) (args : Array Value) (meth : Method) (c : Code) (cc : ByteArray) (nL : Nat) (ret : Option FieldType) (own nm : String) (wd : List Cond) (D : va_G) (cl : List vw_C) (tys : List (ClassId × FieldType)) (A : Nat → Prop) : Prop :=
  p.tables.exec = Jvm.exec ∧ c.code = cc ∧ meth.sig.returnType = ret ∧ c.maxLocals = nL ∧ s.vm.findClass own = some m.cls ∧ meth.locks = false ∧ (∀ w ∈ wd, w.before args s = true) ∧ meth.name = nm ∧ xs_N s ∧ va_K D cl tys s ∧ ∀ q : Nat, s.heap.size ≤ q → A q
theorem xs_ofW {l : Launch} {y : MethodName} {ws ws' : List Cond} {rm : Room} {Pc : Array Value → State → Prop} {Qc : Array Value → State → Outcome → State → Prop} {mc ms : Nat} {free : Addr → Prop} {cc : ByteArray} {maxL : Nat} {ret : Option FieldType}
    (hy : plainFor y = true) (hw : ws = Cond.code y cc maxL ret :: ws')
    (body : ∀ p e s m args below meth c s₁, BodyLoose p l y (headSpec ws rm) cc maxL ret e s m args below meth c s₁ → c.maxLocals = maxL → Pc args s →
      W p l e (headSpec ws rm).room s m args below meth c s.heap [] 0 0 (MQ below Qc args s mc ms free) (entryFrame m args maxL)) : Met l y ws rm Pc Qc mc ms free := by
  refine MetFree.of_bodySF (code := cc) (maxLocals := maxL) (ret := ret) hy (fun args s m h hn => ?_) (fun p e s m args below meth c s₁ B hml hP _ => ?_)
  · obtain ⟨meth, c, h1, h2, h3, h4, h5, h6, -, -⟩ := Cond.code_spec hn (atoms_spec (ws := ws) h _ (by rw [hw]; exact List.mem_cons_self))
    exact ⟨meth, c, h1, h2, h3, h4, h5, h6⟩
  · obtain ⟨t, a1, o, b1, b2, b3, b4⟩ := body p e s m args below meth c s₁ B hml hP s₁ (by rw [B.state]; rfl) (Stand.of_body B)
    exact ⟨t, o, a1, b1, b2, b3, b4⟩
theorem xG.of {σ : Type} {l : Launch} {y : MethodName} {wd wd' : List Cond} {rm : Room} {D : va_G} {cl : List vw_C} {tys : List (ClassId × FieldType)} {av : List Value} {w : va_W} {f : σ → Prop} {r : σ → Option Value} {w2 : σ → va_W} (cc : ByteArray) (nL : Nat) (ret : Option FieldType)
    (hy : plainFor y = true) (hw : wd = Cond.code y cc nL ret :: wd') (hlen : (lg_sl av).length ≤ nL)
    (body : ∀ (p : Program) (e : Env) (s : State) (m : MethodId) (below : List Frame) (meth : Method) (c : Code) (A : Nat → Prop) (ls : Array Slot), A = va_A w s.heap.size → xC p s m av.toArray meth c cc nL ret y.cls y.name wd D cl tys A → va_P D cl w s.heap → va_D A w → va_S A s.heap s.heap [] → lv_has ls nL (lv_args 0 av) →
      W p l e (headSpec wd rm).room s m av.toArray below meth c s.heap [] 0 0 (xZ below av.toArray s D cl w s.heap.size rm.cells rm.slots f r w2) (F0 m 0 ls [])) : xG l y wd rm D cl tys av w f r w2 := by
  intro sz
  refine xs_ofW (cc := cc) (maxL := nL) (ret := ret) hy hw ?_
  intro p e s m args below meth c s₁ B hml hv
  obtain ⟨rfl, hsz, hP, hK, hD0, hN⟩ := hv
  subst hsz
  rw [lg_entry_eq]
  exact body p e s m below meth c (va_A w s.heap.size) _ rfl ⟨B.exec, B.bytes, B.returns, hml, findClass_of_methodNamed B.named, B.notSynchronized, atoms_spec (ws := wd) B.pre, (name_of_methodNamed B.named B.method).1, hN, hK, fun q h => Or.inr h⟩ hP (hD0.self (sz := s.heap.size)) va_S.rf (lv_entry av hlen)
variable {p : Program} {l : Launch} {e : Env} {R : Room} {s : State} {m : MethodId} {args : Array Value} {below : List Frame} {meth : Method} {c : Code} {H : Heap} {locs : List Loc}
variable {cc : ByteArray} {pc : Nat} {ls : Array Slot} {rest : List Value} {D : va_G} {cl : List vw_C} {A : Nat → Prop} {cells slots : Nat} {Q : State → Prop}
theorem xw_iret {σ : Type} {f : σ → Prop} {r : σ → Option Value} {w2 : σ → va_W} {w : va_W} {mc ms : Nat} (u : σ) {v : Int32} (hexec : p.tables.exec = Jvm.exec) (hb : c.code = cc) (hr : meth.sig.returnType = some .int) (hlocks : meth.locks = false) (hdg : decode cc pc = .ok (.ireturn, 1)) (hv : r u = some (.int v)) (hf : f u) (hAe : A = va_A w s.heap.size) (hP : va_P D cl (w2 u) H) (hD : va_D A (w2 u)) (hS : va_S A s.heap H locs) (hc : cells ≤ mc) (hs : slots ≤ ms) : W p l e R s m args below meth c H locs cells slots (xZ below args s D cl w s.heap.size mc ms f r w2) (F0 m pc ls [.int v]) := by
  subst hAe
  exact W.widen (k := mc) (n := ms) hc hs (W.iret hexec hb hr (fun t ht _ => ⟨u, by rw [hv], hf, by rw [ht]; exact hP, hD, hS.F ht⟩) hS.2.2 hdg hlocks)
theorem xw_zret {σ : Type} {f : σ → Prop} {r : σ → Option Value} {w2 : σ → va_W} {w : va_W} {mc ms : Nat} (u : σ) {v : Int32} (h01 : v = 0 ∨ v = 1) (hexec : p.tables.exec = Jvm.exec) (hb : c.code = cc) (hr : meth.sig.returnType = some .boolean) (hlocks : meth.locks = false) (hdg : decode cc pc = .ok (.ireturn, 1)) (hv : r u = some (.int v)) (hf : f u) (hAe : A = va_A w s.heap.size) (hP : va_P D cl (w2 u) H) (hD : va_D A (w2 u)) (hS : va_S A s.heap H locs) (hc : cells ≤ mc) (hs : slots ≤ ms) : W p l e R s m args below meth c H locs cells slots (xZ below args s D cl w s.heap.size mc ms f r w2) (F0 m pc ls [.int v]) := by
  subst hAe
  exact W.widen (k := mc) (n := ms) hc hs (W.zret (ty := .boolean) hexec hb hr (by rcases h01 with h | h <;> (rw [h]; rfl)) (fun t ht _ => ⟨u, by rw [hv], hf, by rw [ht]; exact hP, hD, hS.F ht⟩) hS.2.2 hdg hlocks)
theorem xw_vret {σ : Type} {f : σ → Prop} {r : σ → Option Value} {w2 : σ → va_W} {w : va_W} {mc ms : Nat} (u : σ) (hexec : p.tables.exec = Jvm.exec) (hb : c.code = cc) (hr : meth.sig.returnType = none) (hlocks : meth.locks = false) (hdg : decode cc pc = .ok (.return_, 1)) (hv : r u = none) (hf : f u) (hAe : A = va_A w s.heap.size) (hP : va_P D cl (w2 u) H) (hD : va_D A (w2 u)) (hS : va_S A s.heap H locs) (hc : cells ≤ mc) (hs : slots ≤ ms) : W p l e R s m args below meth c H locs cells slots (xZ below args s D cl w s.heap.size mc ms f r w2) (F0 m pc ls []) := by
  subst hAe
  exact W.widen (k := mc) (n := ms) hc hs (W.vret hexec hb hr (fun t ht _ => ⟨u, by rw [hv], hf, by rw [ht]; exact hP, hD, hS.F ht⟩) hS.2.2 hdg hlocks)
/-- the number on top, written otherwise -/
theorem xw_top {x : Int32} (z : Int32) (h : x = z) (k : W p l e R s m args below meth c H locs cells slots Q (F0 m pc ls (.int z :: rest))) : W p l e R s m args below meth c H locs cells slots Q (F0 m pc ls (.int x :: rest)) := by rw [h]; exact k
end XSE
end XSB
end
section
section XSA
variable {p : Program} {l : Launch} {e : Env} {R : Room} {s : State} {m : MethodId} {args : Array Value} {below : List Frame} {meth : Method} {c : Code} {H : Heap} {locs : List Loc} {cells slots : Nat} {Q : State → Prop}
variable {cc : ByteArray} {pc : Nat} {ls : Array Slot} {rest : List Value} {D : va_G} {cl : List vw_C} {A : Nat → Prop} {a : Nat} {tys : List (ClassId × FieldType)} {ws : va_W} {H0 : Heap}
theorem xs_cI {cI cA : ClassId} {t0 : Nat} (hK : va_K D cl (tys ++ [(cA, .int)]) s) (ht : tys[t0]? = some (cI, .int)) : cA = cI := by
  have h1 := (hK.2 tys.length (cA, .int) (by simp)).2
  have h2 := (hK.2 t0 (cI, .int) (by rw [List.getElem?_append_left (List.getElem?_eq_some_iff.mp ht).1]; exact ht)).2
  exact Option.some.inj (Eq.trans (Eq.symm h1) h2)
theorem xs_cB {cI cA : ClassId} {t0 : Nat} (hK : va_K D cl (tys ++ [(cA, .boolean)]) s) (ht : tys[t0]? = some (cI, .boolean)) : cA = cI := by
  have h1 := (hK.2 tys.length (cA, .boolean) (by simp)).2
  have h2 := (hK.2 t0 (cI, .boolean) (by rw [List.getElem?_append_left (List.getElem?_eq_some_iff.mp ht).1]; exact ht)).2
  exact Option.some.inj (Eq.trans (Eq.symm h1) h2)
theorem xs_cL {cI cA : ClassId} {t0 : Nat} (hK : va_K D cl (tys ++ [(cA, .long)]) s) (ht : tys[t0]? = some (cI, .long)) : cA = cI := by
  have h1 := (hK.2 tys.length (cA, .long) (by simp)).2
  have h2 := (hK.2 t0 (cI, .long) (by rw [List.getElem?_append_left (List.getElem?_eq_some_iff.mp ht).1]; exact ht)).2
  exact Option.some.inj (Eq.trans (Eq.symm h1) h2)
/-- new rows: of ints, of truth values, of longs -/
theorem xw_newI (hexec : p.tables.exec = Jvm.exec) (hb : c.code = cc) (harr : (Cond.arrayClass .int).before args s = true) (hK : va_K D cl tys s) (t0 : Nat) {cI : ClassId} (ht : tys[t0]? = some (cI, .int)) (hP : va_P D cl ws H) (hD : va_D A ws) (hS : va_S A H0 H locs) (hA : ∀ q, H0.size ≤ q → A q)
    {n : Int32} {N : Nat} (hn : ¬ n < 0) (hN : n.toNatClampNeg = N) (hbytes : N ≤ 100000) (hcells : cells + 1 ≤ R.cells) (hslots : slots + N ≤ R.slots) (hdg : decode cc pc = .ok (.newarray .int, 2))
    (kk : ∀ (q : Nat) (H1 : Heap), va_P D cl (ws ++ [(q, .inl (cI, N, .inl (fun _ => 0)))]) H1 → va_D A (ws ++ [(q, .inl (cI, N, .inl (fun _ => 0)))]) → va_S A H0 H1 locs →
      W p l e R s m args below meth c H1 locs (cells + 1) (slots + N) Q (F0 m (pc + 2) ls (.ref q :: rest))) : W p l e R s m args below meth c H locs cells slots Q (F0 m pc ls (.int n :: rest)) :=
  va_newa (N' := N) (atype := .int) (a0 := (N, .inl (fun _ => 0))) (ty := .int) hexec hb harr rfl hK hP hD hS hA (fun _ => rfl) hn hN (show N * 4 ≤ 536870912 by omega) hcells hslots hdg (fun q cA H1 hK1 hP1 hD1 hS1 => by
    cases xs_cI hK1 ht
    exact kk q H1 hP1 hD1 hS1)
theorem xw_newB (hexec : p.tables.exec = Jvm.exec) (hb : c.code = cc) (harr : (Cond.arrayClass .boolean).before args s = true) (hK : va_K D cl tys s) (t0 : Nat) {cI : ClassId} (ht : tys[t0]? = some (cI, .boolean)) (hP : va_P D cl ws H) (hD : va_D A ws) (hS : va_S A H0 H locs) (hA : ∀ q, H0.size ≤ q → A q)
    {n : Int32} {N : Nat} (hn : ¬ n < 0) (hN : n.toNatClampNeg = N) (hbytes : N ≤ 100000) (hcells : cells + 1 ≤ R.cells) (hslots : slots + N ≤ R.slots) (hdg : decode cc pc = .ok (.newarray .boolean, 2))
    (kk : ∀ (q : Nat) (H1 : Heap), va_P D cl (ws ++ [(q, .inl (cI, N, .inl (fun _ => 0)))]) H1 → va_D A (ws ++ [(q, .inl (cI, N, .inl (fun _ => 0)))]) → va_S A H0 H1 locs →
      W p l e R s m args below meth c H1 locs (cells + 1) (slots + N) Q (F0 m (pc + 2) ls (.ref q :: rest))) : W p l e R s m args below meth c H locs cells slots Q (F0 m pc ls (.int n :: rest)) :=
  va_newa (N' := N) (atype := .boolean) (a0 := (N, .inl (fun _ => 0))) (ty := .boolean) hexec hb harr rfl hK hP hD hS hA (fun _ => rfl) hn hN (show N * 1 ≤ 536870912 by omega) hcells hslots hdg (fun q cA H1 hK1 hP1 hD1 hS1 => by
    cases xs_cB hK1 ht
    exact kk q H1 hP1 hD1 hS1)
theorem xw_newL (hexec : p.tables.exec = Jvm.exec) (hb : c.code = cc) (harr : (Cond.arrayClass .long).before args s = true) (hK : va_K D cl tys s) (t0 : Nat) {cI : ClassId} (ht : tys[t0]? = some (cI, .long)) (hP : va_P D cl ws H) (hD : va_D A ws) (hS : va_S A H0 H locs) (hA : ∀ q, H0.size ≤ q → A q)
    {n : Int32} {N : Nat} (hn : ¬ n < 0) (hN : n.toNatClampNeg = N) (hbytes : N ≤ 100000) (hcells : cells + 1 ≤ R.cells) (hslots : slots + N ≤ R.slots) (hdg : decode cc pc = .ok (.newarray .long, 2))
    (kk : ∀ (q : Nat) (H1 : Heap), va_P D cl (ws ++ [(q, .inl (cI, N, .inr (.inl (fun _ => 0))))]) H1 → va_D A (ws ++ [(q, .inl (cI, N, .inr (.inl (fun _ => 0))))]) → va_S A H0 H1 locs →
      W p l e R s m args below meth c H1 locs (cells + 1) (slots + N) Q (F0 m (pc + 2) ls (.ref q :: rest))) : W p l e R s m args below meth c H locs cells slots Q (F0 m pc ls (.int n :: rest)) :=
  va_newa (N' := N) (atype := .long) (a0 := (N, .inr (.inl (fun _ => 0)))) (ty := .long) hexec hb harr rfl hK hP hD hS hA (fun _ => rfl) hn hN (show N * 8 ≤ 536870912 by omega) hcells hslots hdg (fun q cA H1 hK1 hP1 hD1 hS1 => by
    cases xs_cL hK1 ht
    exact kk q H1 hP1 hD1 hS1)
/-- two contents of an array that agree where it has places -/
theorem xs_arr_eq {cA : ClassId} {n : Nat} {f g : Nat → Int32} (h : ∀ j, j < n → f j = g j) : vp_cell cA (n, .inl f) = vp_cell cA (n, .inl g) := by
  show arrV cA n (fun j => .int (f j)) = arrV cA n (fun j => .int (g j))
  unfold arrV
  have e : (fun j : Fin n => Value.int (f j.val)) = fun j : Fin n => Value.int (g j.val) := funext fun j => by rw [h j.val j.isLt]
  rw [e]
theorem xs_refill {cA : ClassId} {n q0 : Nat} {f g : Nat → Int32} (hP : va_P D cl ws H) (hD : va_D A ws) (ha : ws[q0]? = some (a, .inl (cA, n, .inl f))) (h : ∀ j, j < n → f j = g j) : va_P D cl (ws.set q0 (a, .inl (cA, n, .inl g))) H ∧ va_D A (ws.set q0 (a, .inl (cA, n, .inl g))) := by
  refine ⟨fun k q hq => ?_, hD.set ha⟩
  by_cases hk : k = q0
  · subst hk
    have hl := (List.getElem?_eq_some_iff.mp ha).1
    rw [List.getElem?_set_self hl] at hq
    cases hq
    have h9 : H[a]? = some (vp_cell cA (n, .inl f)) := hP k _ ha
    show H[a]? = some (vp_cell cA (n, .inl g))
    rw [h9, xs_arr_eq h]
  · rw [List.getElem?_set_ne (Ne.symm hk)] at hq
    exact hP k q hq
/-- a row's content up to i is v, from there as before -/
def xs_fl (i : Nat) (v : Int32) (f : Nat → Int32) : Nat → Int32 := fun j => if j < i then v else f j
theorem xs_fl_s (i : Nat) (v : Int32) (f : Nat → Int32) : upd (xs_fl i v f) i v = xs_fl (i + 1) v f := by
  funext j
  by_cases h : j = i
  · subst h; rw [pk_us]; simp [xs_fl]
  · rw [pk_un h]
    by_cases h2 : j < i
    · simp [xs_fl, h2, Nat.lt_succ_of_lt h2]
    · simp [xs_fl, h2, show ¬ j < i + 1 by omega]
theorem xs_fl_0 (v : Int32) (f : Nat → Int32) : xs_fl 0 v f = f := by funext j; simp [xs_fl]
theorem xs_fl_n {n : Nat} (v : Int32) (f : Nat → Int32) : ∀ j, j < n → xs_fl n v f j = (fun _ => v) j := fun j h => by simp [xs_fl, h]
/-- the same with a rule for each place -/
def xs_fg (i : Nat) (g f : Nat → Int32) : Nat → Int32 := fun j => if j < i then g j else f j
theorem xs_fg_s (i : Nat) (g f : Nat → Int32) : upd (xs_fg i g f) i (g i) = xs_fg (i + 1) g f := by
  funext j
  by_cases h : j = i
  · subst h; rw [pk_us]; simp [xs_fg]
  · rw [pk_un h]
    by_cases h2 : j < i
    · simp [xs_fg, h2, Nat.lt_succ_of_lt h2]
    · simp [xs_fg, h2, show ¬ j < i + 1 by omega]
theorem xs_fg_0 (g f : Nat → Int32) : xs_fg 0 g f = f := by funext j; simp [xs_fg]
theorem xs_fg_n {n : Nat} (g f : Nat → Int32) : ∀ j, j < n → xs_fg n g f j = g j := fun j h => by simp [xs_fg, h]
/-- stores of a truth value -/
theorem xw_zst (hexec : p.tables.exec = Jvm.exec) (hb : c.code = cc) (hK : va_K D cl tys s) (hP : va_P D cl ws H) (hD : va_D A ws) (hS : va_S A H0 H locs) (q0 t0 : Nat) {cA : ClassId} {n : Nat} {f : Nat → Int32} (ha : ws[q0]? = some (a, .inl (cA, n, .inl f))) (ht : tys[t0]? = some (cA, .boolean)) {j : Nat} {x : Int32} (h01 : x = 0 ∨ x = 1) (hj : j < n) (hn : n < 2 ^ 31) (hdg : decode cc pc = .ok (.bastore, 1))
    (kk : ∀ (H1 : Heap) (locs1 : List Loc), va_P D cl (ws.set q0 (a, .inl (cA, n, .inl (upd f j x)))) H1 → va_D A (ws.set q0 (a, .inl (cA, n, .inl (upd f j x)))) → va_S A H0 H1 locs1 → W p l e R s m args below meth c H1 locs1 cells slots Q (F0 m (pc + 1) ls rest)) : W p l e R s m args below meth c H locs cells slots Q (F0 m pc ls (.int x :: .int (nI j) :: .ref a :: rest)) :=
  va_zast hexec hb hK hP hD hS q0 t0 ha ht (vp_in_nI hj hn) hdg (fun H1 locs1 h1 h2 h3 => kk H1 locs1
    (by rw [nI_clamp (Nat.lt_trans hj hn), show vp_nar .boolean x = x by rcases h01 with h | h <;> (rw [h]; decide +kernel)] at h1; exact h1)
    (by rw [nI_clamp (Nat.lt_trans hj hn), show vp_nar .boolean x = x by rcases h01 with h | h <;> (rw [h]; decide +kernel)] at h2; exact h2) h3)
theorem xw_ist (hexec : p.tables.exec = Jvm.exec) (hb : c.code = cc) (hK : va_K D cl tys s) (hP : va_P D cl ws H) (hD : va_D A ws) (hS : va_S A H0 H locs) (q0 t0 : Nat) {cA : ClassId} {n : Nat} {f : Nat → Int32} (ha : ws[q0]? = some (a, .inl (cA, n, .inl f))) (ht : tys[t0]? = some (cA, .int)) {j : Nat} {x : Int32} (hj : j < n) (hn : n < 2 ^ 31) (hdg : decode cc pc = .ok (.iastore, 1))
    (kk : ∀ (H1 : Heap) (locs1 : List Loc), va_P D cl (ws.set q0 (a, .inl (cA, n, .inl (upd f j x)))) H1 → va_D A (ws.set q0 (a, .inl (cA, n, .inl (upd f j x)))) → va_S A H0 H1 locs1 → W p l e R s m args below meth c H1 locs1 cells slots Q (F0 m (pc + 1) ls rest)) : W p l e R s m args below meth c H locs cells slots Q (F0 m pc ls (.int x :: .int (nI j) :: .ref a :: rest)) := va_iast hexec hb hK hP hD hS q0 t0 ha ht (vp_in_nI hj hn) hdg (fun H1 locs1 h1 h2 h3 => kk H1 locs1 (by rw [nI_clamp (Nat.lt_trans hj hn)] at h1; exact h1) (by rw [nI_clamp (Nat.lt_trans hj hn)] at h2; exact h2) h3)
theorem xw_ild (hexec : p.tables.exec = Jvm.exec) (hb : c.code = cc) (hK : va_K D cl tys s) (hP : va_P D cl ws H) (q0 t0 : Nat) {cA : ClassId} {n : Nat} {f : Nat → Int32} (ha : ws[q0]? = some (a, .inl (cA, n, .inl f))) (ht : tys[t0]? = some (cA, .int)) {j : Nat} (hj : j < n) (hn : n < 2 ^ 31) (hdg : decode cc pc = .ok (.iaload, 1))
    (kk : W p l e R s m args below meth c H locs cells slots Q (F0 m (pc + 1) ls (.int (f j) :: rest))) : W p l e R s m args below meth c H locs cells slots Q (F0 m pc ls (.int (nI j) :: .ref a :: rest)) := va_iald hexec hb hK hP q0 t0 ha ht (vp_in_nI hj hn) hdg (by rw [nI_clamp (Nat.lt_trans hj hn)]; exact kk)
theorem xw_zld (hexec : p.tables.exec = Jvm.exec) (hb : c.code = cc) (hK : va_K D cl tys s) (hP : va_P D cl ws H) (q0 t0 : Nat) {cA : ClassId} {n : Nat} {f : Nat → Int32} (ha : ws[q0]? = some (a, .inl (cA, n, .inl f))) (ht : tys[t0]? = some (cA, .boolean)) {j : Nat} (hj : j < n) (hn : n < 2 ^ 31) (hdg : decode cc pc = .ok (.baload, 1))
    (kk : W p l e R s m args below meth c H locs cells slots Q (F0 m (pc + 1) ls (.int (f j) :: rest))) : W p l e R s m args below meth c H locs cells slots Q (F0 m pc ls (.int (nI j) :: .ref a :: rest)) := va_zald hexec hb hK hP q0 t0 ha ht (vp_in_nI hj hn) hdg (by rw [nI_clamp (Nat.lt_trans hj hn)]; exact kk)
theorem xs_inc (x n : Nat) : nI x + Int32.ofInt (n : Int) = nI (x + n) := by
  rw [← nI_add]; rfl
end XSA
end
section
section XSN
theorem xs_lt0_xor (x : Int32) {y : Int32} (hy : y.toBitVec.msb = false) : x ^^^ y < 0 ↔ x < 0 := by
  have h : ∀ z : Int32, z < 0 ↔ z.toBitVec.msb = true := fun z => by
    rw [Int32.lt_iff_toInt_lt, BitVec.msb_eq_toInt]
    exact (decide_eq_true_iff (p := z.toBitVec.toInt < 0)).symm
  rw [h, h, Int32.toBitVec_xor, BitVec.msb_xor, hy]
  simp
theorem xs_and_toInt (x : Int32) {m : Int32} (k : Nat) (hk : k < 31) (hm : m.toBitVec.toNat = 2 ^ k - 1) : (x &&& m).toInt = x.toInt % (2 ^ k : Nat) := by
  rw [pk_and x k hm, nI_toInt (Nat.lt_trans (Nat.mod_lt _ (Nat.two_pow_pos k)) (Nat.pow_lt_pow_right (by decide) hk))]
  have h : x.toInt = if 2 * x.toBitVec.toNat < 2 ^ 32 then (x.toBitVec.toNat : Int) else (x.toBitVec.toNat : Int) - (2 ^ 32 : Nat) := BitVec.toInt_eq_toNat_cond x.toBitVec
  rw [h]
  split
  · rfl
  · have e : (2 ^ 32 : Nat) = 2 ^ k * 2 ^ (32 - k) := by rw [← Nat.pow_add]; congr 1; omega
    rw [e, Int.natCast_mul, Int.sub_mul_emod_self_left]
    rfl
theorem xs_rem_toInt (x y : Int32) (d : Nat) (hd : y.toInt = d) (h1 : 1 < d) (h2 : d < 1000) : (x - x / y * y).toInt = x.toInt.tmod d := by
  have hl := Int32.le_toInt x
  have hu := Int32.toInt_lt x
  rw [Int32.toInt_sub, Int32.toInt_mul, Int32.toInt_div, hd]
  generalize x.toInt = a at hl hu ⊢
  have e1 : a.tdiv d * d + a.tmod d = a := by
    have := Int.mul_tdiv_add_tmod a d
    rw [Int.mul_comm] at this
    exact this
  have e2 : 0 ≤ a → 0 ≤ a.tmod d := fun h => Int.tmod_nonneg _ h
  have e3 : a.tmod d < d := Int.tmod_lt_of_pos _ (by omega)
  have e4 : a ≤ 0 → a.tmod d ≤ 0 := fun h => by
    have := Int.tmod_nonneg (a := -a) (d : Int) (by omega)
    rw [Int.neg_tmod] at this
    omega
  have e5 : -(d : Int) < a.tmod d := Int.lt_tmod_of_pos _ (by omega)
  generalize a.tmod d = r at *
  have e6 : -2147483648 ≤ a.tdiv d * d ∧ a.tdiv d * d < 2147483648 := by
    rcases Int.le_total 0 a with h | h
    · have := e2 h; omega
    · have := e4 h; omega
  have e7 : -2147483648 ≤ a.tdiv d ∧ a.tdiv d < 2147483648 := by
    generalize a.tdiv d = q at e6
    constructor
    · rcases Int.le_total 0 q with h | h
      · omega
      · have : q * d ≤ q * 1 := Int.mul_le_mul_of_nonpos_left h (by omega)
        omega
    · rcases Int.le_total 0 q with h | h
      · have : q * 1 ≤ q * d := Int.mul_le_mul_of_nonneg_left (by omega) h
        omega
      · omega
  have b : ∀ z : Int, -2147483648 ≤ z → z < 2147483648 → z.bmod (2 ^ 32) = z := fun z h3 h4 => Int.bmod_eq_of_le (by omega) (by omega)
  rw [b (a.tdiv d) e7.1 e7.2, b _ e6.1 e6.2, b _ (by omega) (by omega)]
  omega
/-- Math.floorMod by a power of two, as the reference's mask has it -/
theorem xs_floor_p (x y m : Int32) (k d : Nat) (hd : y.toInt = d) (hk : k < 9) (hp : d = 2 ^ k) (h1 : 1 < d) (hm : m.toBitVec.toNat = 2 ^ k - 1) (hx : ¬ x < 0 ∨ x - x / y * y = 0) : x - x / y * y = x &&& m := by
  have h2 : d < 1000 := by rw [hp]; exact Nat.lt_of_lt_of_le (Nat.pow_lt_pow_right (by decide) hk) (by decide)
  have e := xs_rem_toInt x y d hd h1 h2
  have f := xs_and_toInt x k (by omega) hm
  rw [← hp] at f
  have h0 : (0 : Int32).toInt = 0 := rfl
  have hx' : 0 ≤ x.toInt ∨ x.toInt.tmod d = 0 := by
    rcases hx with h | h
    · rw [Int32.lt_iff_toInt_lt, h0] at h; omega
    · rw [h, h0] at e; omega
  apply Int32.toInt_inj.mp
  rw [e, f]
  have g1 := Int.emod_lt_of_pos x.toInt (b := (d : Int)) (by omega)
  have g2 := Int.emod_nonneg x.toInt (b := (d : Int)) (by omega)
  rw [Int.tmod_eq_emod] at hx' ⊢
  by_cases h : 0 ≤ x.toInt ∨ (d : Int) ∣ x.toInt
  · rw [if_pos h]; omega
  · rw [if_neg h] at hx'
    simp only [Int.natAbs_natCast] at hx'
    omega
theorem xs_floor_n (x y m : Int32) (k d : Nat) (hd : y.toInt = d) (hk : k < 9) (hp : d = 2 ^ k) (h1 : 1 < d) (hm : m.toBitVec.toNat = 2 ^ k - 1) (hx : x < 0) (hne : ¬ x - x / y * y = 0) : x - x / y * y + y = x &&& m := by
  have h2 : d < 1000 := by rw [hp]; exact Nat.lt_of_lt_of_le (Nat.pow_lt_pow_right (by decide) hk) (by decide)
  have e := xs_rem_toInt x y d hd h1 h2
  have f := xs_and_toInt x k (by omega) hm
  rw [← hp] at f
  have h0 : (0 : Int32).toInt = 0 := rfl
  rw [Int32.lt_iff_toInt_lt, h0] at hx
  have hne' : ¬ x.toInt.tmod d = 0 := fun z => hne (Int32.toInt_inj.mp (by rw [e, z]; rfl))
  apply Int32.toInt_inj.mp
  rw [Int32.toInt_add, e, f, hd]
  have g1 := Int.emod_lt_of_pos x.toInt (b := (d : Int)) (by omega)
  have g2 := Int.emod_nonneg x.toInt (b := (d : Int)) (by omega)
  have h : ¬ (0 ≤ x.toInt ∨ (d : Int) ∣ x.toInt) := fun z => by
    rcases z with z | z
    · omega
    · exact hne' (Int.tmod_eq_zero_of_dvd z)
  rw [Int.tmod_eq_emod, if_neg h]
  simp only [Int.natAbs_natCast]
  rw [Int.bmod_eq_of_le (by omega) (by omega)]
  omega
/-- no number is below none -/
theorem xs_no0 {k : Int32} (h0 : ¬ k < 0) (h : k < nI 0) : False := h0 (by rw [nI_0] at h; exact h)
end XSN
theorem xs_ltN {a b : Nat} (h : ¬ nI b ≤ nI a) (ha : a < 2 ^ 31) (hb : b < 2 ^ 31) : a < b := by
  rcases Nat.lt_or_ge a b with q | q
  · exact q
  · exact absurd (nI_le q ha) h
theorem xs_geN {a b : Nat} (h : nI b ≤ nI a) (ha : a < 2 ^ 31) (hb : b < 2 ^ 31) : ¬ a < b := fun q => nI_ge q hb h
end
section
section XSM
variable {p : Program} {l : Launch} {e : Env} {R : Room} {s : State} {m : MethodId} {args : Array Value} {below : List Frame} {meth : Method} {c : Code} {H : Heap} {locs : List Loc} {cells slots : Nat} {Q : State → Prop}
variable {cc : ByteArray} {pc : Nat} {ls : Array Slot} {rest : List Value} {D : va_G} {cl : List vw_C} {A : Nat → Prop} {ws : va_W} {H0 : Heap}
/-- new int[n][k]: of the new rows nothing is said -/
theorem xw_mna (hexec : p.tables.exec = Jvm.exec) (hb : c.code = cc) {own : String} {index : Nat} (hown : s.vm.findClass own = some m.cls) (hclink : (Cond.classLink own index ("[" ++ (FieldType.array FieldType.int).toString)).before args s = true) (hover : (Cond.arrayOver (.array .int)).before args s = true) (harr : (Cond.arrayClass .int).before args s = true)
    (hP : va_P D cl ws H) (hD : va_D A ws) (hS : va_S A H0 H locs) {n k : Int32} (hn : ¬ n < 0) (hk : ¬ k < 0) {N K : Nat} (hN : n.toNatClampNeg = N) (hM : k.toNatClampNeg = K)
    (hb1 : N ≤ 1000) (hb2 : K ≤ 1000) (hcells : cells + (1 + N) ≤ R.cells) (hslots : slots + (N + N * K) ≤ R.slots) (hdg : decode cc pc = .ok (.multianewarray index 2, 4))
    (kk : ∀ (q : Nat) (H1 : Heap), va_P D cl ws H1 → va_D A ws → va_S A H0 H1 locs → W p l e R s m args below meth c H1 locs (cells + 1 + N) (slots + N + N * K) Q (F0 m (pc + 4) ls (.ref q :: rest))) : W p l e R s m args below meth c H locs cells slots Q (F0 m pc ls (.int k :: .int n :: rest)) := by
  subst hN
  subst hM
  intro T hT Xs
  obtain ⟨vm₁, cA, comp, -, -, -, -, -, X', step⟩ := Xs.multianewarray2F hexec (ty := .int) hown hclink hover harr (g := F0 m pc ls (.int k :: .int n :: rest)) rfl (by rw [hb]; exact hdg) rfl hn hk (by omega) (by show k.toNatClampNeg * 4 ≤ _; omega) (by omega) (by decide) (by decide) hcells hslots
  have f1 := (Jvm.Free.Multi.fill_facts (T.setVm vm₁) cA comp n.toNatClampNeg k.toNatClampNeg (defaultValue .int) n.toNatClampNeg).1
  have hold : ∀ x : Nat, x < H.size → (Jvm.Free.Multi.fill (T.setVm vm₁) cA comp n.toNatClampNeg k.toNatClampNeg (defaultValue .int) n.toNatClampNeg).heap[x]? = H[x]? := fun x hx => by
    have h9 := Jvm.Free.Multi.fill_old (T.setVm vm₁) cA comp n.toNatClampNeg k.toNatClampNeg (defaultValue .int) (a := x) (by show x < T.heap.size; rw [hT]; exact hx) n.toNatClampNeg
    rw [h9]
    show T.heap[x]? = H[x]?
    rw [hT]
  have hsz : H.size ≤ (Jvm.Free.Multi.fill (T.setVm vm₁) cA comp n.toNatClampNeg k.toNatClampNeg (defaultValue .int) n.toNatClampNeg).heap.size := by
    have e : (T.setVm vm₁).heap = H := hT
    rw [e] at f1
    omega
  generalize Jvm.Free.Multi.fill (T.setVm vm₁) cA comp n.toNatClampNeg k.toNatClampNeg (defaultValue .int) n.toNatClampNeg = F at X' step hold hsz
  obtain ⟨t, a1, b1⟩ := kk T.heap.size F.heap (hP.kept (fun i q hq => hold q.1 ((hP i q hq).lt))) hD ⟨Nat.le_trans hS.1 hsz, fun q h1 h2 => (hold q (Nat.lt_of_lt_of_le h1 hS.1)).trans (hS.2.1 q h1 h2), hS.2.2⟩ F rfl X'
  exact ⟨t, step t a1, b1⟩
end XSM
end
section
abbrev b_AR_fill : ByteArray := prog_22_method_103_code
def y_AR_fill : MethodName := ⟨"java/util/Arrays", "fill", "([II)V"⟩
def w_AR_fill : List Cond := .code y_AR_fill b_AR_fill 4 (none) :: xU
theorem d_AR_fill_0 : decode b_AR_fill 0 = .ok (.iconst 0, 1) := by decide +kernel
theorem d_AR_fill_1 : decode b_AR_fill 1 = .ok (.istore_n 2, 1) := by decide +kernel
theorem d_AR_fill_2 : decode b_AR_fill 2 = .ok (.aload_n 0, 1) := by decide +kernel
theorem d_AR_fill_3 : decode b_AR_fill 3 = .ok (.arraylength, 1) := by decide +kernel
theorem d_AR_fill_4 : decode b_AR_fill 4 = .ok (.istore_n 3, 1) := by decide +kernel
theorem d_AR_fill_5 : decode b_AR_fill 5 = .ok (.iload_n 2, 1) := by decide +kernel
theorem d_AR_fill_6 : decode b_AR_fill 6 = .ok (.iload_n 3, 1) := by decide +kernel
theorem d_AR_fill_7 : decode b_AR_fill 7 = .ok (.if_icmp .ge 13, 3) := by decide +kernel
theorem d_AR_fill_10 : decode b_AR_fill 10 = .ok (.aload_n 0, 1) := by decide +kernel
theorem d_AR_fill_11 : decode b_AR_fill 11 = .ok (.iload_n 2, 1) := by decide +kernel
theorem d_AR_fill_12 : decode b_AR_fill 12 = .ok (.iload_n 1, 1) := by decide +kernel
theorem d_AR_fill_13 : decode b_AR_fill 13 = .ok (.iastore, 1) := by decide +kernel
theorem d_AR_fill_14 : decode b_AR_fill 14 = .ok (.iinc 2 1, 3) := by decide +kernel
theorem d_AR_fill_17 : decode b_AR_fill 17 = .ok (.goto (-12), 3) := by decide +kernel
theorem d_AR_fill_20 : decode b_AR_fill 20 = .ok (.return_, 1) := by decide +kernel
end
section
abbrev b_CR_has : ByteArray := prog_2_method_2_code
def y_CR_has : MethodName := ⟨"ExploreShares$Crew", "has", "(I)Z"⟩
def w_CR_has : List Cond := .code y_CR_has b_CR_has 2 (some .boolean) :: xU
theorem d_CR_has_0 : decode b_CR_has 0 = .ok (.iload_n 1, 1) := by decide +kernel
theorem d_CR_has_1 : decode b_CR_has 1 = .ok (.ifCond .lt 15, 3) := by decide +kernel
theorem d_CR_has_4 : decode b_CR_has 4 = .ok (.iload_n 1, 1) := by decide +kernel
theorem d_CR_has_5 : decode b_CR_has 5 = .ok (.aload_n 0, 1) := by decide +kernel
theorem d_CR_has_6 : decode b_CR_has 6 = .ok (.getfield 28, 3) := by decide +kernel
theorem d_CR_has_9 : decode b_CR_has 9 = .ok (.if_icmp .ge 7, 3) := by decide +kernel
theorem d_CR_has_12 : decode b_CR_has 12 = .ok (.iconst 1, 1) := by decide +kernel
theorem d_CR_has_13 : decode b_CR_has 13 = .ok (.goto 4, 3) := by decide +kernel
theorem d_CR_has_16 : decode b_CR_has 16 = .ok (.iconst 0, 1) := by decide +kernel
theorem d_CR_has_17 : decode b_CR_has 17 = .ok (.ireturn, 1) := by decide +kernel
abbrev b_CR_startAnew : ByteArray := prog_2_method_3_code
def y_CR_startAnew : MethodName := ⟨"ExploreShares$Crew", "startAnew", "()V"⟩
def w_CR_startAnew : List Cond := .code y_CR_startAnew b_CR_startAnew 1 (none) :: xU
theorem d_CR_startAnew_0 : decode b_CR_startAnew 0 = .ok (.aload_n 0, 1) := by decide +kernel
theorem d_CR_startAnew_1 : decode b_CR_startAnew 1 = .ok (.getfield 15, 3) := by decide +kernel
theorem d_CR_startAnew_4 : decode b_CR_startAnew 4 = .ok (.iconst 1, 1) := by decide +kernel
theorem d_CR_startAnew_5 : decode b_CR_startAnew 5 = .ok (.invokestatic 35, 3) := by decide +kernel
theorem d_CR_startAnew_8 : decode b_CR_startAnew 8 = .ok (.aload_n 0, 1) := by decide +kernel
theorem d_CR_startAnew_9 : decode b_CR_startAnew 9 = .ok (.getfield 19, 3) := by decide +kernel
theorem d_CR_startAnew_12 : decode b_CR_startAnew 12 = .ok (.iconst 0, 1) := by decide +kernel
theorem d_CR_startAnew_13 : decode b_CR_startAnew 13 = .ok (.invokestatic 47, 3) := by decide +kernel
theorem d_CR_startAnew_16 : decode b_CR_startAnew 16 = .ok (.aload_n 0, 1) := by decide +kernel
theorem d_CR_startAnew_17 : decode b_CR_startAnew 17 = .ok (.getfield 22, 3) := by decide +kernel
theorem d_CR_startAnew_20 : decode b_CR_startAnew 20 = .ok (.iconst 0, 1) := by decide +kernel
theorem d_CR_startAnew_21 : decode b_CR_startAnew 21 = .ok (.invokestatic 47, 3) := by decide +kernel
theorem d_CR_startAnew_24 : decode b_CR_startAnew 24 = .ok (.aload_n 0, 1) := by decide +kernel
theorem d_CR_startAnew_25 : decode b_CR_startAnew 25 = .ok (.getfield 25, 3) := by decide +kernel
theorem d_CR_startAnew_28 : decode b_CR_startAnew 28 = .ok (.iconst 0, 1) := by decide +kernel
theorem d_CR_startAnew_29 : decode b_CR_startAnew 29 = .ok (.invokestatic 47, 3) := by decide +kernel
theorem d_CR_startAnew_32 : decode b_CR_startAnew 32 = .ok (.aload_n 0, 1) := by decide +kernel
theorem d_CR_startAnew_33 : decode b_CR_startAnew 33 = .ok (.aload_n 0, 1) := by decide +kernel
theorem d_CR_startAnew_34 : decode b_CR_startAnew 34 = .ok (.getfield 28, 3) := by decide +kernel
theorem d_CR_startAnew_37 : decode b_CR_startAnew 37 = .ok (.putfield 32, 3) := by decide +kernel
theorem d_CR_startAnew_40 : decode b_CR_startAnew 40 = .ok (.aload_n 0, 1) := by decide +kernel
theorem d_CR_startAnew_41 : decode b_CR_startAnew 41 = .ok (.iconst 0, 1) := by decide +kernel
theorem d_CR_startAnew_42 : decode b_CR_startAnew 42 = .ok (.putfield 53, 3) := by decide +kernel
theorem d_CR_startAnew_45 : decode b_CR_startAnew 45 = .ok (.return_, 1) := by decide +kernel
abbrev b_CR_init : ByteArray := prog_2_method_1_code
def y_CR_init : MethodName := ⟨"ExploreShares$Crew", "<init>", "(I)V"⟩
def w_CR_init : List Cond := .code y_CR_init b_CR_init 3 (none) :: xU
theorem d_CR_init_0 : decode b_CR_init 0 = .ok (.aload_n 0, 1) := by decide +kernel
theorem d_CR_init_1 : decode b_CR_init 1 = .ok (.invokespecial 3, 3) := by decide +kernel
theorem d_CR_init_4 : decode b_CR_init 4 = .ok (.aload_n 0, 1) := by decide +kernel
theorem d_CR_init_5 : decode b_CR_init 5 = .ok (.sipush 200, 3) := by decide +kernel
theorem d_CR_init_8 : decode b_CR_init 8 = .ok (.newarray .int, 2) := by decide +kernel
theorem d_CR_init_10 : decode b_CR_init 10 = .ok (.putfield 9, 3) := by decide +kernel
theorem d_CR_init_13 : decode b_CR_init 13 = .ok (.aload_n 0, 1) := by decide +kernel
theorem d_CR_init_14 : decode b_CR_init 14 = .ok (.bipush 16, 2) := by decide +kernel
theorem d_CR_init_16 : decode b_CR_init 16 = .ok (.newarray .boolean, 2) := by decide +kernel
theorem d_CR_init_18 : decode b_CR_init 18 = .ok (.putfield 15, 3) := by decide +kernel
theorem d_CR_init_21 : decode b_CR_init 21 = .ok (.aload_n 0, 1) := by decide +kernel
theorem d_CR_init_22 : decode b_CR_init 22 = .ok (.bipush 16, 2) := by decide +kernel
theorem d_CR_init_24 : decode b_CR_init 24 = .ok (.newarray .int, 2) := by decide +kernel
theorem d_CR_init_26 : decode b_CR_init 26 = .ok (.putfield 19, 3) := by decide +kernel
theorem d_CR_init_29 : decode b_CR_init 29 = .ok (.aload_n 0, 1) := by decide +kernel
theorem d_CR_init_30 : decode b_CR_init 30 = .ok (.bipush 16, 2) := by decide +kernel
theorem d_CR_init_32 : decode b_CR_init 32 = .ok (.newarray .int, 2) := by decide +kernel
theorem d_CR_init_34 : decode b_CR_init 34 = .ok (.putfield 22, 3) := by decide +kernel
theorem d_CR_init_37 : decode b_CR_init 37 = .ok (.aload_n 0, 1) := by decide +kernel
theorem d_CR_init_38 : decode b_CR_init 38 = .ok (.bipush 16, 2) := by decide +kernel
theorem d_CR_init_40 : decode b_CR_init 40 = .ok (.newarray .int, 2) := by decide +kernel
theorem d_CR_init_42 : decode b_CR_init 42 = .ok (.putfield 25, 3) := by decide +kernel
theorem d_CR_init_45 : decode b_CR_init 45 = .ok (.aload_n 0, 1) := by decide +kernel
theorem d_CR_init_46 : decode b_CR_init 46 = .ok (.iload_n 1, 1) := by decide +kernel
theorem d_CR_init_47 : decode b_CR_init 47 = .ok (.putfield 28, 3) := by decide +kernel
theorem d_CR_init_50 : decode b_CR_init 50 = .ok (.aload_n 0, 1) := by decide +kernel
theorem d_CR_init_51 : decode b_CR_init 51 = .ok (.iload_n 1, 1) := by decide +kernel
theorem d_CR_init_52 : decode b_CR_init 52 = .ok (.putfield 32, 3) := by decide +kernel
theorem d_CR_init_55 : decode b_CR_init 55 = .ok (.aload_n 0, 1) := by decide +kernel
theorem d_CR_init_56 : decode b_CR_init 56 = .ok (.getfield 15, 3) := by decide +kernel
theorem d_CR_init_59 : decode b_CR_init 59 = .ok (.iconst 1, 1) := by decide +kernel
theorem d_CR_init_60 : decode b_CR_init 60 = .ok (.invokestatic 35, 3) := by decide +kernel
theorem d_CR_init_63 : decode b_CR_init 63 = .ok (.iconst 0, 1) := by decide +kernel
theorem d_CR_init_64 : decode b_CR_init 64 = .ok (.istore_n 2, 1) := by decide +kernel
theorem d_CR_init_65 : decode b_CR_init 65 = .ok (.iload_n 2, 1) := by decide +kernel
theorem d_CR_init_66 : decode b_CR_init 66 = .ok (.sipush 200, 3) := by decide +kernel
theorem d_CR_init_69 : decode b_CR_init 69 = .ok (.if_icmp .ge 23, 3) := by decide +kernel
theorem d_CR_init_72 : decode b_CR_init 72 = .ok (.aload_n 0, 1) := by decide +kernel
theorem d_CR_init_73 : decode b_CR_init 73 = .ok (.getfield 9, 3) := by decide +kernel
theorem d_CR_init_76 : decode b_CR_init 76 = .ok (.iload_n 2, 1) := by decide +kernel
theorem d_CR_init_77 : decode b_CR_init 77 = .ok (.iload_n 1, 1) := by decide +kernel
theorem d_CR_init_78 : decode b_CR_init 78 = .ok (.iload_n 2, 1) := by decide +kernel
theorem d_CR_init_79 : decode b_CR_init 79 = .ok (.invokestatic 39, 3) := by decide +kernel
theorem d_CR_init_82 : decode b_CR_init 82 = .ok (.invokestatic 43, 3) := by decide +kernel
theorem d_CR_init_85 : decode b_CR_init 85 = .ok (.iastore, 1) := by decide +kernel
theorem d_CR_init_86 : decode b_CR_init 86 = .ok (.iinc 2 1, 3) := by decide +kernel
theorem d_CR_init_89 : decode b_CR_init 89 = .ok (.goto (-24), 3) := by decide +kernel
theorem d_CR_init_92 : decode b_CR_init 92 = .ok (.return_, 1) := by decide +kernel
end
section
abbrev b_FL_init : ByteArray := prog_3_method_1_code
def y_FL_init : MethodName := ⟨"ExploreShares$FailLog", "<init>", "()V"⟩
def w_FL_init : List Cond := .code y_FL_init b_FL_init 1 (none) :: xU
theorem d_FL_init_0 : decode b_FL_init 0 = .ok (.aload_n 0, 1) := by decide +kernel
theorem d_FL_init_1 : decode b_FL_init 1 = .ok (.invokespecial 3, 3) := by decide +kernel
theorem d_FL_init_4 : decode b_FL_init 4 = .ok (.aload_n 0, 1) := by decide +kernel
theorem d_FL_init_5 : decode b_FL_init 5 = .ok (.bipush 16, 2) := by decide +kernel
theorem d_FL_init_7 : decode b_FL_init 7 = .ok (.newarray .int, 2) := by decide +kernel
theorem d_FL_init_9 : decode b_FL_init 9 = .ok (.putfield 9, 3) := by decide +kernel
theorem d_FL_init_12 : decode b_FL_init 12 = .ok (.aload_n 0, 1) := by decide +kernel
theorem d_FL_init_13 : decode b_FL_init 13 = .ok (.bipush 16, 2) := by decide +kernel
theorem d_FL_init_15 : decode b_FL_init 15 = .ok (.newarray .int, 2) := by decide +kernel
theorem d_FL_init_17 : decode b_FL_init 17 = .ok (.putfield 15, 3) := by decide +kernel
theorem d_FL_init_20 : decode b_FL_init 20 = .ok (.aload_n 0, 1) := by decide +kernel
theorem d_FL_init_21 : decode b_FL_init 21 = .ok (.bipush 16, 2) := by decide +kernel
theorem d_FL_init_23 : decode b_FL_init 23 = .ok (.newarray .int, 2) := by decide +kernel
theorem d_FL_init_25 : decode b_FL_init 25 = .ok (.putfield 18, 3) := by decide +kernel
theorem d_FL_init_28 : decode b_FL_init 28 = .ok (.return_, 1) := by decide +kernel
end
section
abbrev b_FP_placeOf : ByteArray := prog_4_method_2_code
def y_FP_placeOf : MethodName := ⟨"ExploreShares$FailPlan", "placeOf", "(II)I"⟩
def w_FP_placeOf : List Cond := .code y_FP_placeOf b_FP_placeOf 4 (some .int) :: xU
theorem d_FP_placeOf_0 : decode b_FP_placeOf 0 = .ok (.iconst 0, 1) := by decide +kernel
theorem d_FP_placeOf_1 : decode b_FP_placeOf 1 = .ok (.istore_n 3, 1) := by decide +kernel
theorem d_FP_placeOf_2 : decode b_FP_placeOf 2 = .ok (.iload_n 3, 1) := by decide +kernel
theorem d_FP_placeOf_3 : decode b_FP_placeOf 3 = .ok (.aload_n 0, 1) := by decide +kernel
theorem d_FP_placeOf_4 : decode b_FP_placeOf 4 = .ok (.getfield 21, 3) := by decide +kernel
theorem d_FP_placeOf_7 : decode b_FP_placeOf 7 = .ok (.if_icmp .ge 31, 3) := by decide +kernel
theorem d_FP_placeOf_38 : decode b_FP_placeOf 38 = .ok (.iconst (-1), 1) := by decide +kernel
theorem d_FP_placeOf_39 : decode b_FP_placeOf 39 = .ok (.ireturn, 1) := by decide +kernel
abbrev b_FP_tell : ByteArray := prog_4_method_3_code
def y_FP_tell : MethodName := ⟨"ExploreShares$FailPlan", "tell", "(III)V"⟩
def w_FP_tell : List Cond := .code y_FP_tell b_FP_tell 5 (none) :: xU
theorem d_FP_tell_0 : decode b_FP_tell 0 = .ok (.aload_n 0, 1) := by decide +kernel
theorem d_FP_tell_1 : decode b_FP_tell 1 = .ok (.iload_n 1, 1) := by decide +kernel
theorem d_FP_tell_2 : decode b_FP_tell 2 = .ok (.iload_n 2, 1) := by decide +kernel
theorem d_FP_tell_3 : decode b_FP_tell 3 = .ok (.invokevirtual 25, 3) := by decide +kernel
theorem d_FP_tell_6 : decode b_FP_tell 6 = .ok (.istore 4, 2) := by decide +kernel
theorem d_FP_tell_8 : decode b_FP_tell 8 = .ok (.iload 4, 2) := by decide +kernel
theorem d_FP_tell_10 : decode b_FP_tell 10 = .ok (.iconst (-1), 1) := by decide +kernel
theorem d_FP_tell_11 : decode b_FP_tell 11 = .ok (.if_icmp .eq 16, 3) := by decide +kernel
theorem d_FP_tell_27 : decode b_FP_tell 27 = .ok (.iload 4, 2) := by decide +kernel
theorem d_FP_tell_29 : decode b_FP_tell 29 = .ok (.iconst (-1), 1) := by decide +kernel
theorem d_FP_tell_30 : decode b_FP_tell 30 = .ok (.if_icmp .eq 14, 3) := by decide +kernel
theorem d_FP_tell_44 : decode b_FP_tell 44 = .ok (.iload_n 3, 1) := by decide +kernel
theorem d_FP_tell_45 : decode b_FP_tell 45 = .ok (.ifCond .eq 52, 3) := by decide +kernel
theorem d_FP_tell_48 : decode b_FP_tell 48 = .ok (.aload_n 0, 1) := by decide +kernel
theorem d_FP_tell_49 : decode b_FP_tell 49 = .ok (.getfield 21, 3) := by decide +kernel
theorem d_FP_tell_52 : decode b_FP_tell 52 = .ok (.bipush 20, 2) := by decide +kernel
theorem d_FP_tell_54 : decode b_FP_tell 54 = .ok (.if_icmp .ge 43, 3) := by decide +kernel
theorem d_FP_tell_57 : decode b_FP_tell 57 = .ok (.aload_n 0, 1) := by decide +kernel
theorem d_FP_tell_58 : decode b_FP_tell 58 = .ok (.getfield 9, 3) := by decide +kernel
theorem d_FP_tell_61 : decode b_FP_tell 61 = .ok (.aload_n 0, 1) := by decide +kernel
theorem d_FP_tell_62 : decode b_FP_tell 62 = .ok (.getfield 21, 3) := by decide +kernel
theorem d_FP_tell_65 : decode b_FP_tell 65 = .ok (.iload_n 1, 1) := by decide +kernel
theorem d_FP_tell_66 : decode b_FP_tell 66 = .ok (.iastore, 1) := by decide +kernel
theorem d_FP_tell_67 : decode b_FP_tell 67 = .ok (.aload_n 0, 1) := by decide +kernel
theorem d_FP_tell_68 : decode b_FP_tell 68 = .ok (.getfield 15, 3) := by decide +kernel
theorem d_FP_tell_71 : decode b_FP_tell 71 = .ok (.aload_n 0, 1) := by decide +kernel
theorem d_FP_tell_72 : decode b_FP_tell 72 = .ok (.getfield 21, 3) := by decide +kernel
theorem d_FP_tell_75 : decode b_FP_tell 75 = .ok (.iload_n 2, 1) := by decide +kernel
theorem d_FP_tell_76 : decode b_FP_tell 76 = .ok (.iastore, 1) := by decide +kernel
theorem d_FP_tell_77 : decode b_FP_tell 77 = .ok (.aload_n 0, 1) := by decide +kernel
theorem d_FP_tell_78 : decode b_FP_tell 78 = .ok (.getfield 18, 3) := by decide +kernel
theorem d_FP_tell_81 : decode b_FP_tell 81 = .ok (.aload_n 0, 1) := by decide +kernel
theorem d_FP_tell_82 : decode b_FP_tell 82 = .ok (.getfield 21, 3) := by decide +kernel
theorem d_FP_tell_85 : decode b_FP_tell 85 = .ok (.iload_n 3, 1) := by decide +kernel
theorem d_FP_tell_86 : decode b_FP_tell 86 = .ok (.iastore, 1) := by decide +kernel
theorem d_FP_tell_87 : decode b_FP_tell 87 = .ok (.aload_n 0, 1) := by decide +kernel
theorem d_FP_tell_88 : decode b_FP_tell 88 = .ok (.dup, 1) := by decide +kernel
theorem d_FP_tell_89 : decode b_FP_tell 89 = .ok (.getfield 21, 3) := by decide +kernel
theorem d_FP_tell_92 : decode b_FP_tell 92 = .ok (.iconst 1, 1) := by decide +kernel
theorem d_FP_tell_93 : decode b_FP_tell 93 = .ok (.iadd, 1) := by decide +kernel
theorem d_FP_tell_94 : decode b_FP_tell 94 = .ok (.putfield 21, 3) := by decide +kernel
theorem d_FP_tell_97 : decode b_FP_tell 97 = .ok (.return_, 1) := by decide +kernel
abbrev b_FP_init : ByteArray := prog_4_method_1_code
def y_FP_init : MethodName := ⟨"ExploreShares$FailPlan", "<init>", "()V"⟩
def w_FP_init : List Cond := .code y_FP_init b_FP_init 1 (none) :: xU
theorem d_FP_init_0 : decode b_FP_init 0 = .ok (.aload_n 0, 1) := by decide +kernel
theorem d_FP_init_1 : decode b_FP_init 1 = .ok (.invokespecial 3, 3) := by decide +kernel
theorem d_FP_init_4 : decode b_FP_init 4 = .ok (.aload_n 0, 1) := by decide +kernel
theorem d_FP_init_5 : decode b_FP_init 5 = .ok (.bipush 20, 2) := by decide +kernel
theorem d_FP_init_7 : decode b_FP_init 7 = .ok (.newarray .int, 2) := by decide +kernel
theorem d_FP_init_9 : decode b_FP_init 9 = .ok (.putfield 9, 3) := by decide +kernel
theorem d_FP_init_12 : decode b_FP_init 12 = .ok (.aload_n 0, 1) := by decide +kernel
theorem d_FP_init_13 : decode b_FP_init 13 = .ok (.bipush 20, 2) := by decide +kernel
theorem d_FP_init_15 : decode b_FP_init 15 = .ok (.newarray .int, 2) := by decide +kernel
theorem d_FP_init_17 : decode b_FP_init 17 = .ok (.putfield 15, 3) := by decide +kernel
theorem d_FP_init_20 : decode b_FP_init 20 = .ok (.aload_n 0, 1) := by decide +kernel
theorem d_FP_init_21 : decode b_FP_init 21 = .ok (.bipush 20, 2) := by decide +kernel
theorem d_FP_init_23 : decode b_FP_init 23 = .ok (.newarray .int, 2) := by decide +kernel
theorem d_FP_init_25 : decode b_FP_init 25 = .ok (.putfield 18, 3) := by decide +kernel
theorem d_FP_init_28 : decode b_FP_init 28 = .ok (.return_, 1) := by decide +kernel
end
section
abbrev b_LE_emptySets : ByteArray := prog_5_method_3_code
def y_LE_emptySets : MethodName := ⟨"ExploreShares$Levels", "emptySets", "()V"⟩
def w_LE_emptySets : List Cond := .code y_LE_emptySets b_LE_emptySets 1 (none) :: xU
theorem d_LE_emptySets_0 : decode b_LE_emptySets 0 = .ok (.aload_n 0, 1) := by decide +kernel
theorem d_LE_emptySets_1 : decode b_LE_emptySets 1 = .ok (.getfield 21, 3) := by decide +kernel
theorem d_LE_emptySets_4 : decode b_LE_emptySets 4 = .ok (.iconst 0, 1) := by decide +kernel
theorem d_LE_emptySets_5 : decode b_LE_emptySets 5 = .ok (.invokestatic 38, 3) := by decide +kernel
theorem d_LE_emptySets_8 : decode b_LE_emptySets 8 = .ok (.return_, 1) := by decide +kernel
abbrev b_LE_startAnew : ByteArray := prog_5_method_2_code
def y_LE_startAnew : MethodName := ⟨"ExploreShares$Levels", "startAnew", "()V"⟩
def w_LE_startAnew : List Cond := .code y_LE_startAnew b_LE_startAnew 1 (none) :: xU
theorem d_LE_startAnew_0 : decode b_LE_startAnew 0 = .ok (.aload_n 0, 1) := by decide +kernel
theorem d_LE_startAnew_1 : decode b_LE_startAnew 1 = .ok (.getfield 9, 3) := by decide +kernel
theorem d_LE_startAnew_4 : decode b_LE_startAnew 4 = .ok (.iconst (-1), 1) := by decide +kernel
theorem d_LE_startAnew_5 : decode b_LE_startAnew 5 = .ok (.invokestatic 25, 3) := by decide +kernel
theorem d_LE_startAnew_8 : decode b_LE_startAnew 8 = .ok (.aload_n 0, 1) := by decide +kernel
theorem d_LE_startAnew_9 : decode b_LE_startAnew 9 = .ok (.iconst 0, 1) := by decide +kernel
theorem d_LE_startAnew_10 : decode b_LE_startAnew 10 = .ok (.putfield 31, 3) := by decide +kernel
theorem d_LE_startAnew_13 : decode b_LE_startAnew 13 = .ok (.aload_n 0, 1) := by decide +kernel
theorem d_LE_startAnew_14 : decode b_LE_startAnew 14 = .ok (.invokevirtual 35, 3) := by decide +kernel
theorem d_LE_startAnew_17 : decode b_LE_startAnew 17 = .ok (.return_, 1) := by decide +kernel
abbrev b_LE_cameInAll : ByteArray := prog_5_method_4_code
def y_LE_cameInAll : MethodName := ⟨"ExploreShares$Levels", "cameInAll", "()I"⟩
def w_LE_cameInAll : List Cond := .code y_LE_cameInAll b_LE_cameInAll 1 (some .int) :: xU
theorem d_LE_cameInAll_0 : decode b_LE_cameInAll 0 = .ok (.aload_n 0, 1) := by decide +kernel
theorem d_LE_cameInAll_1 : decode b_LE_cameInAll 1 = .ok (.getfield 18, 3) := by decide +kernel
theorem d_LE_cameInAll_4 : decode b_LE_cameInAll 4 = .ok (.aload_n 0, 1) := by decide +kernel
theorem d_LE_cameInAll_5 : decode b_LE_cameInAll 5 = .ok (.getfield 31, 3) := by decide +kernel
theorem d_LE_cameInAll_8 : decode b_LE_cameInAll 8 = .ok (.iaload, 1) := by decide +kernel
theorem d_LE_cameInAll_9 : decode b_LE_cameInAll 9 = .ok (.ireturn, 1) := by decide +kernel
abbrev b_LE_init : ByteArray := prog_5_method_1_code
def y_LE_init : MethodName := ⟨"ExploreShares$Levels", "<init>", "()V"⟩
def w_LE_init : List Cond := .code y_LE_init b_LE_init 1 (none) :: xU
theorem d_LE_init_0 : decode b_LE_init 0 = .ok (.aload_n 0, 1) := by decide +kernel
theorem d_LE_init_1 : decode b_LE_init 1 = .ok (.invokespecial 3, 3) := by decide +kernel
theorem d_LE_init_4 : decode b_LE_init 4 = .ok (.aload_n 0, 1) := by decide +kernel
theorem d_LE_init_5 : decode b_LE_init 5 = .ok (.sipush 200, 3) := by decide +kernel
theorem d_LE_init_8 : decode b_LE_init 8 = .ok (.newarray .int, 2) := by decide +kernel
theorem d_LE_init_10 : decode b_LE_init 10 = .ok (.putfield 9, 3) := by decide +kernel
theorem d_LE_init_13 : decode b_LE_init 13 = .ok (.aload_n 0, 1) := by decide +kernel
theorem d_LE_init_14 : decode b_LE_init 14 = .ok (.sipush 200, 3) := by decide +kernel
theorem d_LE_init_17 : decode b_LE_init 17 = .ok (.newarray .int, 2) := by decide +kernel
theorem d_LE_init_19 : decode b_LE_init 19 = .ok (.putfield 15, 3) := by decide +kernel
theorem d_LE_init_22 : decode b_LE_init 22 = .ok (.aload_n 0, 1) := by decide +kernel
theorem d_LE_init_23 : decode b_LE_init 23 = .ok (.sipush 201, 3) := by decide +kernel
theorem d_LE_init_26 : decode b_LE_init 26 = .ok (.newarray .int, 2) := by decide +kernel
theorem d_LE_init_28 : decode b_LE_init 28 = .ok (.putfield 18, 3) := by decide +kernel
theorem d_LE_init_31 : decode b_LE_init 31 = .ok (.aload_n 0, 1) := by decide +kernel
theorem d_LE_init_32 : decode b_LE_init 32 = .ok (.sipush 200, 3) := by decide +kernel
theorem d_LE_init_35 : decode b_LE_init 35 = .ok (.newarray .boolean, 2) := by decide +kernel
theorem d_LE_init_37 : decode b_LE_init 37 = .ok (.putfield 21, 3) := by decide +kernel
theorem d_LE_init_40 : decode b_LE_init 40 = .ok (.aload_n 0, 1) := by decide +kernel
theorem d_LE_init_41 : decode b_LE_init 41 = .ok (.getfield 9, 3) := by decide +kernel
theorem d_LE_init_44 : decode b_LE_init 44 = .ok (.iconst (-1), 1) := by decide +kernel
theorem d_LE_init_45 : decode b_LE_init 45 = .ok (.invokestatic 25, 3) := by decide +kernel
theorem d_LE_init_48 : decode b_LE_init 48 = .ok (.return_, 1) := by decide +kernel
end
section
abbrev b_LI_init : ByteArray := prog_6_method_1_code
def y_LI_init : MethodName := ⟨"ExploreShares$Lists", "<init>", "()V"⟩
def w_LI_init : List Cond := .code y_LI_init b_LI_init 1 (none) :: xU
theorem d_LI_init_0 : decode b_LI_init 0 = .ok (.aload_n 0, 1) := by decide +kernel
theorem d_LI_init_1 : decode b_LI_init 1 = .ok (.invokespecial 3, 3) := by decide +kernel
theorem d_LI_init_4 : decode b_LI_init 4 = .ok (.aload_n 0, 1) := by decide +kernel
theorem d_LI_init_5 : decode b_LI_init 5 = .ok (.bipush 16, 2) := by decide +kernel
theorem d_LI_init_7 : decode b_LI_init 7 = .ok (.sipush 200, 3) := by decide +kernel
theorem d_LI_init_10 : decode b_LI_init 10 = .ok (.multianewarray 9 2, 4) := by decide +kernel
theorem d_LI_init_14 : decode b_LI_init 14 = .ok (.putfield 11, 3) := by decide +kernel
theorem d_LI_init_17 : decode b_LI_init 17 = .ok (.aload_n 0, 1) := by decide +kernel
theorem d_LI_init_18 : decode b_LI_init 18 = .ok (.bipush 16, 2) := by decide +kernel
theorem d_LI_init_20 : decode b_LI_init 20 = .ok (.newarray .int, 2) := by decide +kernel
theorem d_LI_init_22 : decode b_LI_init 22 = .ok (.putfield 16, 3) := by decide +kernel
theorem d_LI_init_25 : decode b_LI_init 25 = .ok (.aload_n 0, 1) := by decide +kernel
theorem d_LI_init_26 : decode b_LI_init 26 = .ok (.bipush 16, 2) := by decide +kernel
theorem d_LI_init_28 : decode b_LI_init 28 = .ok (.newarray .int, 2) := by decide +kernel
theorem d_LI_init_30 : decode b_LI_init 30 = .ok (.putfield 20, 3) := by decide +kernel
theorem d_LI_init_33 : decode b_LI_init 33 = .ok (.aload_n 0, 1) := by decide +kernel
theorem d_LI_init_34 : decode b_LI_init 34 = .ok (.bipush 16, 2) := by decide +kernel
theorem d_LI_init_36 : decode b_LI_init 36 = .ok (.newarray .int, 2) := by decide +kernel
theorem d_LI_init_38 : decode b_LI_init 38 = .ok (.putfield 23, 3) := by decide +kernel
theorem d_LI_init_41 : decode b_LI_init 41 = .ok (.aload_n 0, 1) := by decide +kernel
theorem d_LI_init_42 : decode b_LI_init 42 = .ok (.bipush 16, 2) := by decide +kernel
theorem d_LI_init_44 : decode b_LI_init 44 = .ok (.newarray .boolean, 2) := by decide +kernel
theorem d_LI_init_46 : decode b_LI_init 46 = .ok (.putfield 26, 3) := by decide +kernel
theorem d_LI_init_49 : decode b_LI_init 49 = .ok (.aload_n 0, 1) := by decide +kernel
theorem d_LI_init_50 : decode b_LI_init 50 = .ok (.bipush 16, 2) := by decide +kernel
theorem d_LI_init_52 : decode b_LI_init 52 = .ok (.newarray .int, 2) := by decide +kernel
theorem d_LI_init_54 : decode b_LI_init 54 = .ok (.putfield 30, 3) := by decide +kernel
theorem d_LI_init_57 : decode b_LI_init 57 = .ok (.return_, 1) := by decide +kernel
end
section
abbrev b_MA_floorMod : ByteArray := prog_17_method_50_code
def y_MA_floorMod : MethodName := ⟨"java/lang/Math", "floorMod", "(II)I"⟩
def w_MA_floorMod : List Cond := .code y_MA_floorMod b_MA_floorMod 3 (some .int) :: xU
theorem d_MA_floorMod_0 : decode b_MA_floorMod 0 = .ok (.iload_n 0, 1) := by decide +kernel
theorem d_MA_floorMod_1 : decode b_MA_floorMod 1 = .ok (.iload_n 1, 1) := by decide +kernel
theorem d_MA_floorMod_2 : decode b_MA_floorMod 2 = .ok (.irem, 1) := by decide +kernel
theorem d_MA_floorMod_3 : decode b_MA_floorMod 3 = .ok (.istore_n 2, 1) := by decide +kernel
theorem d_MA_floorMod_4 : decode b_MA_floorMod 4 = .ok (.iload_n 0, 1) := by decide +kernel
theorem d_MA_floorMod_5 : decode b_MA_floorMod 5 = .ok (.iload_n 1, 1) := by decide +kernel
theorem d_MA_floorMod_6 : decode b_MA_floorMod 6 = .ok (.ixor, 1) := by decide +kernel
theorem d_MA_floorMod_7 : decode b_MA_floorMod 7 = .ok (.ifCond .ge 11, 3) := by decide +kernel
theorem d_MA_floorMod_10 : decode b_MA_floorMod 10 = .ok (.iload_n 2, 1) := by decide +kernel
theorem d_MA_floorMod_11 : decode b_MA_floorMod 11 = .ok (.ifCond .eq 7, 3) := by decide +kernel
theorem d_MA_floorMod_14 : decode b_MA_floorMod 14 = .ok (.iload_n 2, 1) := by decide +kernel
theorem d_MA_floorMod_15 : decode b_MA_floorMod 15 = .ok (.iload_n 1, 1) := by decide +kernel
theorem d_MA_floorMod_16 : decode b_MA_floorMod 16 = .ok (.iadd, 1) := by decide +kernel
theorem d_MA_floorMod_17 : decode b_MA_floorMod 17 = .ok (.ireturn, 1) := by decide +kernel
theorem d_MA_floorMod_18 : decode b_MA_floorMod 18 = .ok (.iload_n 2, 1) := by decide +kernel
theorem d_MA_floorMod_19 : decode b_MA_floorMod 19 = .ok (.ireturn, 1) := by decide +kernel
end
section
abbrev b_MO_thrown : ByteArray := prog_12_method_2_code
def y_MO_thrown : MethodName := ⟨"ExploreSharesModel", "thrown", "()I"⟩
def w_MO_thrown : List Cond := .code y_MO_thrown b_MO_thrown 1 (some .int) :: xU
theorem d_MO_thrown_0 : decode b_MO_thrown 0 = .ok (.aload_n 0, 1) := by decide +kernel
theorem d_MO_thrown_1 : decode b_MO_thrown 1 = .ok (.getfield 90, 3) := by decide +kernel
theorem d_MO_thrown_4 : decode b_MO_thrown 4 = .ok (.ireturn, 1) := by decide +kernel
abbrev b_MO_throwing : ByteArray := prog_12_method_3_code
def y_MO_throwing : MethodName := ⟨"ExploreSharesModel", "throwing", "(ZZZ)Z"⟩
def w_MO_throwing : List Cond := .code y_MO_throwing b_MO_throwing 4 (some .boolean) :: xU
theorem d_MO_throwing_0 : decode b_MO_throwing 0 = .ok (.aload_n 0, 1) := by decide +kernel
theorem d_MO_throwing_1 : decode b_MO_throwing 1 = .ok (.iload_n 1, 1) := by decide +kernel
theorem d_MO_throwing_2 : decode b_MO_throwing 2 = .ok (.ifCond .eq 7, 3) := by decide +kernel
theorem d_MO_throwing_5 : decode b_MO_throwing 5 = .ok (.iconst 1, 1) := by decide +kernel
theorem d_MO_throwing_6 : decode b_MO_throwing 6 = .ok (.goto 20, 3) := by decide +kernel
theorem d_MO_throwing_9 : decode b_MO_throwing 9 = .ok (.iload_n 2, 1) := by decide +kernel
theorem d_MO_throwing_10 : decode b_MO_throwing 10 = .ok (.ifCond .eq 7, 3) := by decide +kernel
theorem d_MO_throwing_13 : decode b_MO_throwing 13 = .ok (.iconst 2, 1) := by decide +kernel
theorem d_MO_throwing_14 : decode b_MO_throwing 14 = .ok (.goto 12, 3) := by decide +kernel
theorem d_MO_throwing_17 : decode b_MO_throwing 17 = .ok (.iload_n 3, 1) := by decide +kernel
theorem d_MO_throwing_18 : decode b_MO_throwing 18 = .ok (.ifCond .eq 7, 3) := by decide +kernel
theorem d_MO_throwing_25 : decode b_MO_throwing 25 = .ok (.iconst 0, 1) := by decide +kernel
theorem d_MO_throwing_26 : decode b_MO_throwing 26 = .ok (.putfield 90, 3) := by decide +kernel
theorem d_MO_throwing_29 : decode b_MO_throwing 29 = .ok (.aload_n 0, 1) := by decide +kernel
theorem d_MO_throwing_30 : decode b_MO_throwing 30 = .ok (.getfield 90, 3) := by decide +kernel
theorem d_MO_throwing_33 : decode b_MO_throwing 33 = .ok (.ifCond .le 7, 3) := by decide +kernel
theorem d_MO_throwing_36 : decode b_MO_throwing 36 = .ok (.iconst 1, 1) := by decide +kernel
theorem d_MO_throwing_37 : decode b_MO_throwing 37 = .ok (.goto 4, 3) := by decide +kernel
theorem d_MO_throwing_40 : decode b_MO_throwing 40 = .ok (.iconst 0, 1) := by decide +kernel
theorem d_MO_throwing_41 : decode b_MO_throwing 41 = .ok (.ireturn, 1) := by decide +kernel
abbrev b_MO_isOf : ByteArray := prog_12_method_4_code
def y_MO_isOf : MethodName := ⟨"ExploreSharesModel", "isOf", "(II)Z"⟩
def w_MO_isOf : List Cond := .code y_MO_isOf b_MO_isOf 2 (some .boolean) :: xU
theorem d_MO_isOf_0 : decode b_MO_isOf 0 = .ok (.iload_n 0, 1) := by decide +kernel
theorem d_MO_isOf_1 : decode b_MO_isOf 1 = .ok (.ifCond .lt 12, 3) := by decide +kernel
theorem d_MO_isOf_4 : decode b_MO_isOf 4 = .ok (.iload_n 0, 1) := by decide +kernel
theorem d_MO_isOf_5 : decode b_MO_isOf 5 = .ok (.iload_n 1, 1) := by decide +kernel
theorem d_MO_isOf_6 : decode b_MO_isOf 6 = .ok (.if_icmp .ge 7, 3) := by decide +kernel
theorem d_MO_isOf_9 : decode b_MO_isOf 9 = .ok (.iconst 1, 1) := by decide +kernel
theorem d_MO_isOf_10 : decode b_MO_isOf 10 = .ok (.goto 4, 3) := by decide +kernel
theorem d_MO_isOf_13 : decode b_MO_isOf 13 = .ok (.iconst 0, 1) := by decide +kernel
theorem d_MO_isOf_14 : decode b_MO_isOf 14 = .ok (.ireturn, 1) := by decide +kernel
abbrev b_MO_forget : ByteArray := prog_12_method_5_code
def y_MO_forget : MethodName := ⟨"ExploreSharesModel", "forget", "()V"⟩
def w_MO_forget : List Cond := .code y_MO_forget b_MO_forget 2 (none) :: xU
theorem d_MO_forget_0 : decode b_MO_forget 0 = .ok (.aload_n 0, 1) := by decide +kernel
theorem d_MO_forget_1 : decode b_MO_forget 1 = .ok (.iconst 0, 1) := by decide +kernel
theorem d_MO_forget_2 : decode b_MO_forget 2 = .ok (.putfield 93, 3) := by decide +kernel
theorem d_MO_forget_5 : decode b_MO_forget 5 = .ok (.aload_n 0, 1) := by decide +kernel
theorem d_MO_forget_6 : decode b_MO_forget 6 = .ok (.iconst 0, 1) := by decide +kernel
theorem d_MO_forget_7 : decode b_MO_forget 7 = .ok (.putfield 97, 3) := by decide +kernel
theorem d_MO_forget_10 : decode b_MO_forget 10 = .ok (.aload_n 0, 1) := by decide +kernel
theorem d_MO_forget_11 : decode b_MO_forget 11 = .ok (.iconst 0, 1) := by decide +kernel
theorem d_MO_forget_12 : decode b_MO_forget 12 = .ok (.putfield 100, 3) := by decide +kernel
theorem d_MO_forget_15 : decode b_MO_forget 15 = .ok (.aload_n 0, 1) := by decide +kernel
theorem d_MO_forget_16 : decode b_MO_forget 16 = .ok (.iconst 0, 1) := by decide +kernel
theorem d_MO_forget_17 : decode b_MO_forget 17 = .ok (.putfield 103, 3) := by decide +kernel
theorem d_MO_forget_20 : decode b_MO_forget 20 = .ok (.aload_n 0, 1) := by decide +kernel
theorem d_MO_forget_21 : decode b_MO_forget 21 = .ok (.iconst 0, 1) := by decide +kernel
theorem d_MO_forget_22 : decode b_MO_forget 22 = .ok (.putfield 106, 3) := by decide +kernel
theorem d_MO_forget_25 : decode b_MO_forget 25 = .ok (.aload_n 0, 1) := by decide +kernel
theorem d_MO_forget_26 : decode b_MO_forget 26 = .ok (.iconst 0, 1) := by decide +kernel
theorem d_MO_forget_27 : decode b_MO_forget 27 = .ok (.putfield 109, 3) := by decide +kernel
theorem d_MO_forget_30 : decode b_MO_forget 30 = .ok (.iconst 0, 1) := by decide +kernel
theorem d_MO_forget_31 : decode b_MO_forget 31 = .ok (.istore_n 1, 1) := by decide +kernel
theorem d_MO_forget_32 : decode b_MO_forget 32 = .ok (.iload_n 1, 1) := by decide +kernel
theorem d_MO_forget_33 : decode b_MO_forget 33 = .ok (.sipush 200, 3) := by decide +kernel
theorem d_MO_forget_36 : decode b_MO_forget 36 = .ok (.if_icmp .ge 30, 3) := by decide +kernel
theorem d_MO_forget_39 : decode b_MO_forget 39 = .ok (.aload_n 0, 1) := by decide +kernel
theorem d_MO_forget_40 : decode b_MO_forget 40 = .ok (.getfield 25, 3) := by decide +kernel
theorem d_MO_forget_43 : decode b_MO_forget 43 = .ok (.iload_n 1, 1) := by decide +kernel
theorem d_MO_forget_44 : decode b_MO_forget 44 = .ok (.iconst (-1), 1) := by decide +kernel
theorem d_MO_forget_45 : decode b_MO_forget 45 = .ok (.iastore, 1) := by decide +kernel
theorem d_MO_forget_46 : decode b_MO_forget 46 = .ok (.aload_n 0, 1) := by decide +kernel
theorem d_MO_forget_47 : decode b_MO_forget 47 = .ok (.getfield 28, 3) := by decide +kernel
theorem d_MO_forget_50 : decode b_MO_forget 50 = .ok (.iload_n 1, 1) := by decide +kernel
theorem d_MO_forget_51 : decode b_MO_forget 51 = .ok (.iconst 0, 1) := by decide +kernel
theorem d_MO_forget_52 : decode b_MO_forget 52 = .ok (.iastore, 1) := by decide +kernel
theorem d_MO_forget_53 : decode b_MO_forget 53 = .ok (.aload_n 0, 1) := by decide +kernel
theorem d_MO_forget_54 : decode b_MO_forget 54 = .ok (.getfield 34, 3) := by decide +kernel
theorem d_MO_forget_57 : decode b_MO_forget 57 = .ok (.iload_n 1, 1) := by decide +kernel
theorem d_MO_forget_58 : decode b_MO_forget 58 = .ok (.iconst 0, 1) := by decide +kernel
theorem d_MO_forget_59 : decode b_MO_forget 59 = .ok (.bastore, 1) := by decide +kernel
theorem d_MO_forget_60 : decode b_MO_forget 60 = .ok (.iinc 1 1, 3) := by decide +kernel
theorem d_MO_forget_63 : decode b_MO_forget 63 = .ok (.goto (-31), 3) := by decide +kernel
theorem d_MO_forget_66 : decode b_MO_forget 66 = .ok (.iconst 0, 1) := by decide +kernel
theorem d_MO_forget_67 : decode b_MO_forget 67 = .ok (.istore_n 1, 1) := by decide +kernel
theorem d_MO_forget_68 : decode b_MO_forget 68 = .ok (.iload_n 1, 1) := by decide +kernel
theorem d_MO_forget_69 : decode b_MO_forget 69 = .ok (.bipush 16, 2) := by decide +kernel
theorem d_MO_forget_71 : decode b_MO_forget 71 = .ok (.if_icmp .ge 56, 3) := by decide +kernel
theorem d_MO_forget_74 : decode b_MO_forget 74 = .ok (.aload_n 0, 1) := by decide +kernel
theorem d_MO_forget_75 : decode b_MO_forget 75 = .ok (.getfield 38, 3) := by decide +kernel
theorem d_MO_forget_78 : decode b_MO_forget 78 = .ok (.iload_n 1, 1) := by decide +kernel
theorem d_MO_forget_79 : decode b_MO_forget 79 = .ok (.iload_n 1, 1) := by decide +kernel
theorem d_MO_forget_80 : decode b_MO_forget 80 = .ok (.aload_n 0, 1) := by decide +kernel
theorem d_MO_forget_81 : decode b_MO_forget 81 = .ok (.getfield 80, 3) := by decide +kernel
theorem d_MO_forget_84 : decode b_MO_forget 84 = .ok (.if_icmp .ge 7, 3) := by decide +kernel
theorem d_MO_forget_87 : decode b_MO_forget 87 = .ok (.iconst 1, 1) := by decide +kernel
theorem d_MO_forget_88 : decode b_MO_forget 88 = .ok (.goto 4, 3) := by decide +kernel
theorem d_MO_forget_91 : decode b_MO_forget 91 = .ok (.iconst 0, 1) := by decide +kernel
theorem d_MO_forget_92 : decode b_MO_forget 92 = .ok (.bastore, 1) := by decide +kernel
theorem d_MO_forget_93 : decode b_MO_forget 93 = .ok (.aload_n 0, 1) := by decide +kernel
theorem d_MO_forget_94 : decode b_MO_forget 94 = .ok (.getfield 44, 3) := by decide +kernel
theorem d_MO_forget_97 : decode b_MO_forget 97 = .ok (.iload_n 1, 1) := by decide +kernel
theorem d_MO_forget_98 : decode b_MO_forget 98 = .ok (.iconst 0, 1) := by decide +kernel
theorem d_MO_forget_99 : decode b_MO_forget 99 = .ok (.iastore, 1) := by decide +kernel
theorem d_MO_forget_100 : decode b_MO_forget 100 = .ok (.aload_n 0, 1) := by decide +kernel
theorem d_MO_forget_101 : decode b_MO_forget 101 = .ok (.getfield 47, 3) := by decide +kernel
theorem d_MO_forget_104 : decode b_MO_forget 104 = .ok (.iload_n 1, 1) := by decide +kernel
theorem d_MO_forget_105 : decode b_MO_forget 105 = .ok (.iconst 0, 1) := by decide +kernel
theorem d_MO_forget_106 : decode b_MO_forget 106 = .ok (.iastore, 1) := by decide +kernel
theorem d_MO_forget_107 : decode b_MO_forget 107 = .ok (.aload_n 0, 1) := by decide +kernel
theorem d_MO_forget_108 : decode b_MO_forget 108 = .ok (.getfield 50, 3) := by decide +kernel
theorem d_MO_forget_111 : decode b_MO_forget 111 = .ok (.iload_n 1, 1) := by decide +kernel
theorem d_MO_forget_112 : decode b_MO_forget 112 = .ok (.iconst 0, 1) := by decide +kernel
theorem d_MO_forget_113 : decode b_MO_forget 113 = .ok (.iastore, 1) := by decide +kernel
theorem d_MO_forget_114 : decode b_MO_forget 114 = .ok (.aload_n 0, 1) := by decide +kernel
theorem d_MO_forget_115 : decode b_MO_forget 115 = .ok (.getfield 62, 3) := by decide +kernel
theorem d_MO_forget_118 : decode b_MO_forget 118 = .ok (.iload_n 1, 1) := by decide +kernel
theorem d_MO_forget_119 : decode b_MO_forget 119 = .ok (.iconst 0, 1) := by decide +kernel
theorem d_MO_forget_120 : decode b_MO_forget 120 = .ok (.iastore, 1) := by decide +kernel
theorem d_MO_forget_121 : decode b_MO_forget 121 = .ok (.iinc 1 1, 3) := by decide +kernel
theorem d_MO_forget_124 : decode b_MO_forget 124 = .ok (.goto (-56), 3) := by decide +kernel
theorem d_MO_forget_127 : decode b_MO_forget 127 = .ok (.return_, 1) := by decide +kernel
abbrev b_MO_init : ByteArray := prog_12_method_1_code
def y_MO_init : MethodName := ⟨"ExploreSharesModel", "<init>", "(II)V"⟩
def w_MO_init : List Cond := .code y_MO_init b_MO_init 3 (none) :: xU
theorem d_MO_init_0 : decode b_MO_init 0 = .ok (.aload_n 0, 1) := by decide +kernel
theorem d_MO_init_1 : decode b_MO_init 1 = .ok (.invokespecial 1, 3) := by decide +kernel
theorem d_MO_init_4 : decode b_MO_init 4 = .ok (.aload_n 0, 1) := by decide +kernel
theorem d_MO_init_5 : decode b_MO_init 5 = .ok (.sipush 600, 3) := by decide +kernel
theorem d_MO_init_8 : decode b_MO_init 8 = .ok (.newarray .int, 2) := by decide +kernel
theorem d_MO_init_10 : decode b_MO_init 10 = .ok (.putfield 7, 3) := by decide +kernel
theorem d_MO_init_13 : decode b_MO_init 13 = .ok (.aload_n 0, 1) := by decide +kernel
theorem d_MO_init_14 : decode b_MO_init 14 = .ok (.sipush 600, 3) := by decide +kernel
theorem d_MO_init_17 : decode b_MO_init 17 = .ok (.newarray .int, 2) := by decide +kernel
theorem d_MO_init_19 : decode b_MO_init 19 = .ok (.putfield 13, 3) := by decide +kernel
theorem d_MO_init_22 : decode b_MO_init 22 = .ok (.aload_n 0, 1) := by decide +kernel
theorem d_MO_init_23 : decode b_MO_init 23 = .ok (.bipush 20, 2) := by decide +kernel
theorem d_MO_init_25 : decode b_MO_init 25 = .ok (.newarray .int, 2) := by decide +kernel
theorem d_MO_init_27 : decode b_MO_init 27 = .ok (.putfield 16, 3) := by decide +kernel
theorem d_MO_init_30 : decode b_MO_init 30 = .ok (.aload_n 0, 1) := by decide +kernel
theorem d_MO_init_31 : decode b_MO_init 31 = .ok (.bipush 20, 2) := by decide +kernel
theorem d_MO_init_33 : decode b_MO_init 33 = .ok (.newarray .int, 2) := by decide +kernel
theorem d_MO_init_35 : decode b_MO_init 35 = .ok (.putfield 19, 3) := by decide +kernel
theorem d_MO_init_38 : decode b_MO_init 38 = .ok (.aload_n 0, 1) := by decide +kernel
theorem d_MO_init_39 : decode b_MO_init 39 = .ok (.bipush 20, 2) := by decide +kernel
theorem d_MO_init_41 : decode b_MO_init 41 = .ok (.newarray .int, 2) := by decide +kernel
theorem d_MO_init_43 : decode b_MO_init 43 = .ok (.putfield 22, 3) := by decide +kernel
theorem d_MO_init_46 : decode b_MO_init 46 = .ok (.aload_n 0, 1) := by decide +kernel
theorem d_MO_init_47 : decode b_MO_init 47 = .ok (.sipush 200, 3) := by decide +kernel
theorem d_MO_init_50 : decode b_MO_init 50 = .ok (.newarray .int, 2) := by decide +kernel
theorem d_MO_init_52 : decode b_MO_init 52 = .ok (.putfield 25, 3) := by decide +kernel
theorem d_MO_init_55 : decode b_MO_init 55 = .ok (.aload_n 0, 1) := by decide +kernel
theorem d_MO_init_56 : decode b_MO_init 56 = .ok (.sipush 200, 3) := by decide +kernel
theorem d_MO_init_59 : decode b_MO_init 59 = .ok (.newarray .int, 2) := by decide +kernel
theorem d_MO_init_61 : decode b_MO_init 61 = .ok (.putfield 28, 3) := by decide +kernel
theorem d_MO_init_64 : decode b_MO_init 64 = .ok (.aload_n 0, 1) := by decide +kernel
theorem d_MO_init_65 : decode b_MO_init 65 = .ok (.sipush 201, 3) := by decide +kernel
theorem d_MO_init_68 : decode b_MO_init 68 = .ok (.newarray .int, 2) := by decide +kernel
theorem d_MO_init_70 : decode b_MO_init 70 = .ok (.putfield 31, 3) := by decide +kernel
theorem d_MO_init_73 : decode b_MO_init 73 = .ok (.aload_n 0, 1) := by decide +kernel
theorem d_MO_init_74 : decode b_MO_init 74 = .ok (.sipush 200, 3) := by decide +kernel
theorem d_MO_init_77 : decode b_MO_init 77 = .ok (.newarray .boolean, 2) := by decide +kernel
theorem d_MO_init_79 : decode b_MO_init 79 = .ok (.putfield 34, 3) := by decide +kernel
theorem d_MO_init_82 : decode b_MO_init 82 = .ok (.aload_n 0, 1) := by decide +kernel
theorem d_MO_init_83 : decode b_MO_init 83 = .ok (.bipush 16, 2) := by decide +kernel
theorem d_MO_init_85 : decode b_MO_init 85 = .ok (.newarray .boolean, 2) := by decide +kernel
theorem d_MO_init_87 : decode b_MO_init 87 = .ok (.putfield 38, 3) := by decide +kernel
theorem d_MO_init_90 : decode b_MO_init 90 = .ok (.aload_n 0, 1) := by decide +kernel
theorem d_MO_init_91 : decode b_MO_init 91 = .ok (.bipush 16, 2) := by decide +kernel
theorem d_MO_init_93 : decode b_MO_init 93 = .ok (.newarray .boolean, 2) := by decide +kernel
theorem d_MO_init_95 : decode b_MO_init 95 = .ok (.putfield 41, 3) := by decide +kernel
theorem d_MO_init_98 : decode b_MO_init 98 = .ok (.aload_n 0, 1) := by decide +kernel
theorem d_MO_init_99 : decode b_MO_init 99 = .ok (.bipush 16, 2) := by decide +kernel
theorem d_MO_init_101 : decode b_MO_init 101 = .ok (.newarray .int, 2) := by decide +kernel
theorem d_MO_init_103 : decode b_MO_init 103 = .ok (.putfield 44, 3) := by decide +kernel
theorem d_MO_init_106 : decode b_MO_init 106 = .ok (.aload_n 0, 1) := by decide +kernel
theorem d_MO_init_107 : decode b_MO_init 107 = .ok (.bipush 16, 2) := by decide +kernel
theorem d_MO_init_109 : decode b_MO_init 109 = .ok (.newarray .int, 2) := by decide +kernel
theorem d_MO_init_111 : decode b_MO_init 111 = .ok (.putfield 47, 3) := by decide +kernel
theorem d_MO_init_114 : decode b_MO_init 114 = .ok (.aload_n 0, 1) := by decide +kernel
theorem d_MO_init_115 : decode b_MO_init 115 = .ok (.bipush 16, 2) := by decide +kernel
theorem d_MO_init_117 : decode b_MO_init 117 = .ok (.newarray .int, 2) := by decide +kernel
theorem d_MO_init_119 : decode b_MO_init 119 = .ok (.putfield 50, 3) := by decide +kernel
theorem d_MO_init_122 : decode b_MO_init 122 = .ok (.aload_n 0, 1) := by decide +kernel
theorem d_MO_init_123 : decode b_MO_init 123 = .ok (.bipush 16, 2) := by decide +kernel
theorem d_MO_init_125 : decode b_MO_init 125 = .ok (.newarray .int, 2) := by decide +kernel
theorem d_MO_init_127 : decode b_MO_init 127 = .ok (.putfield 53, 3) := by decide +kernel
theorem d_MO_init_130 : decode b_MO_init 130 = .ok (.aload_n 0, 1) := by decide +kernel
theorem d_MO_init_131 : decode b_MO_init 131 = .ok (.bipush 16, 2) := by decide +kernel
theorem d_MO_init_133 : decode b_MO_init 133 = .ok (.newarray .int, 2) := by decide +kernel
theorem d_MO_init_135 : decode b_MO_init 135 = .ok (.putfield 56, 3) := by decide +kernel
theorem d_MO_init_138 : decode b_MO_init 138 = .ok (.aload_n 0, 1) := by decide +kernel
theorem d_MO_init_139 : decode b_MO_init 139 = .ok (.bipush 16, 2) := by decide +kernel
theorem d_MO_init_141 : decode b_MO_init 141 = .ok (.newarray .int, 2) := by decide +kernel
theorem d_MO_init_143 : decode b_MO_init 143 = .ok (.putfield 59, 3) := by decide +kernel
theorem d_MO_init_146 : decode b_MO_init 146 = .ok (.aload_n 0, 1) := by decide +kernel
theorem d_MO_init_147 : decode b_MO_init 147 = .ok (.bipush 16, 2) := by decide +kernel
theorem d_MO_init_149 : decode b_MO_init 149 = .ok (.newarray .int, 2) := by decide +kernel
theorem d_MO_init_151 : decode b_MO_init 151 = .ok (.putfield 62, 3) := by decide +kernel
theorem d_MO_init_154 : decode b_MO_init 154 = .ok (.aload_n 0, 1) := by decide +kernel
theorem d_MO_init_155 : decode b_MO_init 155 = .ok (.sipush 128, 3) := by decide +kernel
theorem d_MO_init_158 : decode b_MO_init 158 = .ok (.newarray .int, 2) := by decide +kernel
theorem d_MO_init_160 : decode b_MO_init 160 = .ok (.putfield 65, 3) := by decide +kernel
theorem d_MO_init_163 : decode b_MO_init 163 = .ok (.aload_n 0, 1) := by decide +kernel
theorem d_MO_init_164 : decode b_MO_init 164 = .ok (.bipush 16, 2) := by decide +kernel
theorem d_MO_init_166 : decode b_MO_init 166 = .ok (.newarray .int, 2) := by decide +kernel
theorem d_MO_init_168 : decode b_MO_init 168 = .ok (.putfield 68, 3) := by decide +kernel
theorem d_MO_init_171 : decode b_MO_init 171 = .ok (.aload_n 0, 1) := by decide +kernel
theorem d_MO_init_172 : decode b_MO_init 172 = .ok (.bipush 16, 2) := by decide +kernel
theorem d_MO_init_174 : decode b_MO_init 174 = .ok (.newarray .int, 2) := by decide +kernel
theorem d_MO_init_176 : decode b_MO_init 176 = .ok (.putfield 71, 3) := by decide +kernel
theorem d_MO_init_179 : decode b_MO_init 179 = .ok (.aload_n 0, 1) := by decide +kernel
theorem d_MO_init_180 : decode b_MO_init 180 = .ok (.bipush 16, 2) := by decide +kernel
theorem d_MO_init_182 : decode b_MO_init 182 = .ok (.newarray .int, 2) := by decide +kernel
theorem d_MO_init_184 : decode b_MO_init 184 = .ok (.putfield 74, 3) := by decide +kernel
theorem d_MO_init_187 : decode b_MO_init 187 = .ok (.aload_n 0, 1) := by decide +kernel
theorem d_MO_init_188 : decode b_MO_init 188 = .ok (.sipush 200, 3) := by decide +kernel
theorem d_MO_init_191 : decode b_MO_init 191 = .ok (.newarray .boolean, 2) := by decide +kernel
theorem d_MO_init_193 : decode b_MO_init 193 = .ok (.putfield 77, 3) := by decide +kernel
theorem d_MO_init_196 : decode b_MO_init 196 = .ok (.aload_n 0, 1) := by decide +kernel
theorem d_MO_init_197 : decode b_MO_init 197 = .ok (.iconst 1, 1) := by decide +kernel
theorem d_MO_init_198 : decode b_MO_init 198 = .ok (.iload_n 1, 1) := by decide +kernel
theorem d_MO_init_199 : decode b_MO_init 199 = .ok (.iconst 1, 1) := by decide +kernel
theorem d_MO_init_200 : decode b_MO_init 200 = .ok (.isub, 1) := by decide +kernel
theorem d_MO_init_201 : decode b_MO_init 201 = .ok (.bipush 15, 2) := by decide +kernel
theorem d_MO_init_203 : decode b_MO_init 203 = .ok (.iand, 1) := by decide +kernel
theorem d_MO_init_204 : decode b_MO_init 204 = .ok (.iadd, 1) := by decide +kernel
theorem d_MO_init_205 : decode b_MO_init 205 = .ok (.putfield 80, 3) := by decide +kernel
theorem d_MO_init_208 : decode b_MO_init 208 = .ok (.aload_n 0, 1) := by decide +kernel
theorem d_MO_init_209 : decode b_MO_init 209 = .ok (.iconst 1, 1) := by decide +kernel
theorem d_MO_init_210 : decode b_MO_init 210 = .ok (.iload_n 2, 1) := by decide +kernel
theorem d_MO_init_211 : decode b_MO_init 211 = .ok (.iconst 1, 1) := by decide +kernel
theorem d_MO_init_212 : decode b_MO_init 212 = .ok (.isub, 1) := by decide +kernel
theorem d_MO_init_213 : decode b_MO_init 213 = .ok (.bipush 7, 2) := by decide +kernel
theorem d_MO_init_215 : decode b_MO_init 215 = .ok (.iand, 1) := by decide +kernel
theorem d_MO_init_216 : decode b_MO_init 216 = .ok (.iadd, 1) := by decide +kernel
theorem d_MO_init_217 : decode b_MO_init 217 = .ok (.putfield 84, 3) := by decide +kernel
theorem d_MO_init_220 : decode b_MO_init 220 = .ok (.aload_n 0, 1) := by decide +kernel
theorem d_MO_init_221 : decode b_MO_init 221 = .ok (.invokevirtual 87, 3) := by decide +kernel
theorem d_MO_init_224 : decode b_MO_init 224 = .ok (.return_, 1) := by decide +kernel
abbrev b_MO_state : ByteArray := prog_12_method_6_code
def y_MO_state : MethodName := ⟨"ExploreSharesModel", "state", "()I"⟩
def w_MO_state : List Cond := .code y_MO_state b_MO_state 1 (some .int) :: xU
theorem d_MO_state_0 : decode b_MO_state 0 = .ok (.aload_n 0, 1) := by decide +kernel
theorem d_MO_state_1 : decode b_MO_state 1 = .ok (.aload_n 0, 1) := by decide +kernel
theorem d_MO_state_2 : decode b_MO_state 2 = .ok (.getfield 112, 3) := by decide +kernel
theorem d_MO_state_5 : decode b_MO_state 5 = .ok (.sipush 200, 3) := by decide +kernel
theorem d_MO_state_8 : decode b_MO_state 8 = .ok (.if_icmp .ne 7, 3) := by decide +kernel
theorem d_MO_state_15 : decode b_MO_state 15 = .ok (.iconst 0, 1) := by decide +kernel
theorem d_MO_state_16 : decode b_MO_state 16 = .ok (.iconst 0, 1) := by decide +kernel
theorem d_MO_state_17 : decode b_MO_state 17 = .ok (.iconst 0, 1) := by decide +kernel
theorem d_MO_state_18 : decode b_MO_state 18 = .ok (.invokevirtual 115, 3) := by decide +kernel
theorem d_MO_state_21 : decode b_MO_state 21 = .ok (.ifCond .eq 5, 3) := by decide +kernel
theorem d_MO_state_26 : decode b_MO_state 26 = .ok (.aload_n 0, 1) := by decide +kernel
theorem d_MO_state_27 : decode b_MO_state 27 = .ok (.invokevirtual 87, 3) := by decide +kernel
theorem d_MO_state_30 : decode b_MO_state 30 = .ok (.aload_n 0, 1) := by decide +kernel
theorem d_MO_state_31 : decode b_MO_state 31 = .ok (.dup, 1) := by decide +kernel
theorem d_MO_state_32 : decode b_MO_state 32 = .ok (.getfield 112, 3) := by decide +kernel
theorem d_MO_state_35 : decode b_MO_state 35 = .ok (.iconst 1, 1) := by decide +kernel
theorem d_MO_state_36 : decode b_MO_state 36 = .ok (.iadd, 1) := by decide +kernel
theorem d_MO_state_37 : decode b_MO_state 37 = .ok (.putfield 112, 3) := by decide +kernel
theorem d_MO_state_40 : decode b_MO_state 40 = .ok (.aload_n 0, 1) := by decide +kernel
theorem d_MO_state_41 : decode b_MO_state 41 = .ok (.getfield 112, 3) := by decide +kernel
theorem d_MO_state_44 : decode b_MO_state 44 = .ok (.iconst 1, 1) := by decide +kernel
theorem d_MO_state_45 : decode b_MO_state 45 = .ok (.isub, 1) := by decide +kernel
theorem d_MO_state_46 : decode b_MO_state 46 = .ok (.ireturn, 1) := by decide +kernel
abbrev b_MO_move : ByteArray := prog_12_method_7_code
def y_MO_move : MethodName := ⟨"ExploreSharesModel", "move", "(II)I"⟩
def w_MO_move : List Cond := .code y_MO_move b_MO_move 3 (some .int) :: xU
theorem d_MO_move_0 : decode b_MO_move 0 = .ok (.aload_n 0, 1) := by decide +kernel
theorem d_MO_move_1 : decode b_MO_move 1 = .ok (.iload_n 1, 1) := by decide +kernel
theorem d_MO_move_2 : decode b_MO_move 2 = .ok (.aload_n 0, 1) := by decide +kernel
theorem d_MO_move_3 : decode b_MO_move 3 = .ok (.getfield 112, 3) := by decide +kernel
theorem d_MO_move_6 : decode b_MO_move 6 = .ok (.invokestatic 119, 3) := by decide +kernel
theorem d_MO_move_9 : decode b_MO_move 9 = .ok (.ifCond .eq 14, 3) := by decide +kernel
theorem d_MO_move_23 : decode b_MO_move 23 = .ok (.iconst 1, 1) := by decide +kernel
theorem d_MO_move_24 : decode b_MO_move 24 = .ok (.goto 4, 3) := by decide +kernel
theorem d_MO_move_28 : decode b_MO_move 28 = .ok (.aload_n 0, 1) := by decide +kernel
theorem d_MO_move_29 : decode b_MO_move 29 = .ok (.getfield 123, 3) := by decide +kernel
theorem d_MO_move_32 : decode b_MO_move 32 = .ok (.sipush 600, 3) := by decide +kernel
theorem d_MO_move_35 : decode b_MO_move 35 = .ok (.if_icmp .ne 7, 3) := by decide +kernel
theorem d_MO_move_42 : decode b_MO_move 42 = .ok (.iconst 0, 1) := by decide +kernel
theorem d_MO_move_43 : decode b_MO_move 43 = .ok (.iconst 0, 1) := by decide +kernel
theorem d_MO_move_44 : decode b_MO_move 44 = .ok (.invokevirtual 115, 3) := by decide +kernel
theorem d_MO_move_47 : decode b_MO_move 47 = .ok (.ifCond .eq 5, 3) := by decide +kernel
theorem d_MO_move_50 : decode b_MO_move 50 = .ok (.iconst 0, 1) := by decide +kernel
theorem d_MO_move_51 : decode b_MO_move 51 = .ok (.ireturn, 1) := by decide +kernel
abbrev b_MO_run : ByteArray := prog_12_method_23_code
def y_MO_run : MethodName := ⟨"ExploreSharesModel", "run", "(I)I"⟩
def w_MO_run : List Cond := .code y_MO_run b_MO_run 5 (some .int) :: xU
theorem d_MO_run_0 : decode b_MO_run 0 = .ok (.aload_n 0, 1) := by decide +kernel
theorem d_MO_run_1 : decode b_MO_run 1 = .ok (.aload_n 0, 1) := by decide +kernel
theorem d_MO_run_2 : decode b_MO_run 2 = .ok (.getfield 112, 3) := by decide +kernel
theorem d_MO_run_5 : decode b_MO_run 5 = .ok (.ifCond .ne 7, 3) := by decide +kernel
theorem d_MO_run_8 : decode b_MO_run 8 = .ok (.iconst 1, 1) := by decide +kernel
theorem d_MO_run_9 : decode b_MO_run 9 = .ok (.goto 4, 3) := by decide +kernel
theorem d_MO_run_13 : decode b_MO_run 13 = .ok (.iconst 0, 1) := by decide +kernel
theorem d_MO_run_14 : decode b_MO_run 14 = .ok (.iconst 0, 1) := by decide +kernel
theorem d_MO_run_15 : decode b_MO_run 15 = .ok (.invokevirtual 115, 3) := by decide +kernel
theorem d_MO_run_18 : decode b_MO_run 18 = .ok (.ifCond .eq 5, 3) := by decide +kernel
theorem d_MO_run_21 : decode b_MO_run 21 = .ok (.iconst 0, 1) := by decide +kernel
theorem d_MO_run_22 : decode b_MO_run 22 = .ok (.ireturn, 1) := by decide +kernel
abbrev b_MO_level : ByteArray := prog_12_method_24_code
def y_MO_level : MethodName := ⟨"ExploreSharesModel", "level", "(I)I"⟩
def w_MO_level : List Cond := .code y_MO_level b_MO_level 2 (some .int) :: xU
theorem d_MO_level_0 : decode b_MO_level 0 = .ok (.aload_n 0, 1) := by decide +kernel
theorem d_MO_level_1 : decode b_MO_level 1 = .ok (.iload_n 1, 1) := by decide +kernel
theorem d_MO_level_2 : decode b_MO_level 2 = .ok (.aload_n 0, 1) := by decide +kernel
theorem d_MO_level_3 : decode b_MO_level 3 = .ok (.getfield 112, 3) := by decide +kernel
theorem d_MO_level_6 : decode b_MO_level 6 = .ok (.invokestatic 119, 3) := by decide +kernel
theorem d_MO_level_9 : decode b_MO_level 9 = .ok (.ifCond .ne 7, 3) := by decide +kernel
theorem d_MO_level_12 : decode b_MO_level 12 = .ok (.iconst 1, 1) := by decide +kernel
theorem d_MO_level_13 : decode b_MO_level 13 = .ok (.goto 4, 3) := by decide +kernel
theorem d_MO_level_17 : decode b_MO_level 17 = .ok (.iconst 0, 1) := by decide +kernel
theorem d_MO_level_18 : decode b_MO_level 18 = .ok (.iconst 0, 1) := by decide +kernel
theorem d_MO_level_19 : decode b_MO_level 19 = .ok (.invokevirtual 115, 3) := by decide +kernel
theorem d_MO_level_22 : decode b_MO_level 22 = .ok (.ifCond .eq 7, 3) := by decide +kernel
theorem d_MO_level_25 : decode b_MO_level 25 = .ok (.iconst 0, 1) := by decide +kernel
theorem d_MO_level_26 : decode b_MO_level 26 = .ok (.goto 9, 3) := by decide +kernel
theorem d_MO_level_35 : decode b_MO_level 35 = .ok (.ireturn, 1) := by decide +kernel
abbrev b_MO_owner : ByteArray := prog_12_method_25_code
def y_MO_owner : MethodName := ⟨"ExploreSharesModel", "owner", "(I)I"⟩
def w_MO_owner : List Cond := .code y_MO_owner b_MO_owner 2 (some .int) :: xU
theorem d_MO_owner_0 : decode b_MO_owner 0 = .ok (.aload_n 0, 1) := by decide +kernel
theorem d_MO_owner_1 : decode b_MO_owner 1 = .ok (.iload_n 1, 1) := by decide +kernel
theorem d_MO_owner_2 : decode b_MO_owner 2 = .ok (.aload_n 0, 1) := by decide +kernel
theorem d_MO_owner_3 : decode b_MO_owner 3 = .ok (.getfield 112, 3) := by decide +kernel
theorem d_MO_owner_6 : decode b_MO_owner 6 = .ok (.invokestatic 119, 3) := by decide +kernel
theorem d_MO_owner_9 : decode b_MO_owner 9 = .ok (.ifCond .ne 7, 3) := by decide +kernel
theorem d_MO_owner_12 : decode b_MO_owner 12 = .ok (.iconst 1, 1) := by decide +kernel
theorem d_MO_owner_13 : decode b_MO_owner 13 = .ok (.goto 4, 3) := by decide +kernel
theorem d_MO_owner_17 : decode b_MO_owner 17 = .ok (.iconst 0, 1) := by decide +kernel
theorem d_MO_owner_18 : decode b_MO_owner 18 = .ok (.iconst 0, 1) := by decide +kernel
theorem d_MO_owner_19 : decode b_MO_owner 19 = .ok (.invokevirtual 115, 3) := by decide +kernel
theorem d_MO_owner_22 : decode b_MO_owner 22 = .ok (.ifCond .eq 7, 3) := by decide +kernel
theorem d_MO_owner_25 : decode b_MO_owner 25 = .ok (.iconst 0, 1) := by decide +kernel
theorem d_MO_owner_26 : decode b_MO_owner 26 = .ok (.goto 8, 3) := by decide +kernel
theorem d_MO_owner_34 : decode b_MO_owner 34 = .ok (.ireturn, 1) := by decide +kernel
abbrev b_MO_times : ByteArray := prog_12_method_26_code
def y_MO_times : MethodName := ⟨"ExploreSharesModel", "times", "(I)I"⟩
def w_MO_times : List Cond := .code y_MO_times b_MO_times 2 (some .int) :: xU
theorem d_MO_times_0 : decode b_MO_times 0 = .ok (.aload_n 0, 1) := by decide +kernel
theorem d_MO_times_1 : decode b_MO_times 1 = .ok (.iload_n 1, 1) := by decide +kernel
theorem d_MO_times_2 : decode b_MO_times 2 = .ok (.aload_n 0, 1) := by decide +kernel
theorem d_MO_times_3 : decode b_MO_times 3 = .ok (.getfield 112, 3) := by decide +kernel
theorem d_MO_times_6 : decode b_MO_times 6 = .ok (.invokestatic 119, 3) := by decide +kernel
theorem d_MO_times_9 : decode b_MO_times 9 = .ok (.ifCond .ne 7, 3) := by decide +kernel
theorem d_MO_times_12 : decode b_MO_times 12 = .ok (.iconst 1, 1) := by decide +kernel
theorem d_MO_times_13 : decode b_MO_times 13 = .ok (.goto 4, 3) := by decide +kernel
theorem d_MO_times_17 : decode b_MO_times 17 = .ok (.iconst 0, 1) := by decide +kernel
theorem d_MO_times_18 : decode b_MO_times 18 = .ok (.iconst 0, 1) := by decide +kernel
theorem d_MO_times_19 : decode b_MO_times 19 = .ok (.invokevirtual 115, 3) := by decide +kernel
theorem d_MO_times_22 : decode b_MO_times 22 = .ok (.ifCond .eq 7, 3) := by decide +kernel
theorem d_MO_times_25 : decode b_MO_times 25 = .ok (.iconst 0, 1) := by decide +kernel
theorem d_MO_times_26 : decode b_MO_times 26 = .ok (.goto 9, 3) := by decide +kernel
theorem d_MO_times_35 : decode b_MO_times 35 = .ok (.ireturn, 1) := by decide +kernel
abbrev b_MO_size : ByteArray := prog_12_method_33_code
def y_MO_size : MethodName := ⟨"ExploreSharesModel", "size", "(I)I"⟩
def w_MO_size : List Cond := .code y_MO_size b_MO_size 2 (some .int) :: xU
theorem d_MO_size_0 : decode b_MO_size 0 = .ok (.aload_n 0, 1) := by decide +kernel
theorem d_MO_size_1 : decode b_MO_size 1 = .ok (.iload_n 1, 1) := by decide +kernel
theorem d_MO_size_2 : decode b_MO_size 2 = .ok (.aload_n 0, 1) := by decide +kernel
theorem d_MO_size_3 : decode b_MO_size 3 = .ok (.getfield 100, 3) := by decide +kernel
theorem d_MO_size_6 : decode b_MO_size 6 = .ok (.invokestatic 119, 3) := by decide +kernel
theorem d_MO_size_9 : decode b_MO_size 9 = .ok (.ifCond .ne 7, 3) := by decide +kernel
theorem d_MO_size_12 : decode b_MO_size 12 = .ok (.iconst 1, 1) := by decide +kernel
theorem d_MO_size_13 : decode b_MO_size 13 = .ok (.goto 4, 3) := by decide +kernel
theorem d_MO_size_17 : decode b_MO_size 17 = .ok (.iconst 0, 1) := by decide +kernel
theorem d_MO_size_18 : decode b_MO_size 18 = .ok (.iconst 0, 1) := by decide +kernel
theorem d_MO_size_19 : decode b_MO_size 19 = .ok (.invokevirtual 115, 3) := by decide +kernel
theorem d_MO_size_22 : decode b_MO_size 22 = .ok (.ifCond .eq 7, 3) := by decide +kernel
theorem d_MO_size_25 : decode b_MO_size 25 = .ok (.iconst 0, 1) := by decide +kernel
theorem d_MO_size_26 : decode b_MO_size 26 = .ok (.goto 9, 3) := by decide +kernel
theorem d_MO_size_35 : decode b_MO_size 35 = .ok (.ireturn, 1) := by decide +kernel
abbrev b_MO_way : ByteArray := prog_12_method_29_code
def y_MO_way : MethodName := ⟨"ExploreSharesModel", "way", "(II)I"⟩
def w_MO_way : List Cond := .code y_MO_way b_MO_way 7 (some .int) :: xU
theorem d_MO_way_0 : decode b_MO_way 0 = .ok (.iload_n 1, 1) := by decide +kernel
theorem d_MO_way_1 : decode b_MO_way 1 = .ok (.aload_n 0, 1) := by decide +kernel
theorem d_MO_way_2 : decode b_MO_way 2 = .ok (.getfield 112, 3) := by decide +kernel
theorem d_MO_way_5 : decode b_MO_way 5 = .ok (.invokestatic 119, 3) := by decide +kernel
theorem d_MO_way_8 : decode b_MO_way 8 = .ok (.ifCond .ne 7, 3) := by decide +kernel
theorem d_MO_way_11 : decode b_MO_way 11 = .ok (.iconst 1, 1) := by decide +kernel
theorem d_MO_way_12 : decode b_MO_way 12 = .ok (.goto 4, 3) := by decide +kernel
theorem d_MO_way_16 : decode b_MO_way 16 = .ok (.istore_n 3, 1) := by decide +kernel
theorem d_MO_way_17 : decode b_MO_way 17 = .ok (.aload_n 0, 1) := by decide +kernel
theorem d_MO_way_18 : decode b_MO_way 18 = .ok (.iload_n 3, 1) := by decide +kernel
theorem d_MO_way_19 : decode b_MO_way 19 = .ok (.ifCond .ne 42, 3) := by decide +kernel
theorem d_MO_way_61 : decode b_MO_way 61 = .ok (.iconst 1, 1) := by decide +kernel
theorem d_MO_way_62 : decode b_MO_way 62 = .ok (.goto 4, 3) := by decide +kernel
theorem d_MO_way_66 : decode b_MO_way 66 = .ok (.iconst 0, 1) := by decide +kernel
theorem d_MO_way_67 : decode b_MO_way 67 = .ok (.iconst 0, 1) := by decide +kernel
theorem d_MO_way_68 : decode b_MO_way 68 = .ok (.invokevirtual 115, 3) := by decide +kernel
theorem d_MO_way_71 : decode b_MO_way 71 = .ok (.ifCond .eq 5, 3) := by decide +kernel
theorem d_MO_way_74 : decode b_MO_way 74 = .ok (.iconst 0, 1) := by decide +kernel
theorem d_MO_way_75 : decode b_MO_way 75 = .ok (.ireturn, 1) := by decide +kernel
abbrev b_MO_failed : ByteArray := prog_12_method_32_code
def y_MO_failed : MethodName := ⟨"ExploreSharesModel", "failed", "(II)I"⟩
def w_MO_failed : List Cond := .code y_MO_failed b_MO_failed 3 (some .int) :: xU
theorem d_MO_failed_0 : decode b_MO_failed 0 = .ok (.aload_n 0, 1) := by decide +kernel
theorem d_MO_failed_1 : decode b_MO_failed 1 = .ok (.iload_n 1, 1) := by decide +kernel
theorem d_MO_failed_2 : decode b_MO_failed 2 = .ok (.aload_n 0, 1) := by decide +kernel
theorem d_MO_failed_3 : decode b_MO_failed 3 = .ok (.getfield 109, 3) := by decide +kernel
theorem d_MO_failed_6 : decode b_MO_failed 6 = .ok (.invokestatic 119, 3) := by decide +kernel
theorem d_MO_failed_9 : decode b_MO_failed 9 = .ok (.ifCond .eq 11, 3) := by decide +kernel
theorem d_MO_failed_20 : decode b_MO_failed 20 = .ok (.iconst 1, 1) := by decide +kernel
theorem d_MO_failed_21 : decode b_MO_failed 21 = .ok (.goto 4, 3) := by decide +kernel
theorem d_MO_failed_25 : decode b_MO_failed 25 = .ok (.iconst 0, 1) := by decide +kernel
theorem d_MO_failed_26 : decode b_MO_failed 26 = .ok (.iconst 0, 1) := by decide +kernel
theorem d_MO_failed_27 : decode b_MO_failed 27 = .ok (.invokevirtual 115, 3) := by decide +kernel
theorem d_MO_failed_30 : decode b_MO_failed 30 = .ok (.ifCond .eq 5, 3) := by decide +kernel
theorem d_MO_failed_33 : decode b_MO_failed 33 = .ok (.iconst 0, 1) := by decide +kernel
theorem d_MO_failed_34 : decode b_MO_failed 34 = .ok (.ireturn, 1) := by decide +kernel
abbrev b_MO_toldAt : ByteArray := prog_12_method_8_code
def y_MO_toldAt : MethodName := ⟨"ExploreSharesModel", "toldAt", "(II)I"⟩
def w_MO_toldAt : List Cond := .code y_MO_toldAt b_MO_toldAt 4 (some .int) :: xU
theorem d_MO_toldAt_0 : decode b_MO_toldAt 0 = .ok (.iconst 0, 1) := by decide +kernel
theorem d_MO_toldAt_1 : decode b_MO_toldAt 1 = .ok (.istore_n 3, 1) := by decide +kernel
theorem d_MO_toldAt_2 : decode b_MO_toldAt 2 = .ok (.iload_n 3, 1) := by decide +kernel
theorem d_MO_toldAt_3 : decode b_MO_toldAt 3 = .ok (.aload_n 0, 1) := by decide +kernel
theorem d_MO_toldAt_4 : decode b_MO_toldAt 4 = .ok (.getfield 126, 3) := by decide +kernel
theorem d_MO_toldAt_7 : decode b_MO_toldAt 7 = .ok (.if_icmp .ge 31, 3) := by decide +kernel
theorem d_MO_toldAt_38 : decode b_MO_toldAt 38 = .ok (.iconst (-1), 1) := by decide +kernel
theorem d_MO_toldAt_39 : decode b_MO_toldAt 39 = .ok (.ireturn, 1) := by decide +kernel
abbrev b_MO_owned : ByteArray := prog_12_method_30_code
def y_MO_owned : MethodName := ⟨"ExploreSharesModel", "owned", "(I)I"⟩
def w_MO_owned : List Cond := .code y_MO_owned b_MO_owned 4 (some .int) :: xU
theorem d_MO_owned_0 : decode b_MO_owned 0 = .ok (.iconst 0, 1) := by decide +kernel
theorem d_MO_owned_1 : decode b_MO_owned 1 = .ok (.istore_n 2, 1) := by decide +kernel
theorem d_MO_owned_2 : decode b_MO_owned 2 = .ok (.iconst 0, 1) := by decide +kernel
theorem d_MO_owned_3 : decode b_MO_owned 3 = .ok (.istore_n 3, 1) := by decide +kernel
theorem d_MO_owned_4 : decode b_MO_owned 4 = .ok (.iload_n 3, 1) := by decide +kernel
theorem d_MO_owned_5 : decode b_MO_owned 5 = .ok (.aload_n 0, 1) := by decide +kernel
theorem d_MO_owned_6 : decode b_MO_owned 6 = .ok (.getfield 112, 3) := by decide +kernel
theorem d_MO_owned_9 : decode b_MO_owned 9 = .ok (.if_icmp .ge 35, 3) := by decide +kernel
theorem d_MO_owned_44 : decode b_MO_owned 44 = .ok (.iload_n 2, 1) := by decide +kernel
theorem d_MO_owned_45 : decode b_MO_owned 45 = .ok (.ireturn, 1) := by decide +kernel
abbrev b_MO_cameAll : ByteArray := prog_12_method_34_code
def y_MO_cameAll : MethodName := ⟨"ExploreSharesModel", "cameAll", "()I"⟩
def w_MO_cameAll : List Cond := .code y_MO_cameAll b_MO_cameAll 3 (some .int) :: xU
theorem d_MO_cameAll_0 : decode b_MO_cameAll 0 = .ok (.iconst 0, 1) := by decide +kernel
theorem d_MO_cameAll_1 : decode b_MO_cameAll 1 = .ok (.istore_n 1, 1) := by decide +kernel
theorem d_MO_cameAll_2 : decode b_MO_cameAll 2 = .ok (.iconst 0, 1) := by decide +kernel
theorem d_MO_cameAll_3 : decode b_MO_cameAll 3 = .ok (.istore_n 2, 1) := by decide +kernel
theorem d_MO_cameAll_4 : decode b_MO_cameAll 4 = .ok (.iload_n 2, 1) := by decide +kernel
theorem d_MO_cameAll_5 : decode b_MO_cameAll 5 = .ok (.aload_n 0, 1) := by decide +kernel
theorem d_MO_cameAll_6 : decode b_MO_cameAll 6 = .ok (.getfield 112, 3) := by decide +kernel
theorem d_MO_cameAll_9 : decode b_MO_cameAll 9 = .ok (.if_icmp .ge 26, 3) := by decide +kernel
theorem d_MO_cameAll_35 : decode b_MO_cameAll 35 = .ok (.iload_n 1, 1) := by decide +kernel
theorem d_MO_cameAll_36 : decode b_MO_cameAll 36 = .ok (.ireturn, 1) := by decide +kernel
abbrev b_MO_live : ByteArray := prog_12_method_19_code
def y_MO_live : MethodName := ⟨"ExploreSharesModel", "live", "()I"⟩
def w_MO_live : List Cond := .code y_MO_live b_MO_live 3 (some .int) :: xU
theorem d_MO_live_0 : decode b_MO_live 0 = .ok (.iconst 0, 1) := by decide +kernel
theorem d_MO_live_1 : decode b_MO_live 1 = .ok (.istore_n 1, 1) := by decide +kernel
theorem d_MO_live_2 : decode b_MO_live 2 = .ok (.iconst 0, 1) := by decide +kernel
theorem d_MO_live_3 : decode b_MO_live 3 = .ok (.istore_n 2, 1) := by decide +kernel
theorem d_MO_live_4 : decode b_MO_live 4 = .ok (.iload_n 2, 1) := by decide +kernel
theorem d_MO_live_5 : decode b_MO_live 5 = .ok (.aload_n 0, 1) := by decide +kernel
theorem d_MO_live_6 : decode b_MO_live 6 = .ok (.getfield 80, 3) := by decide +kernel
theorem d_MO_live_9 : decode b_MO_live 9 = .ok (.if_icmp .ge 26, 3) := by decide +kernel
theorem d_MO_live_12 : decode b_MO_live 12 = .ok (.iload_n 1, 1) := by decide +kernel
theorem d_MO_live_13 : decode b_MO_live 13 = .ok (.aload_n 0, 1) := by decide +kernel
theorem d_MO_live_14 : decode b_MO_live 14 = .ok (.getfield 38, 3) := by decide +kernel
theorem d_MO_live_17 : decode b_MO_live 17 = .ok (.iload_n 2, 1) := by decide +kernel
theorem d_MO_live_18 : decode b_MO_live 18 = .ok (.baload, 1) := by decide +kernel
theorem d_MO_live_19 : decode b_MO_live 19 = .ok (.ifCond .eq 7, 3) := by decide +kernel
theorem d_MO_live_22 : decode b_MO_live 22 = .ok (.iconst 1, 1) := by decide +kernel
theorem d_MO_live_23 : decode b_MO_live 23 = .ok (.goto 4, 3) := by decide +kernel
theorem d_MO_live_27 : decode b_MO_live 27 = .ok (.iadd, 1) := by decide +kernel
theorem d_MO_live_28 : decode b_MO_live 28 = .ok (.istore_n 1, 1) := by decide +kernel
theorem d_MO_live_29 : decode b_MO_live 29 = .ok (.iinc 2 1, 3) := by decide +kernel
theorem d_MO_live_32 : decode b_MO_live 32 = .ok (.goto (-28), 3) := by decide +kernel
theorem d_MO_live_35 : decode b_MO_live 35 = .ok (.iload_n 1, 1) := by decide +kernel
theorem d_MO_live_36 : decode b_MO_live 36 = .ok (.ireturn, 1) := by decide +kernel
end
section
abbrev b_NET_has : ByteArray := prog_7_method_2_code
def y_NET_has : MethodName := ⟨"ExploreShares$Net", "has", "(I)Z"⟩
def w_NET_has : List Cond := .code y_NET_has b_NET_has 2 (some .boolean) :: xU
theorem d_NET_has_0 : decode b_NET_has 0 = .ok (.iload_n 1, 1) := by decide +kernel
theorem d_NET_has_1 : decode b_NET_has 1 = .ok (.ifCond .lt 15, 3) := by decide +kernel
theorem d_NET_has_4 : decode b_NET_has 4 = .ok (.iload_n 1, 1) := by decide +kernel
theorem d_NET_has_5 : decode b_NET_has 5 = .ok (.aload_n 0, 1) := by decide +kernel
theorem d_NET_has_6 : decode b_NET_has 6 = .ok (.getfield 18, 3) := by decide +kernel
theorem d_NET_has_9 : decode b_NET_has 9 = .ok (.if_icmp .ge 7, 3) := by decide +kernel
theorem d_NET_has_16 : decode b_NET_has 16 = .ok (.iconst 0, 1) := by decide +kernel
theorem d_NET_has_17 : decode b_NET_has 17 = .ok (.ireturn, 1) := by decide +kernel
abbrev b_NET_addState : ByteArray := prog_7_method_3_code
def y_NET_addState : MethodName := ⟨"ExploreShares$Net", "addState", "()I"⟩
def w_NET_addState : List Cond := .code y_NET_addState b_NET_addState 1 (some .int) :: xU
theorem d_NET_addState_0 : decode b_NET_addState 0 = .ok (.aload_n 0, 1) := by decide +kernel
theorem d_NET_addState_1 : decode b_NET_addState 1 = .ok (.dup, 1) := by decide +kernel
theorem d_NET_addState_2 : decode b_NET_addState 2 = .ok (.getfield 18, 3) := by decide +kernel
theorem d_NET_addState_5 : decode b_NET_addState 5 = .ok (.iconst 1, 1) := by decide +kernel
theorem d_NET_addState_6 : decode b_NET_addState 6 = .ok (.iadd, 1) := by decide +kernel
theorem d_NET_addState_7 : decode b_NET_addState 7 = .ok (.putfield 18, 3) := by decide +kernel
theorem d_NET_addState_10 : decode b_NET_addState 10 = .ok (.aload_n 0, 1) := by decide +kernel
theorem d_NET_addState_11 : decode b_NET_addState 11 = .ok (.getfield 18, 3) := by decide +kernel
theorem d_NET_addState_14 : decode b_NET_addState 14 = .ok (.iconst 1, 1) := by decide +kernel
theorem d_NET_addState_15 : decode b_NET_addState 15 = .ok (.isub, 1) := by decide +kernel
theorem d_NET_addState_16 : decode b_NET_addState 16 = .ok (.ireturn, 1) := by decide +kernel
abbrev b_NET_init : ByteArray := prog_7_method_1_code
def y_NET_init : MethodName := ⟨"ExploreShares$Net", "<init>", "()V"⟩
def w_NET_init : List Cond := .code y_NET_init b_NET_init 1 (none) :: xU
theorem d_NET_init_0 : decode b_NET_init 0 = .ok (.aload_n 0, 1) := by decide +kernel
theorem d_NET_init_1 : decode b_NET_init 1 = .ok (.invokespecial 3, 3) := by decide +kernel
theorem d_NET_init_4 : decode b_NET_init 4 = .ok (.aload_n 0, 1) := by decide +kernel
theorem d_NET_init_5 : decode b_NET_init 5 = .ok (.sipush 201, 3) := by decide +kernel
theorem d_NET_init_8 : decode b_NET_init 8 = .ok (.newarray .int, 2) := by decide +kernel
theorem d_NET_init_10 : decode b_NET_init 10 = .ok (.putfield 9, 3) := by decide +kernel
theorem d_NET_init_13 : decode b_NET_init 13 = .ok (.aload_n 0, 1) := by decide +kernel
theorem d_NET_init_14 : decode b_NET_init 14 = .ok (.sipush 600, 3) := by decide +kernel
theorem d_NET_init_17 : decode b_NET_init 17 = .ok (.newarray .int, 2) := by decide +kernel
theorem d_NET_init_19 : decode b_NET_init 19 = .ok (.putfield 15, 3) := by decide +kernel
theorem d_NET_init_22 : decode b_NET_init 22 = .ok (.return_, 1) := by decide +kernel
end
section
abbrev b_QU_init : ByteArray := prog_8_method_1_code
def y_QU_init : MethodName := ⟨"ExploreShares$Queues", "<init>", "(I)V"⟩
def w_QU_init : List Cond := .code y_QU_init b_QU_init 2 (none) :: xU
theorem d_QU_init_0 : decode b_QU_init 0 = .ok (.aload_n 0, 1) := by decide +kernel
theorem d_QU_init_1 : decode b_QU_init 1 = .ok (.invokespecial 3, 3) := by decide +kernel
theorem d_QU_init_4 : decode b_QU_init 4 = .ok (.aload_n 0, 1) := by decide +kernel
theorem d_QU_init_5 : decode b_QU_init 5 = .ok (.bipush 16, 2) := by decide +kernel
theorem d_QU_init_7 : decode b_QU_init 7 = .ok (.bipush 8, 2) := by decide +kernel
theorem d_QU_init_9 : decode b_QU_init 9 = .ok (.multianewarray 9 2, 4) := by decide +kernel
theorem d_QU_init_13 : decode b_QU_init 13 = .ok (.putfield 11, 3) := by decide +kernel
theorem d_QU_init_16 : decode b_QU_init 16 = .ok (.aload_n 0, 1) := by decide +kernel
theorem d_QU_init_17 : decode b_QU_init 17 = .ok (.bipush 16, 2) := by decide +kernel
theorem d_QU_init_19 : decode b_QU_init 19 = .ok (.newarray .int, 2) := by decide +kernel
theorem d_QU_init_21 : decode b_QU_init 21 = .ok (.putfield 16, 3) := by decide +kernel
theorem d_QU_init_24 : decode b_QU_init 24 = .ok (.aload_n 0, 1) := by decide +kernel
theorem d_QU_init_25 : decode b_QU_init 25 = .ok (.bipush 16, 2) := by decide +kernel
theorem d_QU_init_27 : decode b_QU_init 27 = .ok (.newarray .int, 2) := by decide +kernel
theorem d_QU_init_29 : decode b_QU_init 29 = .ok (.putfield 20, 3) := by decide +kernel
theorem d_QU_init_32 : decode b_QU_init 32 = .ok (.aload_n 0, 1) := by decide +kernel
theorem d_QU_init_33 : decode b_QU_init 33 = .ok (.iload_n 1, 1) := by decide +kernel
theorem d_QU_init_34 : decode b_QU_init 34 = .ok (.putfield 23, 3) := by decide +kernel
theorem d_QU_init_37 : decode b_QU_init 37 = .ok (.return_, 1) := by decide +kernel
end
section
abbrev b_SE_forget : ByteArray := prog_9_method_2_code
def y_SE_forget : MethodName := ⟨"ExploreShares$Search", "forget", "()V"⟩
def w_SE_forget : List Cond := .code y_SE_forget b_SE_forget 1 (none) :: xU
theorem d_SE_forget_0 : decode b_SE_forget 0 = .ok (.aload_n 0, 1) := by decide +kernel
theorem d_SE_forget_1 : decode b_SE_forget 1 = .ok (.getfield 65, 3) := by decide +kernel
theorem d_SE_forget_4 : decode b_SE_forget 4 = .ok (.invokevirtual 76, 3) := by decide +kernel
theorem d_SE_forget_7 : decode b_SE_forget 7 = .ok (.aload_n 0, 1) := by decide +kernel
theorem d_SE_forget_8 : decode b_SE_forget 8 = .ok (.getfield 35, 3) := by decide +kernel
theorem d_SE_forget_11 : decode b_SE_forget 11 = .ok (.invokevirtual 79, 3) := by decide +kernel
theorem d_SE_forget_14 : decode b_SE_forget 14 = .ok (.aload_n 0, 1) := by decide +kernel
theorem d_SE_forget_15 : decode b_SE_forget 15 = .ok (.getfield 53, 3) := by decide +kernel
theorem d_SE_forget_18 : decode b_SE_forget 18 = .ok (.iconst 0, 1) := by decide +kernel
theorem d_SE_forget_19 : decode b_SE_forget 19 = .ok (.invokestatic 80, 3) := by decide +kernel
theorem d_SE_forget_22 : decode b_SE_forget 22 = .ok (.aload_n 0, 1) := by decide +kernel
theorem d_SE_forget_23 : decode b_SE_forget 23 = .ok (.getfield 72, 3) := by decide +kernel
theorem d_SE_forget_26 : decode b_SE_forget 26 = .ok (.iconst 0, 1) := by decide +kernel
theorem d_SE_forget_27 : decode b_SE_forget 27 = .ok (.putfield 86, 3) := by decide +kernel
theorem d_SE_forget_30 : decode b_SE_forget 30 = .ok (.aload_n 0, 1) := by decide +kernel
theorem d_SE_forget_31 : decode b_SE_forget 31 = .ok (.getfield 42, 3) := by decide +kernel
theorem d_SE_forget_34 : decode b_SE_forget 34 = .ok (.iconst 0, 1) := by decide +kernel
theorem d_SE_forget_35 : decode b_SE_forget 35 = .ok (.putfield 90, 3) := by decide +kernel
theorem d_SE_forget_38 : decode b_SE_forget 38 = .ok (.return_, 1) := by decide +kernel
abbrev b_SE_cameOwnedBy : ByteArray := prog_9_method_4_code
def y_SE_cameOwnedBy : MethodName := ⟨"ExploreShares$Search", "cameOwnedBy", "(I)I"⟩
def w_SE_cameOwnedBy : List Cond := .code y_SE_cameOwnedBy b_SE_cameOwnedBy 4 (some .int) :: xU
theorem d_SE_cameOwnedBy_0 : decode b_SE_cameOwnedBy 0 = .ok (.iconst 0, 1) := by decide +kernel
theorem d_SE_cameOwnedBy_1 : decode b_SE_cameOwnedBy 1 = .ok (.istore_n 2, 1) := by decide +kernel
theorem d_SE_cameOwnedBy_2 : decode b_SE_cameOwnedBy 2 = .ok (.iconst 0, 1) := by decide +kernel
theorem d_SE_cameOwnedBy_3 : decode b_SE_cameOwnedBy 3 = .ok (.istore_n 3, 1) := by decide +kernel
theorem d_SE_cameOwnedBy_4 : decode b_SE_cameOwnedBy 4 = .ok (.iload_n 3, 1) := by decide +kernel
theorem d_SE_cameOwnedBy_5 : decode b_SE_cameOwnedBy 5 = .ok (.aload_n 0, 1) := by decide +kernel
theorem d_SE_cameOwnedBy_6 : decode b_SE_cameOwnedBy 6 = .ok (.getfield 35, 3) := by decide +kernel
theorem d_SE_cameOwnedBy_9 : decode b_SE_cameOwnedBy 9 = .ok (.invokevirtual 118, 3) := by decide +kernel
theorem d_SE_cameOwnedBy_12 : decode b_SE_cameOwnedBy 12 = .ok (.if_icmp .ge 32, 3) := by decide +kernel
theorem d_SE_cameOwnedBy_44 : decode b_SE_cameOwnedBy 44 = .ok (.iload_n 2, 1) := by decide +kernel
theorem d_SE_cameOwnedBy_45 : decode b_SE_cameOwnedBy 45 = .ok (.ireturn, 1) := by decide +kernel
abbrev b_SE_init : ByteArray := prog_9_method_1_code
def y_SE_init : MethodName := ⟨"ExploreShares$Search", "<init>", "(II)V"⟩
def w_SE_init : List Cond := .code y_SE_init b_SE_init 3 (none) :: xU
theorem d_SE_init_0 : decode b_SE_init 0 = .ok (.aload_n 0, 1) := by decide +kernel
theorem d_SE_init_1 : decode b_SE_init 1 = .ok (.invokespecial 3, 3) := by decide +kernel
theorem d_SE_init_4 : decode b_SE_init 4 = .ok (.aload_n 0, 1) := by decide +kernel
theorem d_SE_init_5 : decode b_SE_init 5 = .ok (.new 9, 3) := by decide +kernel
theorem d_SE_init_8 : decode b_SE_init 8 = .ok (.dup, 1) := by decide +kernel
theorem d_SE_init_9 : decode b_SE_init 9 = .ok (.invokespecial 11, 3) := by decide +kernel
theorem d_SE_init_12 : decode b_SE_init 12 = .ok (.putfield 12, 3) := by decide +kernel
theorem d_SE_init_15 : decode b_SE_init 15 = .ok (.aload_n 0, 1) := by decide +kernel
theorem d_SE_init_16 : decode b_SE_init 16 = .ok (.new 18, 3) := by decide +kernel
theorem d_SE_init_19 : decode b_SE_init 19 = .ok (.dup, 1) := by decide +kernel
theorem d_SE_init_20 : decode b_SE_init 20 = .ok (.invokespecial 20, 3) := by decide +kernel
theorem d_SE_init_23 : decode b_SE_init 23 = .ok (.putfield 21, 3) := by decide +kernel
theorem d_SE_init_26 : decode b_SE_init 26 = .ok (.aload_n 0, 1) := by decide +kernel
theorem d_SE_init_27 : decode b_SE_init 27 = .ok (.new 25, 3) := by decide +kernel
theorem d_SE_init_30 : decode b_SE_init 30 = .ok (.dup, 1) := by decide +kernel
theorem d_SE_init_31 : decode b_SE_init 31 = .ok (.invokespecial 27, 3) := by decide +kernel
theorem d_SE_init_34 : decode b_SE_init 34 = .ok (.putfield 28, 3) := by decide +kernel
theorem d_SE_init_37 : decode b_SE_init 37 = .ok (.aload_n 0, 1) := by decide +kernel
theorem d_SE_init_38 : decode b_SE_init 38 = .ok (.new 32, 3) := by decide +kernel
theorem d_SE_init_41 : decode b_SE_init 41 = .ok (.dup, 1) := by decide +kernel
theorem d_SE_init_42 : decode b_SE_init 42 = .ok (.invokespecial 34, 3) := by decide +kernel
theorem d_SE_init_45 : decode b_SE_init 45 = .ok (.putfield 35, 3) := by decide +kernel
theorem d_SE_init_48 : decode b_SE_init 48 = .ok (.aload_n 0, 1) := by decide +kernel
theorem d_SE_init_49 : decode b_SE_init 49 = .ok (.new 39, 3) := by decide +kernel
theorem d_SE_init_52 : decode b_SE_init 52 = .ok (.dup, 1) := by decide +kernel
theorem d_SE_init_53 : decode b_SE_init 53 = .ok (.invokespecial 41, 3) := by decide +kernel
theorem d_SE_init_56 : decode b_SE_init 56 = .ok (.putfield 42, 3) := by decide +kernel
theorem d_SE_init_59 : decode b_SE_init 59 = .ok (.aload_n 0, 1) := by decide +kernel
theorem d_SE_init_60 : decode b_SE_init 60 = .ok (.new 46, 3) := by decide +kernel
theorem d_SE_init_63 : decode b_SE_init 63 = .ok (.dup, 1) := by decide +kernel
theorem d_SE_init_64 : decode b_SE_init 64 = .ok (.invokespecial 48, 3) := by decide +kernel
theorem d_SE_init_67 : decode b_SE_init 67 = .ok (.putfield 49, 3) := by decide +kernel
theorem d_SE_init_70 : decode b_SE_init 70 = .ok (.aload_n 0, 1) := by decide +kernel
theorem d_SE_init_71 : decode b_SE_init 71 = .ok (.sipush 200, 3) := by decide +kernel
theorem d_SE_init_74 : decode b_SE_init 74 = .ok (.newarray .int, 2) := by decide +kernel
theorem d_SE_init_76 : decode b_SE_init 76 = .ok (.putfield 53, 3) := by decide +kernel
theorem d_SE_init_79 : decode b_SE_init 79 = .ok (.aload_n 0, 1) := by decide +kernel
theorem d_SE_init_80 : decode b_SE_init 80 = .ok (.bipush 16, 2) := by decide +kernel
theorem d_SE_init_82 : decode b_SE_init 82 = .ok (.newarray .int, 2) := by decide +kernel
theorem d_SE_init_84 : decode b_SE_init 84 = .ok (.putfield 57, 3) := by decide +kernel
theorem d_SE_init_87 : decode b_SE_init 87 = .ok (.aload_n 0, 1) := by decide +kernel
theorem d_SE_init_88 : decode b_SE_init 88 = .ok (.new 60, 3) := by decide +kernel
theorem d_SE_init_91 : decode b_SE_init 91 = .ok (.dup, 1) := by decide +kernel
theorem d_SE_init_92 : decode b_SE_init 92 = .ok (.iload_n 1, 1) := by decide +kernel
theorem d_SE_init_93 : decode b_SE_init 93 = .ok (.invokespecial 62, 3) := by decide +kernel
theorem d_SE_init_96 : decode b_SE_init 96 = .ok (.putfield 65, 3) := by decide +kernel
theorem d_SE_init_99 : decode b_SE_init 99 = .ok (.aload_n 0, 1) := by decide +kernel
theorem d_SE_init_100 : decode b_SE_init 100 = .ok (.new 69, 3) := by decide +kernel
theorem d_SE_init_103 : decode b_SE_init 103 = .ok (.dup, 1) := by decide +kernel
theorem d_SE_init_104 : decode b_SE_init 104 = .ok (.iload_n 2, 1) := by decide +kernel
theorem d_SE_init_105 : decode b_SE_init 105 = .ok (.invokespecial 71, 3) := by decide +kernel
theorem d_SE_init_108 : decode b_SE_init 108 = .ok (.putfield 72, 3) := by decide +kernel
theorem d_SE_init_111 : decode b_SE_init 111 = .ok (.return_, 1) := by decide +kernel
end
section
abbrev b_WA_init : ByteArray := prog_10_method_1_code
def y_WA_init : MethodName := ⟨"ExploreShares$Ways", "<init>", "()V"⟩
def w_WA_init : List Cond := .code y_WA_init b_WA_init 1 (none) :: xU
theorem d_WA_init_0 : decode b_WA_init 0 = .ok (.aload_n 0, 1) := by decide +kernel
theorem d_WA_init_1 : decode b_WA_init 1 = .ok (.invokespecial 3, 3) := by decide +kernel
theorem d_WA_init_4 : decode b_WA_init 4 = .ok (.aload_n 0, 1) := by decide +kernel
theorem d_WA_init_5 : decode b_WA_init 5 = .ok (.sipush 200, 3) := by decide +kernel
theorem d_WA_init_8 : decode b_WA_init 8 = .ok (.newarray .boolean, 2) := by decide +kernel
theorem d_WA_init_10 : decode b_WA_init 10 = .ok (.putfield 9, 3) := by decide +kernel
theorem d_WA_init_13 : decode b_WA_init 13 = .ok (.return_, 1) := by decide +kernel
end
section
abbrev b_X_oneOf : ByteArray := prog_1_method_15_code
def y_X_oneOf : MethodName := ⟨"ExploreShares", "oneOf", "(II)I"⟩
def w_X_oneOf : List Cond := .code y_X_oneOf b_X_oneOf 2 (some .int) :: xU
theorem d_X_oneOf_0 : decode b_X_oneOf 0 = .ok (.iload_n 0, 1) := by decide +kernel
theorem d_X_oneOf_1 : decode b_X_oneOf 1 = .ok (.ifCond .le 12, 3) := by decide +kernel
theorem d_X_oneOf_4 : decode b_X_oneOf 4 = .ok (.iload_n 1, 1) := by decide +kernel
theorem d_X_oneOf_5 : decode b_X_oneOf 5 = .ok (.ldc 211, 2) := by decide +kernel
theorem d_X_oneOf_7 : decode b_X_oneOf 7 = .ok (.idiv, 1) := by decide +kernel
theorem d_X_oneOf_8 : decode b_X_oneOf 8 = .ok (.iload_n 0, 1) := by decide +kernel
theorem d_X_oneOf_9 : decode b_X_oneOf 9 = .ok (.irem, 1) := by decide +kernel
theorem d_X_oneOf_10 : decode b_X_oneOf 10 = .ok (.goto 4, 3) := by decide +kernel
theorem d_X_oneOf_14 : decode b_X_oneOf 14 = .ok (.ireturn, 1) := by decide +kernel
abbrev b_X_fillFlags : ByteArray := prog_1_method_16_code
def y_X_fillFlags : MethodName := ⟨"ExploreShares", "fillFlags", "([ZZ)V"⟩
def w_X_fillFlags : List Cond := .code y_X_fillFlags b_X_fillFlags 3 (none) :: xU
theorem d_X_fillFlags_0 : decode b_X_fillFlags 0 = .ok (.iconst 0, 1) := by decide +kernel
theorem d_X_fillFlags_1 : decode b_X_fillFlags 1 = .ok (.istore_n 2, 1) := by decide +kernel
theorem d_X_fillFlags_2 : decode b_X_fillFlags 2 = .ok (.iload_n 2, 1) := by decide +kernel
theorem d_X_fillFlags_3 : decode b_X_fillFlags 3 = .ok (.aload_n 0, 1) := by decide +kernel
theorem d_X_fillFlags_4 : decode b_X_fillFlags 4 = .ok (.arraylength, 1) := by decide +kernel
theorem d_X_fillFlags_5 : decode b_X_fillFlags 5 = .ok (.if_icmp .ge 13, 3) := by decide +kernel
theorem d_X_fillFlags_8 : decode b_X_fillFlags 8 = .ok (.aload_n 0, 1) := by decide +kernel
theorem d_X_fillFlags_9 : decode b_X_fillFlags 9 = .ok (.iload_n 2, 1) := by decide +kernel
theorem d_X_fillFlags_10 : decode b_X_fillFlags 10 = .ok (.iload_n 1, 1) := by decide +kernel
theorem d_X_fillFlags_11 : decode b_X_fillFlags 11 = .ok (.bastore, 1) := by decide +kernel
theorem d_X_fillFlags_12 : decode b_X_fillFlags 12 = .ok (.iinc 2 1, 3) := by decide +kernel
theorem d_X_fillFlags_15 : decode b_X_fillFlags 15 = .ok (.goto (-13), 3) := by decide +kernel
theorem d_X_fillFlags_18 : decode b_X_fillFlags 18 = .ok (.return_, 1) := by decide +kernel
abbrev b_X_numberBehind : ByteArray := prog_1_method_14_code
def y_X_numberBehind : MethodName := ⟨"ExploreShares", "numberBehind", "(I)I"⟩
def w_X_numberBehind : List Cond := .code y_X_numberBehind b_X_numberBehind 1 (some .int) :: xU
theorem d_X_numberBehind_0 : decode b_X_numberBehind 0 = .ok (.ldc 209, 2) := by decide +kernel
theorem d_X_numberBehind_2 : decode b_X_numberBehind 2 = .ok (.iload_n 0, 1) := by decide +kernel
theorem d_X_numberBehind_3 : decode b_X_numberBehind 3 = .ok (.imul, 1) := by decide +kernel
theorem d_X_numberBehind_4 : decode b_X_numberBehind 4 = .ok (.sipush 12345, 3) := by decide +kernel
theorem d_X_numberBehind_7 : decode b_X_numberBehind 7 = .ok (.iadd, 1) := by decide +kernel
theorem d_X_numberBehind_8 : decode b_X_numberBehind 8 = .ok (.ldc 210, 2) := by decide +kernel
theorem d_X_numberBehind_10 : decode b_X_numberBehind 10 = .ok (.iand, 1) := by decide +kernel
theorem d_X_numberBehind_11 : decode b_X_numberBehind 11 = .ok (.ireturn, 1) := by decide +kernel
abbrev b_X_init : ByteArray := prog_1_method_1_code
def y_X_init : MethodName := ⟨"ExploreShares", "<init>", "(II)V"⟩
def w_X_init : List Cond := .code y_X_init b_X_init 3 (none) :: xU
theorem d_X_init_0 : decode b_X_init 0 = .ok (.aload_n 0, 1) := by decide +kernel
theorem d_X_init_1 : decode b_X_init 1 = .ok (.invokespecial 1, 3) := by decide +kernel
theorem d_X_init_4 : decode b_X_init 4 = .ok (.aload_n 0, 1) := by decide +kernel
theorem d_X_init_5 : decode b_X_init 5 = .ok (.new 7, 3) := by decide +kernel
theorem d_X_init_8 : decode b_X_init 8 = .ok (.dup, 1) := by decide +kernel
theorem d_X_init_9 : decode b_X_init 9 = .ok (.iconst 1, 1) := by decide +kernel
theorem d_X_init_10 : decode b_X_init 10 = .ok (.iload_n 1, 1) := by decide +kernel
theorem d_X_init_11 : decode b_X_init 11 = .ok (.iconst 1, 1) := by decide +kernel
theorem d_X_init_12 : decode b_X_init 12 = .ok (.isub, 1) := by decide +kernel
theorem d_X_init_13 : decode b_X_init 13 = .ok (.bipush 16, 2) := by decide +kernel
theorem d_X_init_15 : decode b_X_init 15 = .ok (.invokestatic 11, 3) := by decide +kernel
theorem d_X_init_18 : decode b_X_init 18 = .ok (.iadd, 1) := by decide +kernel
theorem d_X_init_19 : decode b_X_init 19 = .ok (.iconst 1, 1) := by decide +kernel
theorem d_X_init_20 : decode b_X_init 20 = .ok (.iload_n 2, 1) := by decide +kernel
theorem d_X_init_21 : decode b_X_init 21 = .ok (.iconst 1, 1) := by decide +kernel
theorem d_X_init_22 : decode b_X_init 22 = .ok (.isub, 1) := by decide +kernel
theorem d_X_init_23 : decode b_X_init 23 = .ok (.bipush 8, 2) := by decide +kernel
theorem d_X_init_25 : decode b_X_init 25 = .ok (.invokestatic 11, 3) := by decide +kernel
theorem d_X_init_28 : decode b_X_init 28 = .ok (.iadd, 1) := by decide +kernel
theorem d_X_init_29 : decode b_X_init 29 = .ok (.invokespecial 17, 3) := by decide +kernel
theorem d_X_init_32 : decode b_X_init 32 = .ok (.putfield 20, 3) := by decide +kernel
theorem d_X_init_35 : decode b_X_init 35 = .ok (.aload_n 0, 1) := by decide +kernel
theorem d_X_init_36 : decode b_X_init 36 = .ok (.aload_n 0, 1) := by decide +kernel
theorem d_X_init_37 : decode b_X_init 37 = .ok (.getfield 20, 3) := by decide +kernel
theorem d_X_init_40 : decode b_X_init 40 = .ok (.getfield 24, 3) := by decide +kernel
theorem d_X_init_43 : decode b_X_init 43 = .ok (.putfield 28, 3) := by decide +kernel
theorem d_X_init_46 : decode b_X_init 46 = .ok (.aload_n 0, 1) := by decide +kernel
theorem d_X_init_47 : decode b_X_init 47 = .ok (.aload_n 0, 1) := by decide +kernel
theorem d_X_init_48 : decode b_X_init 48 = .ok (.getfield 20, 3) := by decide +kernel
theorem d_X_init_51 : decode b_X_init 51 = .ok (.getfield 29, 3) := by decide +kernel
theorem d_X_init_54 : decode b_X_init 54 = .ok (.putfield 33, 3) := by decide +kernel
theorem d_X_init_57 : decode b_X_init 57 = .ok (.aload_n 0, 1) := by decide +kernel
theorem d_X_init_58 : decode b_X_init 58 = .ok (.aload_n 0, 1) := by decide +kernel
theorem d_X_init_59 : decode b_X_init 59 = .ok (.getfield 20, 3) := by decide +kernel
theorem d_X_init_62 : decode b_X_init 62 = .ok (.getfield 34, 3) := by decide +kernel
theorem d_X_init_65 : decode b_X_init 65 = .ok (.putfield 38, 3) := by decide +kernel
theorem d_X_init_68 : decode b_X_init 68 = .ok (.return_, 1) := by decide +kernel
end
section
set_option maxHeartbeats 4000000 in
set_option maxRecDepth 100000 in
/-- Arrays.fill: all places are v -/
theorem c_fill (l : Launch) (D : va_G) (cI cB cL : ClassId) (h0 : Nat) (n : Nat) (f : Nat → Int32) (v : Int32) (hn : n ≤ 1000) : xG (σ := Unit) l y_AR_fill w_AR_fill ({ frames := 0, cells := 0, slots := 0, locals := 0  } : Room) D vwCl (xs_tys cI cB cL) [.ref h0, .int v] [(h0, .inl (cI, n, .inl f))] (fun _ => True) (fun _ => none) (fun _ => [(h0, .inl (cI, n, .inl (fun _ => v)))]) := by
  refine xG.of b_AR_fill 4 (none) (by decide +kernel) rfl (Nat.le_of_ble_eq_true rfl) ?_
  intro p e s m below meth c A ls hAe C0 hP hD hS hl
  obtain ⟨hx, hb, hr, hml, hown, hlocks, hts, hnm, hN, hK, hA⟩ := C0
  have hU : ∀ w ∈ xU, w.before #[.ref h0, .int v] s = true := fun w h => hts w (List.mem_cons_of_mem _ h)
  have hl : lv_has ls 4 [(0, .ref h0), (1, .int v)] := hl
  refine lv_iconst (v := nI 0) hx hb d_AR_fill_0 (by decide +kernel) ?_
  refine lv_istore_n (lv' := [(2, .int (nI 0)), (0, .ref h0), (1, .int v)]) hx hb d_AR_fill_1 rfl hl (by decide) rfl (fun ls hl => ?_)
  refine lv_aload_n hx hb d_AR_fill_2 rfl (lv_at hl 1 rfl) ?_
  refine va_alen hx hb hK hP 0 0 rfl rfl (v := nI n) rfl d_AR_fill_3 ?_
  refine lv_istore_n (lv' := [(3, .int (nI n)), (2, .int (nI 0)), (0, .ref h0), (1, .int v)]) hx hb d_AR_fill_4 rfl hl (by decide) rfl (fun ls hl => ?_)
  obtain ⟨hP, hD⟩ := xs_refill (q0 := 0) (g := xs_fl 0 v f) hP hD rfl (fun j _ => by rw [xs_fl_0])
  have hP : va_P D vwCl [(h0, .inl (cI, n, .inl (xs_fl 0 v f)))] s.heap := hP
  have hD : va_D A [(h0, .inl (cI, n, .inl (xs_fl 0 v f)))] := hD
  refine W.widen (k := 0) (n := 0) (Nat.le_of_ble_eq_true rfl) (Nat.le_of_ble_eq_true rfl) ?_
  have lp_5 : ∀ (fu : Nat) (i : Nat) (H : Heap) (locs : List Loc) (ls : Array Slot), (i + fu = n) → va_P D vwCl [(h0, .inl (cI, n, .inl (xs_fl i v f)))] H → va_D A [(h0, .inl (cI, n, .inl (xs_fl i v f)))] → va_S A s.heap H locs → lv_has ls 4 [(3, .int (nI n)), (2, .int (nI i)), (0, .ref h0), (1, .int v)] → W p l e (headSpec w_AR_fill ({ frames := 0, cells := 0, slots := 0, locals := 0  } : Room)).room s m #[.ref h0, .int v] below meth c H locs 0 0 (xZ (σ := Unit) below #[.ref h0, .int v] s D vwCl [(h0, .inl (cI, n, .inl f))] s.heap.size ({ frames := 0, cells := 0, slots := 0, locals := 0  } : Room).cells ({ frames := 0, cells := 0, slots := 0, locals := 0  } : Room).slots (fun _ => True) (fun _ => none) (fun _ => [(h0, .inl (cI, n, .inl (fun _ => v)))])) (F0 m 5 ls []) := by
    intro fu
    induction fu with
    | zero =>
      intro i H locs ls hi hP hD hS hl
      refine lv_iload_n hx hb d_AR_fill_5 rfl (lv_at hl 1 rfl) ?_
      refine lv_iload_n hx hb d_AR_fill_6 rfl (lv_at hl 0 rfl) ?_
      refine lv_icmp_ge (tgt := 20) hx hb d_AR_fill_7 (by decide) (fun c_7 => ?_) (fun c_7 => ?_)
      · obtain ⟨hP, hD⟩ := xs_refill (q0 := 0) (g := fun _ => v) hP hD rfl (fun j hj => by show (if j < i then _ else _) = _; rw [if_pos (by omega)])
        have hP : va_P D vwCl [(h0, .inl (cI, n, .inl (fun _ => v)))] H := hP
        have hD : va_D A [(h0, .inl (cI, n, .inl (fun _ => v)))] := hD
        have hP9 := xs_P_sub (w := [(h0, .inl (cI, n, .inl (fun _ => v)))]) hP [0] rfl
        have hD9 := hD.sub (ws' := [(h0, .inl (cI, n, .inl (fun _ => v)))]) [0] (by decide) rfl
        exact xw_vret () hx hb hr hlocks d_AR_fill_20 (rfl) (trivial) hAe hP9 hD9 hS (Nat.le_of_ble_eq_true rfl) (Nat.le_of_ble_eq_true rfl)
      · exact absurd (nI_le (a := n) (b := i) (by omega) (by omega)) c_7
    | succ fu ih =>
      intro i H locs ls hi hP hD hS hl
      refine lv_iload_n hx hb d_AR_fill_5 rfl (lv_at hl 1 rfl) ?_
      refine lv_iload_n hx hb d_AR_fill_6 rfl (lv_at hl 0 rfl) ?_
      refine lv_icmp_ge (tgt := 20) hx hb d_AR_fill_7 (by decide) (fun c_7 => ?_) (fun c_7 => ?_)
      · exact absurd c_7 (nI_ge (by omega) (by omega))
      · refine lv_aload_n hx hb d_AR_fill_10 rfl (lv_at hl 2 rfl) ?_
        refine lv_iload_n hx hb d_AR_fill_11 rfl (lv_at hl 1 rfl) ?_
        refine lv_iload_n hx hb d_AR_fill_12 rfl (lv_at hl 3 rfl) ?_
        refine xw_ist hx hb hK hP hD hS 0 0 rfl rfl (by omega) (by omega) d_AR_fill_13 (fun H locs hP hD hS => ?_)
        have hP : va_P D vwCl [(h0, .inl (cI, n, .inl (upd (xs_fl i v f) i v)))] H := hP
        have hD : va_D A [(h0, .inl (cI, n, .inl (upd (xs_fl i v f) i v)))] := hD
        have e_13 : upd (xs_fl i v f) i v = xs_fl (i + 1) v f := xs_fl_s i v f
        rw [e_13] at hP hD
        have hP : va_P D vwCl [(h0, .inl (cI, n, .inl (xs_fl (i + 1) v f)))] H := hP
        have hD : va_D A [(h0, .inl (cI, n, .inl (xs_fl (i + 1) v f)))] := hD
        refine lv_iinc (v := nI (i + 1)) (lv' := [(2, .int (nI (i + 1))), (3, .int (nI n)), (0, .ref h0), (1, .int v)]) hx hb d_AR_fill_14 hl (k := 1) rfl (xs_inc i 1) (by decide) rfl (fun ls hl => ?_)
        refine lv_goto (tgt := 5) hx hb d_AR_fill_17 (by decide) ?_
        exact ih (i + 1) _ _ _ (by omega) (xs_P_sub hP [0] rfl) (hD.sub [0] (by decide) rfl) hS (lv_sub hl [1, 0, 2, 3] rfl)
  exact lp_5 (n) 0 _ _ _ (by omega) hP hD hS (lv_sub hl [0, 1, 2, 3] rfl)
set_option maxHeartbeats 4000000 in
set_option maxRecDepth 100000 in
/-- floorMod by 16 -/
theorem c_floorMod16 (l : Launch) (D : va_G) (cI cB cL : ClassId) (x : Int32)  : xG (σ := Unit) l y_MA_floorMod w_MA_floorMod ({ frames := 0, cells := 0, slots := 0, locals := 0  } : Room) D vwCl (xs_tys cI cB cL) [.int x, .int (nI 16)] [] (fun _ => True) (fun _ => some (.int (x &&& nI 15))) (fun _ => []) := by
  refine xG.of b_MA_floorMod 3 (some .int) (by decide +kernel) rfl (Nat.le_of_ble_eq_true rfl) ?_
  intro p e s m below meth c A ls hAe C0 hP hD hS hl
  obtain ⟨hx, hb, hr, hml, hown, hlocks, hts, hnm, hN, hK, hA⟩ := C0
  have hU : ∀ w ∈ xU, w.before #[.int x, .int (nI 16)] s = true := fun w h => hts w (List.mem_cons_of_mem _ h)
  have hl : lv_has ls 3 [(0, .int x), (1, .int (nI 16))] := hl
  refine lv_iload_n hx hb d_MA_floorMod_0 rfl (lv_at hl 0 rfl) ?_
  refine lv_iload_n hx hb d_MA_floorMod_1 rfl (lv_at hl 1 rfl) ?_
  refine lv_irem hx hb d_MA_floorMod_2 (by decide +kernel) ?_
  refine lv_istore_n (lv' := [(2, .int (x - x / (nI 16) * (nI 16))), (0, .int x), (1, .int (nI 16))]) hx hb d_MA_floorMod_3 rfl hl (by decide) rfl (fun ls hl => ?_)
  refine lv_iload_n hx hb d_MA_floorMod_4 rfl (lv_at hl 1 rfl) ?_
  refine lv_iload_n hx hb d_MA_floorMod_5 rfl (lv_at hl 2 rfl) ?_
  refine lv_ixor hx hb d_MA_floorMod_6 ?_
  refine lv_if_ge (tgt := 18) hx hb d_MA_floorMod_7 (by decide) (fun c_7 => ?_) (fun c_7 => ?_)
  · refine lv_iload_n hx hb d_MA_floorMod_18 rfl (lv_at hl 0 rfl) ?_
    have hP9 := xs_P_sub (w := []) hP [] rfl
    have hD9 := hD.sub (ws' := []) [] (by decide) rfl
    exact xw_iret () hx hb hr hlocks d_MA_floorMod_19 (by first | exact congrArg (fun z => some (Value.int z)) (Eq.symm (xs_floor_p x (nI 16) (nI 15) 4 16 (by decide +kernel) (by decide) (by decide) (by decide) (by decide +kernel) (Or.inl (fun z => absurd ((xs_lt0_xor (y := nI 16) _ (by decide +kernel)).mpr z) (Int32.not_lt.mpr c_7))))) | exact congrArg (fun z => some (Value.int z)) (Eq.symm (xs_floor_p x (nI 16) (nI 15) 4 16 (by decide +kernel) (by decide) (by decide) (by decide) (by decide +kernel) (Or.inr c_11))) | exact congrArg (fun z => some (Value.int z)) (Eq.symm (xs_floor_n x (nI 16) (nI 15) 4 16 (by decide +kernel) (by decide) (by decide) (by decide) (by decide +kernel) ((xs_lt0_xor (y := nI 16) _ (by decide +kernel)).mp (Int32.not_le.mp c_7)) (c_11)))) (trivial) hAe hP9 hD9 hS (Nat.le_of_ble_eq_true rfl) (Nat.le_of_ble_eq_true rfl)
  · refine lv_iload_n hx hb d_MA_floorMod_10 rfl (lv_at hl 0 rfl) ?_
    refine lv_if_eq (tgt := 18) hx hb d_MA_floorMod_11 (by decide) (fun c_11 => ?_) (fun c_11 => ?_)
    · refine lv_iload_n hx hb d_MA_floorMod_18 rfl (lv_at hl 0 rfl) ?_
      have hP9 := xs_P_sub (w := []) hP [] rfl
      have hD9 := hD.sub (ws' := []) [] (by decide) rfl
      exact xw_iret () hx hb hr hlocks d_MA_floorMod_19 (by first | exact congrArg (fun z => some (Value.int z)) (Eq.symm (xs_floor_p x (nI 16) (nI 15) 4 16 (by decide +kernel) (by decide) (by decide) (by decide) (by decide +kernel) (Or.inl (fun z => absurd ((xs_lt0_xor (y := nI 16) _ (by decide +kernel)).mpr z) (Int32.not_lt.mpr c_7))))) | exact congrArg (fun z => some (Value.int z)) (Eq.symm (xs_floor_p x (nI 16) (nI 15) 4 16 (by decide +kernel) (by decide) (by decide) (by decide) (by decide +kernel) (Or.inr c_11))) | exact congrArg (fun z => some (Value.int z)) (Eq.symm (xs_floor_n x (nI 16) (nI 15) 4 16 (by decide +kernel) (by decide) (by decide) (by decide) (by decide +kernel) ((xs_lt0_xor (y := nI 16) _ (by decide +kernel)).mp (Int32.not_le.mp c_7)) (c_11)))) (trivial) hAe hP9 hD9 hS (Nat.le_of_ble_eq_true rfl) (Nat.le_of_ble_eq_true rfl)
    · refine lv_iload_n hx hb d_MA_floorMod_14 rfl (lv_at hl 0 rfl) ?_
      refine lv_iload_n hx hb d_MA_floorMod_15 rfl (lv_at hl 2 rfl) ?_
      refine lv_iadd hx hb d_MA_floorMod_16 ?_
      have hP9 := xs_P_sub (w := []) hP [] rfl
      have hD9 := hD.sub (ws' := []) [] (by decide) rfl
      exact xw_iret () hx hb hr hlocks d_MA_floorMod_17 (by first | exact congrArg (fun z => some (Value.int z)) (Eq.symm (xs_floor_p x (nI 16) (nI 15) 4 16 (by decide +kernel) (by decide) (by decide) (by decide) (by decide +kernel) (Or.inl (fun z => absurd ((xs_lt0_xor (y := nI 16) _ (by decide +kernel)).mpr z) (Int32.not_lt.mpr c_7))))) | exact congrArg (fun z => some (Value.int z)) (Eq.symm (xs_floor_p x (nI 16) (nI 15) 4 16 (by decide +kernel) (by decide) (by decide) (by decide) (by decide +kernel) (Or.inr c_11))) | exact congrArg (fun z => some (Value.int z)) (Eq.symm (xs_floor_n x (nI 16) (nI 15) 4 16 (by decide +kernel) (by decide) (by decide) (by decide) (by decide +kernel) ((xs_lt0_xor (y := nI 16) _ (by decide +kernel)).mp (Int32.not_le.mp c_7)) (c_11)))) (trivial) hAe hP9 hD9 hS (Nat.le_of_ble_eq_true rfl) (Nat.le_of_ble_eq_true rfl)
set_option maxHeartbeats 4000000 in
set_option maxRecDepth 100000 in
/-- floorMod by 8 -/
theorem c_floorMod8 (l : Launch) (D : va_G) (cI cB cL : ClassId) (x : Int32)  : xG (σ := Unit) l y_MA_floorMod w_MA_floorMod ({ frames := 0, cells := 0, slots := 0, locals := 0  } : Room) D vwCl (xs_tys cI cB cL) [.int x, .int (nI 8)] [] (fun _ => True) (fun _ => some (.int (x &&& nI 7))) (fun _ => []) := by
  refine xG.of b_MA_floorMod 3 (some .int) (by decide +kernel) rfl (Nat.le_of_ble_eq_true rfl) ?_
  intro p e s m below meth c A ls hAe C0 hP hD hS hl
  obtain ⟨hx, hb, hr, hml, hown, hlocks, hts, hnm, hN, hK, hA⟩ := C0
  have hU : ∀ w ∈ xU, w.before #[.int x, .int (nI 8)] s = true := fun w h => hts w (List.mem_cons_of_mem _ h)
  have hl : lv_has ls 3 [(0, .int x), (1, .int (nI 8))] := hl
  refine lv_iload_n hx hb d_MA_floorMod_0 rfl (lv_at hl 0 rfl) ?_
  refine lv_iload_n hx hb d_MA_floorMod_1 rfl (lv_at hl 1 rfl) ?_
  refine lv_irem hx hb d_MA_floorMod_2 (by decide +kernel) ?_
  refine lv_istore_n (lv' := [(2, .int (x - x / (nI 8) * (nI 8))), (0, .int x), (1, .int (nI 8))]) hx hb d_MA_floorMod_3 rfl hl (by decide) rfl (fun ls hl => ?_)
  refine lv_iload_n hx hb d_MA_floorMod_4 rfl (lv_at hl 1 rfl) ?_
  refine lv_iload_n hx hb d_MA_floorMod_5 rfl (lv_at hl 2 rfl) ?_
  refine lv_ixor hx hb d_MA_floorMod_6 ?_
  refine lv_if_ge (tgt := 18) hx hb d_MA_floorMod_7 (by decide) (fun c_7 => ?_) (fun c_7 => ?_)
  · refine lv_iload_n hx hb d_MA_floorMod_18 rfl (lv_at hl 0 rfl) ?_
    have hP9 := xs_P_sub (w := []) hP [] rfl
    have hD9 := hD.sub (ws' := []) [] (by decide) rfl
    exact xw_iret () hx hb hr hlocks d_MA_floorMod_19 (by first | exact congrArg (fun z => some (Value.int z)) (Eq.symm (xs_floor_p x (nI 8) (nI 7) 3 8 (by decide +kernel) (by decide) (by decide) (by decide) (by decide +kernel) (Or.inl (fun z => absurd ((xs_lt0_xor (y := nI 8) _ (by decide +kernel)).mpr z) (Int32.not_lt.mpr c_7))))) | exact congrArg (fun z => some (Value.int z)) (Eq.symm (xs_floor_p x (nI 8) (nI 7) 3 8 (by decide +kernel) (by decide) (by decide) (by decide) (by decide +kernel) (Or.inr c_11))) | exact congrArg (fun z => some (Value.int z)) (Eq.symm (xs_floor_n x (nI 8) (nI 7) 3 8 (by decide +kernel) (by decide) (by decide) (by decide) (by decide +kernel) ((xs_lt0_xor (y := nI 8) _ (by decide +kernel)).mp (Int32.not_le.mp c_7)) (c_11)))) (trivial) hAe hP9 hD9 hS (Nat.le_of_ble_eq_true rfl) (Nat.le_of_ble_eq_true rfl)
  · refine lv_iload_n hx hb d_MA_floorMod_10 rfl (lv_at hl 0 rfl) ?_
    refine lv_if_eq (tgt := 18) hx hb d_MA_floorMod_11 (by decide) (fun c_11 => ?_) (fun c_11 => ?_)
    · refine lv_iload_n hx hb d_MA_floorMod_18 rfl (lv_at hl 0 rfl) ?_
      have hP9 := xs_P_sub (w := []) hP [] rfl
      have hD9 := hD.sub (ws' := []) [] (by decide) rfl
      exact xw_iret () hx hb hr hlocks d_MA_floorMod_19 (by first | exact congrArg (fun z => some (Value.int z)) (Eq.symm (xs_floor_p x (nI 8) (nI 7) 3 8 (by decide +kernel) (by decide) (by decide) (by decide) (by decide +kernel) (Or.inl (fun z => absurd ((xs_lt0_xor (y := nI 8) _ (by decide +kernel)).mpr z) (Int32.not_lt.mpr c_7))))) | exact congrArg (fun z => some (Value.int z)) (Eq.symm (xs_floor_p x (nI 8) (nI 7) 3 8 (by decide +kernel) (by decide) (by decide) (by decide) (by decide +kernel) (Or.inr c_11))) | exact congrArg (fun z => some (Value.int z)) (Eq.symm (xs_floor_n x (nI 8) (nI 7) 3 8 (by decide +kernel) (by decide) (by decide) (by decide) (by decide +kernel) ((xs_lt0_xor (y := nI 8) _ (by decide +kernel)).mp (Int32.not_le.mp c_7)) (c_11)))) (trivial) hAe hP9 hD9 hS (Nat.le_of_ble_eq_true rfl) (Nat.le_of_ble_eq_true rfl)
    · refine lv_iload_n hx hb d_MA_floorMod_14 rfl (lv_at hl 0 rfl) ?_
      refine lv_iload_n hx hb d_MA_floorMod_15 rfl (lv_at hl 2 rfl) ?_
      refine lv_iadd hx hb d_MA_floorMod_16 ?_
      have hP9 := xs_P_sub (w := []) hP [] rfl
      have hD9 := hD.sub (ws' := []) [] (by decide) rfl
      exact xw_iret () hx hb hr hlocks d_MA_floorMod_17 (by first | exact congrArg (fun z => some (Value.int z)) (Eq.symm (xs_floor_p x (nI 8) (nI 7) 3 8 (by decide +kernel) (by decide) (by decide) (by decide) (by decide +kernel) (Or.inl (fun z => absurd ((xs_lt0_xor (y := nI 8) _ (by decide +kernel)).mpr z) (Int32.not_lt.mpr c_7))))) | exact congrArg (fun z => some (Value.int z)) (Eq.symm (xs_floor_p x (nI 8) (nI 7) 3 8 (by decide +kernel) (by decide) (by decide) (by decide) (by decide +kernel) (Or.inr c_11))) | exact congrArg (fun z => some (Value.int z)) (Eq.symm (xs_floor_n x (nI 8) (nI 7) 3 8 (by decide +kernel) (by decide) (by decide) (by decide) (by decide +kernel) ((xs_lt0_xor (y := nI 8) _ (by decide +kernel)).mp (Int32.not_le.mp c_7)) (c_11)))) (trivial) hAe hP9 hD9 hS (Nat.le_of_ble_eq_true rfl) (Nat.le_of_ble_eq_true rfl)
set_option maxHeartbeats 4000000 in
set_option maxRecDepth 100000 in
/-- oneOf -/
theorem c_oneOf (l : Launch) (D : va_G) (cI cB cL : ClassId) (n : Nat) (x : Int32) (h0 : 0 < n) (hn : n ≤ 16) : xG (σ := Int32) l y_X_oneOf w_X_oneOf ({ frames := 0, cells := 0, slots := 0, locals := 0  } : Room) D vwCl (xs_tys cI cB cL) [.int (nI n), .int x] [] (fun v => True) (fun v => some (.int v)) (fun v => []) := by
  refine xG.of b_X_oneOf 2 (some .int) (by decide +kernel) rfl (Nat.le_of_ble_eq_true rfl) ?_
  intro p e s m below meth c A ls hAe C0 hP hD hS hl
  obtain ⟨hx, hb, hr, hml, hown, hlocks, hts, hnm, hN, hK, hA⟩ := C0
  have hU : ∀ w ∈ xU, w.before #[.int (nI n), .int x] s = true := fun w h => hts w (List.mem_cons_of_mem _ h)
  have hl : lv_has ls 2 [(0, .int (nI n)), (1, .int x)] := hl
  refine lv_iload_n hx hb d_X_oneOf_0 rfl (lv_at hl 0 rfl) ?_
  refine lv_if_le (tgt := 13) hx hb d_X_oneOf_1 (by decide) (fun c_1 => ?_) (fun c_1 => ?_)
  · exact absurd c_1 (nI_nle h0 (by omega))
  · refine lv_iload_n hx hb d_X_oneOf_4 rfl (lv_at hl 1 rfl) ?_
    refine lv_ldc (v := nI 65536) hx hb hown (hU _ uw_201) d_X_oneOf_5 ?_
    refine lv_idiv hx hb d_X_oneOf_7 (by decide +kernel) ?_
    refine lv_iload_n hx hb d_X_oneOf_8 rfl (lv_at hl 0 rfl) ?_
    refine lv_irem hx hb d_X_oneOf_9 (nI_ne0 h0 (by omega)) ?_
    refine lv_goto (tgt := 14) hx hb d_X_oneOf_10 (by decide) ?_
    have hP9 := xs_P_sub (w := []) hP [] rfl
    have hD9 := hD.sub (ws' := []) [] (by decide) rfl
    exact xw_iret ((x / (nI 65536)) - (x / (nI 65536)) / (nI n) * (nI n)) hx hb hr hlocks d_X_oneOf_14 (rfl) (trivial) hAe hP9 hD9 hS (Nat.le_of_ble_eq_true rfl) (Nat.le_of_ble_eq_true rfl)
set_option maxHeartbeats 4000000 in
set_option maxRecDepth 100000 in
/-- fillFlags: all places are v -/
theorem c_fillFlags (l : Launch) (D : va_G) (cI cB cL : ClassId) (h0 : Nat) (n : Nat) (f : Nat → Int32) (v : Int32) (hn : n ≤ 1000) (hv : v = 0 ∨ v = 1) : xG (σ := Unit) l y_X_fillFlags w_X_fillFlags ({ frames := 0, cells := 0, slots := 0, locals := 0  } : Room) D vwCl (xs_tys cI cB cL) [.ref h0, .int v] [(h0, .inl (cB, n, .inl f))] (fun _ => True) (fun _ => none) (fun _ => [(h0, .inl (cB, n, .inl (fun _ => v)))]) := by
  refine xG.of b_X_fillFlags 3 (none) (by decide +kernel) rfl (Nat.le_of_ble_eq_true rfl) ?_
  intro p e s m below meth c A ls hAe C0 hP hD hS hl
  obtain ⟨hx, hb, hr, hml, hown, hlocks, hts, hnm, hN, hK, hA⟩ := C0
  have hU : ∀ w ∈ xU, w.before #[.ref h0, .int v] s = true := fun w h => hts w (List.mem_cons_of_mem _ h)
  have hl : lv_has ls 3 [(0, .ref h0), (1, .int v)] := hl
  refine lv_iconst (v := nI 0) hx hb d_X_fillFlags_0 (by decide +kernel) ?_
  refine lv_istore_n (lv' := [(2, .int (nI 0)), (0, .ref h0), (1, .int v)]) hx hb d_X_fillFlags_1 rfl hl (by decide) rfl (fun ls hl => ?_)
  obtain ⟨hP, hD⟩ := xs_refill (q0 := 0) (g := xs_fl 0 v f) hP hD rfl (fun j _ => by rw [xs_fl_0])
  have hP : va_P D vwCl [(h0, .inl (cB, n, .inl (xs_fl 0 v f)))] s.heap := hP
  have hD : va_D A [(h0, .inl (cB, n, .inl (xs_fl 0 v f)))] := hD
  refine W.widen (k := 0) (n := 0) (Nat.le_of_ble_eq_true rfl) (Nat.le_of_ble_eq_true rfl) ?_
  have lp_2 : ∀ (fu : Nat) (i : Nat) (H : Heap) (locs : List Loc) (ls : Array Slot), (i + fu = n) → va_P D vwCl [(h0, .inl (cB, n, .inl (xs_fl i v f)))] H → va_D A [(h0, .inl (cB, n, .inl (xs_fl i v f)))] → va_S A s.heap H locs → lv_has ls 3 [(2, .int (nI i)), (0, .ref h0), (1, .int v)] → W p l e (headSpec w_X_fillFlags ({ frames := 0, cells := 0, slots := 0, locals := 0  } : Room)).room s m #[.ref h0, .int v] below meth c H locs 0 0 (xZ (σ := Unit) below #[.ref h0, .int v] s D vwCl [(h0, .inl (cB, n, .inl f))] s.heap.size ({ frames := 0, cells := 0, slots := 0, locals := 0  } : Room).cells ({ frames := 0, cells := 0, slots := 0, locals := 0  } : Room).slots (fun _ => True) (fun _ => none) (fun _ => [(h0, .inl (cB, n, .inl (fun _ => v)))])) (F0 m 2 ls []) := by
    intro fu
    induction fu with
    | zero =>
      intro i H locs ls hi hP hD hS hl
      refine lv_iload_n hx hb d_X_fillFlags_2 rfl (lv_at hl 0 rfl) ?_
      refine lv_aload_n hx hb d_X_fillFlags_3 rfl (lv_at hl 1 rfl) ?_
      refine va_alen hx hb hK hP 0 1 rfl rfl (v := nI n) rfl d_X_fillFlags_4 ?_
      refine lv_icmp_ge (tgt := 18) hx hb d_X_fillFlags_5 (by decide) (fun c_5 => ?_) (fun c_5 => ?_)
      · obtain ⟨hP, hD⟩ := xs_refill (q0 := 0) (g := fun _ => v) hP hD rfl (fun j hj => by show (if j < i then _ else _) = _; rw [if_pos (by omega)])
        have hP : va_P D vwCl [(h0, .inl (cB, n, .inl (fun _ => v)))] H := hP
        have hD : va_D A [(h0, .inl (cB, n, .inl (fun _ => v)))] := hD
        have hP9 := xs_P_sub (w := [(h0, .inl (cB, n, .inl (fun _ => v)))]) hP [0] rfl
        have hD9 := hD.sub (ws' := [(h0, .inl (cB, n, .inl (fun _ => v)))]) [0] (by decide) rfl
        exact xw_vret () hx hb hr hlocks d_X_fillFlags_18 (rfl) (trivial) hAe hP9 hD9 hS (Nat.le_of_ble_eq_true rfl) (Nat.le_of_ble_eq_true rfl)
      · exact absurd (nI_le (a := n) (b := i) (by omega) (by omega)) c_5
    | succ fu ih =>
      intro i H locs ls hi hP hD hS hl
      refine lv_iload_n hx hb d_X_fillFlags_2 rfl (lv_at hl 0 rfl) ?_
      refine lv_aload_n hx hb d_X_fillFlags_3 rfl (lv_at hl 1 rfl) ?_
      refine va_alen hx hb hK hP 0 1 rfl rfl (v := nI n) rfl d_X_fillFlags_4 ?_
      refine lv_icmp_ge (tgt := 18) hx hb d_X_fillFlags_5 (by decide) (fun c_5 => ?_) (fun c_5 => ?_)
      · exact absurd c_5 (nI_ge (by omega) (by omega))
      · refine lv_aload_n hx hb d_X_fillFlags_8 rfl (lv_at hl 1 rfl) ?_
        refine lv_iload_n hx hb d_X_fillFlags_9 rfl (lv_at hl 0 rfl) ?_
        refine lv_iload_n hx hb d_X_fillFlags_10 rfl (lv_at hl 2 rfl) ?_
        refine xw_zst hx hb hK hP hD hS 0 1 rfl rfl (hv) (by omega) (by omega) d_X_fillFlags_11 (fun H locs hP hD hS => ?_)
        have hP : va_P D vwCl [(h0, .inl (cB, n, .inl (upd (xs_fl i v f) i v)))] H := hP
        have hD : va_D A [(h0, .inl (cB, n, .inl (upd (xs_fl i v f) i v)))] := hD
        have e_11 : upd (xs_fl i v f) i v = xs_fl (i + 1) v f := xs_fl_s i v f
        rw [e_11] at hP hD
        have hP : va_P D vwCl [(h0, .inl (cB, n, .inl (xs_fl (i + 1) v f)))] H := hP
        have hD : va_D A [(h0, .inl (cB, n, .inl (xs_fl (i + 1) v f)))] := hD
        refine lv_iinc (v := nI (i + 1)) (lv' := [(2, .int (nI (i + 1))), (0, .ref h0), (1, .int v)]) hx hb d_X_fillFlags_12 hl (k := 0) rfl (xs_inc i 1) (by decide) rfl (fun ls hl => ?_)
        refine lv_goto (tgt := 2) hx hb d_X_fillFlags_15 (by decide) ?_
        exact ih (i + 1) _ _ _ (by omega) (xs_P_sub hP [0] rfl) (hD.sub [0] (by decide) rfl) hS (lv_sub hl [0, 1, 2] rfl)
  exact lp_2 (n) 0 _ _ _ (by omega) hP hD hS (lv_sub hl [0, 1, 2] rfl)
set_option maxHeartbeats 4000000 in
set_option maxRecDepth 100000 in
/-- numberBehind -/
theorem c_numberBehind (l : Launch) (D : va_G) (cI cB cL : ClassId) (x : Int32)  : xG (σ := Unit) l y_X_numberBehind w_X_numberBehind ({ frames := 0, cells := 0, slots := 0, locals := 0  } : Room) D vwCl (xs_tys cI cB cL) [.int x] [] (fun _ => True) (fun _ => some (.int ((nI 1103515245 * x + nI 12345) &&& nI 2147483647))) (fun _ => []) := by
  refine xG.of b_X_numberBehind 1 (some .int) (by decide +kernel) rfl (Nat.le_of_ble_eq_true rfl) ?_
  intro p e s m below meth c A ls hAe C0 hP hD hS hl
  obtain ⟨hx, hb, hr, hml, hown, hlocks, hts, hnm, hN, hK, hA⟩ := C0
  have hU : ∀ w ∈ xU, w.before #[.int x] s = true := fun w h => hts w (List.mem_cons_of_mem _ h)
  have hl : lv_has ls 1 [(0, .int x)] := hl
  refine lv_ldc (v := nI 1103515245) hx hb hown (hU _ uw_196) d_X_numberBehind_0 ?_
  refine lv_iload_n hx hb d_X_numberBehind_2 rfl (lv_at hl 0 rfl) ?_
  refine lv_imul hx hb d_X_numberBehind_3 ?_
  refine lv_sipush (v := nI 12345) hx hb d_X_numberBehind_4 (by decide +kernel) ?_
  refine lv_iadd hx hb d_X_numberBehind_7 ?_
  refine lv_ldc (v := nI 2147483647) hx hb hown (hU _ uw_197) d_X_numberBehind_8 ?_
  refine lv_iand hx hb d_X_numberBehind_10 ?_
  have hP9 := xs_P_sub (w := []) hP [] rfl
  have hD9 := hD.sub (ws' := []) [] (by decide) rfl
  exact xw_iret () hx hb hr hlocks d_X_numberBehind_11 (rfl) (trivial) hAe hP9 hD9 hS (Nat.le_of_ble_eq_true rfl) (Nat.le_of_ble_eq_true rfl)
set_option maxHeartbeats 4000000 in
set_option maxRecDepth 100000 in
/-- has, when there are no states -/
theorem c_Net_has0 (l : Launch) (D : va_G) (cI cB cL : ClassId) (h0 : Nat) (mv : Nat) (q1 : Nat) (q2 : Nat) (k : Int32)  : xG (σ := Unit) l y_NET_has w_NET_has ({ frames := 0, cells := 0, slots := 0, locals := 0  } : Room) D vwCl (xs_tys cI cB cL) [.ref h0, .int k] [(h0, .inr (1, [.int (nI 0), .int (nI mv), .ref q1, .ref q2]))] (fun _ => True) (fun _ => some (.int (nI 0))) (fun _ => [(h0, .inr (1, [.int (nI 0), .int (nI mv), .ref q1, .ref q2]))]) := by
  refine xG.of b_NET_has 2 (some .boolean) (by decide +kernel) rfl (Nat.le_of_ble_eq_true rfl) ?_
  intro p e s m below meth c A ls hAe C0 hP hD hS hl
  obtain ⟨hx, hb, hr, hml, hown, hlocks, hts, hnm, hN, hK, hA⟩ := C0
  have hU : ∀ w ∈ xU, w.before #[.ref h0, .int k] s = true := fun w h => hts w (List.mem_cons_of_mem _ h)
  have hl : lv_has ls 2 [(0, .ref h0), (1, .int k)] := hl
  refine lv_iload_n hx hb d_NET_has_0 rfl (lv_at hl 1 rfl) ?_
  refine lv_if_lt (tgt := 16) hx hb d_NET_has_1 (by decide) (fun c_1 => ?_) (fun c_1 => ?_)
  · refine lv_iconst (v := nI 0) hx hb d_NET_has_16 (by decide +kernel) ?_
    have hP9 := xs_P_sub (w := [(h0, .inr (1, [.int (nI 0), .int (nI mv), .ref q1, .ref q2]))]) hP [0] rfl
    have hD9 := hD.sub (ws' := [(h0, .inr (1, [.int (nI 0), .int (nI mv), .ref q1, .ref q2]))]) [0] (by decide) rfl
    exact xw_zret () (by first | exact Or.inl rfl | exact Or.inr rfl) hx hb hr hlocks d_NET_has_17 (rfl) (trivial) hAe hP9 hD9 hS (Nat.le_of_ble_eq_true rfl) (Nat.le_of_ble_eq_true rfl)
  · refine lv_iload_n hx hb d_NET_has_4 rfl (lv_at hl 1 rfl) ?_
    refine lv_aload_n hx hb d_NET_has_5 rfl (lv_at hl 0 rfl) ?_
    refine va_get (D := D) (ci := 1) (v := .int (nI 0)) (C := R_NET) (T := T_NET) (N := 4) hx hb hU iw_NET hown hK hP 0 rfl rfl 0 (by decide) (hU _ uw_45) (fun _ h9 => h9) rfl d_NET_has_6 ?_
    refine lv_icmp_ge (tgt := 16) hx hb d_NET_has_9 (by decide) (fun c_9 => ?_) (fun c_9 => ?_)
    · refine lv_iconst (v := nI 0) hx hb d_NET_has_16 (by decide +kernel) ?_
      have hP9 := xs_P_sub (w := [(h0, .inr (1, [.int (nI 0), .int (nI mv), .ref q1, .ref q2]))]) hP [0] rfl
      have hD9 := hD.sub (ws' := [(h0, .inr (1, [.int (nI 0), .int (nI mv), .ref q1, .ref q2]))]) [0] (by decide) rfl
      exact xw_zret () (by first | exact Or.inl rfl | exact Or.inr rfl) hx hb hr hlocks d_NET_has_17 (rfl) (trivial) hAe hP9 hD9 hS (Nat.le_of_ble_eq_true rfl) (Nat.le_of_ble_eq_true rfl)
    · exact absurd c_9 (fun z => z (by first | exact Int32.not_lt.mp (fun q => xs_no0 c_1 q)))
end
section
set_option maxHeartbeats 4000000 in
set_option maxRecDepth 100000 in
/-- addState, when there are none -/
theorem c_Net_addState (l : Launch) (D : va_G) (cI cB cL : ClassId) (h0 : Nat) (mv : Nat) (q1 : Nat) (q2 : Nat)  : xG (σ := Unit) l y_NET_addState w_NET_addState ({ frames := 0, cells := 0, slots := 0, locals := 0  } : Room) D vwCl (xs_tys cI cB cL) [.ref h0] [(h0, .inr (1, [.int (nI 0), .int (nI mv), .ref q1, .ref q2]))] (fun _ => True) (fun _ => some (.int (nI 0))) (fun _ => [(h0, .inr (1, [.int (nI 1), .int (nI mv), .ref q1, .ref q2]))]) := by
  refine xG.of b_NET_addState 1 (some .int) (by decide +kernel) rfl (Nat.le_of_ble_eq_true rfl) ?_
  intro p e s m below meth c A ls hAe C0 hP hD hS hl
  obtain ⟨hx, hb, hr, hml, hown, hlocks, hts, hnm, hN, hK, hA⟩ := C0
  have hU : ∀ w ∈ xU, w.before #[.ref h0] s = true := fun w h => hts w (List.mem_cons_of_mem _ h)
  have hl : lv_has ls 1 [(0, .ref h0)] := hl
  refine lv_aload_n hx hb d_NET_addState_0 rfl (lv_at hl 0 rfl) ?_
  refine lv_dup hx hb d_NET_addState_1 rfl ?_
  refine va_get (D := D) (ci := 1) (v := .int (nI 0)) (C := R_NET) (T := T_NET) (N := 4) hx hb hU iw_NET hown hK hP 0 rfl rfl 0 (by decide) (hU _ uw_45) (fun _ h9 => h9) rfl d_NET_addState_2 ?_
  refine lv_iconst (v := nI 1) hx hb d_NET_addState_5 (by decide +kernel) ?_
  refine lv_iadd hx hb d_NET_addState_6 ?_
  refine xw_top (nI 1) (by decide +kernel) ?_
  refine va_put (D := D) (ci := 1) (v := .int (nI 1)) (ty := .int) (C := R_NET) (T := T_NET) (N := 4) hx hb hU iw_NET ty_NET ty_NET_ok nm_NET hown hK hP hD hS 0 rfl rfl 0 (by decide) (hU _ uw_45) (fun _ h9 => h9) rfl (by decide +kernel) (by first | rfl | decide +kernel) (by first | rfl | decide +kernel) (Nat.le_of_ble_eq_true rfl) d_NET_addState_7 (fun H locs hP hD hS => ?_)
  have hP : va_P D vwCl [(h0, .inr (1, [.int (nI 1), .int (nI mv), .ref q1, .ref q2]))] H := hP
  have hD : va_D A [(h0, .inr (1, [.int (nI 1), .int (nI mv), .ref q1, .ref q2]))] := hD
  refine lv_aload_n hx hb d_NET_addState_10 rfl (lv_at hl 0 rfl) ?_
  refine va_get (D := D) (ci := 1) (v := .int (nI 1)) (C := R_NET) (T := T_NET) (N := 4) hx hb hU iw_NET hown hK hP 0 rfl rfl 0 (by decide) (hU _ uw_45) (fun _ h9 => h9) rfl d_NET_addState_11 ?_
  refine lv_iconst (v := nI 1) hx hb d_NET_addState_14 (by decide +kernel) ?_
  refine lv_isub hx hb d_NET_addState_15 ?_
  refine xw_top (nI 0) (by decide +kernel) ?_
  have hP9 := xs_P_sub (w := [(h0, .inr (1, [.int (nI 1), .int (nI mv), .ref q1, .ref q2]))]) hP [0] rfl
  have hD9 := hD.sub (ws' := [(h0, .inr (1, [.int (nI 1), .int (nI mv), .ref q1, .ref q2]))]) [0] (by decide) rfl
  exact xw_iret () hx hb hr hlocks d_NET_addState_16 (rfl) (trivial) hAe hP9 hD9 hS (Nat.le_of_ble_eq_true rfl) (Nat.le_of_ble_eq_true rfl)
set_option maxHeartbeats 4000000 in
set_option maxRecDepth 100000 in
/-- placeOf, when none is told -/
theorem c_FP_placeOf0 (l : Launch) (D : va_G) (cI cB cL : ClassId) (h0 : Nat) (q1 : Nat) (q2 : Nat) (q3 : Nat) (a : Int32) (b : Int32)  : xG (σ := Unit) l y_FP_placeOf w_FP_placeOf ({ frames := 0, cells := 0, slots := 0, locals := 0  } : Room) D vwCl (xs_tys cI cB cL) [.ref h0, .int a, .int b] [(h0, .inr (2, [.ref q1, .ref q2, .ref q3, .int (nI 0)]))] (fun _ => True) (fun _ => some (.int (-1))) (fun _ => [(h0, .inr (2, [.ref q1, .ref q2, .ref q3, .int (nI 0)]))]) := by
  refine xG.of b_FP_placeOf 4 (some .int) (by decide +kernel) rfl (Nat.le_of_ble_eq_true rfl) ?_
  intro p e s m below meth c A ls hAe C0 hP hD hS hl
  obtain ⟨hx, hb, hr, hml, hown, hlocks, hts, hnm, hN, hK, hA⟩ := C0
  have hU : ∀ w ∈ xU, w.before #[.ref h0, .int a, .int b] s = true := fun w h => hts w (List.mem_cons_of_mem _ h)
  have hl : lv_has ls 4 [(0, .ref h0), (1, .int a), (2, .int b)] := hl
  refine lv_iconst (v := nI 0) hx hb d_FP_placeOf_0 (by decide +kernel) ?_
  refine lv_istore_n (lv' := [(3, .int (nI 0)), (0, .ref h0), (1, .int a), (2, .int b)]) hx hb d_FP_placeOf_1 rfl hl (by decide) rfl (fun ls hl => ?_)
  refine lv_iload_n hx hb d_FP_placeOf_2 rfl (lv_at hl 0 rfl) ?_
  refine lv_aload_n hx hb d_FP_placeOf_3 rfl (lv_at hl 1 rfl) ?_
  refine va_get (D := D) (ci := 2) (v := .int (nI 0)) (C := R_FP) (T := T_FP) (N := 4) hx hb hU iw_FP hown hK hP 0 rfl rfl 3 (by decide) (hU _ uw_74) (fun _ h9 => h9) rfl d_FP_placeOf_4 ?_
  refine lv_icmp_ge (tgt := 38) hx hb d_FP_placeOf_7 (by decide) (fun c_7 => ?_) (fun c_7 => ?_)
  · refine lv_iconst (v := (-1)) hx hb d_FP_placeOf_38 (by decide +kernel) ?_
    have hP9 := xs_P_sub (w := [(h0, .inr (2, [.ref q1, .ref q2, .ref q3, .int (nI 0)]))]) hP [0] rfl
    have hD9 := hD.sub (ws' := [(h0, .inr (2, [.ref q1, .ref q2, .ref q3, .int (nI 0)]))]) [0] (by decide) rfl
    exact xw_iret () hx hb hr hlocks d_FP_placeOf_39 (rfl) (trivial) hAe hP9 hD9 hS (Nat.le_of_ble_eq_true rfl) (Nat.le_of_ble_eq_true rfl)
  · exact absurd c_7 (by decide +kernel)
set_option maxHeartbeats 4000000 in
set_option maxRecDepth 100000 in
/-- tell with 0, when none is told -/
theorem c_FP_tell0 (l : Launch) (D : va_G) (cI cB cL : ClassId) (h0 : Nat) (q1 : Nat) (q2 : Nat) (q3 : Nat) (f1 : Nat → Int32) (f2 : Nat → Int32) (f3 : Nat → Int32) (a : Int32) (b : Int32)  : xG (σ := Unit) l y_FP_tell w_FP_tell ({ frames := 1, cells := 0, slots := 0, locals := 23  } : Room) D vwCl (xs_tys cI cB cL) [.ref h0, .int a, .int b, .int (nI 0)] [(h0, .inr (2, [.ref q1, .ref q2, .ref q3, .int (nI 0)])), (q1, .inl (cI, 20, .inl f1)), (q2, .inl (cI, 20, .inl f2)), (q3, .inl (cI, 20, .inl f3))] (fun _ => True) (fun _ => none) (fun _ => [(h0, .inr (2, [.ref q1, .ref q2, .ref q3, .int (nI 0)]))]) := by
  refine xG.of b_FP_tell 5 (none) (by decide +kernel) rfl (Nat.le_of_ble_eq_true rfl) ?_
  intro p e s m below meth c A ls hAe C0 hP hD hS hl
  obtain ⟨hx, hb, hr, hml, hown, hlocks, hts, hnm, hN, hK, hA⟩ := C0
  have hU : ∀ w ∈ xU, w.before #[.ref h0, .int a, .int b, .int (nI 0)] s = true := fun w h => hts w (List.mem_cons_of_mem _ h)
  have hl : lv_has ls 5 [(0, .ref h0), (1, .int a), (2, .int b), (3, .int (nI 0))] := hl
  refine lv_aload_n hx hb d_FP_tell_0 rfl (lv_at hl 0 rfl) ?_
  refine lv_iload_n hx hb d_FP_tell_1 rfl (lv_at hl 1 rfl) ?_
  refine lv_iload_n hx hb d_FP_tell_2 rfl (lv_at hl 2 rfl) ?_
  refine xw_callV (C := R_FP) (wr := [(q1, .inl (cI, 20, .inl f1)), (q2, .inl (cI, 20, .inl f2)), (q3, .inl (cI, 20, .inl f3))]) [.int a, .int b] (c_FP_placeOf0 l D cI cB cL h0 q1 q2 q3 a b) ⟨hx, hb, hml, hown, hU⟩ (cwV 2 hU (xs_goodV uw_502 uw_494 uw_495 uw_5 uw_496) rfl rfl rfl (by decide +kernel) ⟨Nat.le_of_ble_eq_true rfl, Nat.le_of_ble_eq_true rfl⟩) 0 rfl rfl rfl rfl hl.1 rfl (Nat.le_of_ble_eq_true rfl) d_FP_tell_3 ⟨Nat.le_of_ble_eq_true rfl, Nat.le_of_ble_eq_true rfl⟩ [0] [1, 2, 3] rfl rfl (by decide) (by decide) (by decide) hN hK hP hD hS hA (fun u H locs hf hP hD hS => ?_)
  have hP : va_P D vwCl [(q1, .inl (cI, 20, .inl f1)), (q2, .inl (cI, 20, .inl f2)), (q3, .inl (cI, 20, .inl f3)), (h0, .inr (2, [.ref q1, .ref q2, .ref q3, .int (nI 0)]))] H := hP
  have hD : va_D A [(q1, .inl (cI, 20, .inl f1)), (q2, .inl (cI, 20, .inl f2)), (q3, .inl (cI, 20, .inl f3)), (h0, .inr (2, [.ref q1, .ref q2, .ref q3, .int (nI 0)]))] := hD
  refine W.widen (k := 0) (n := 0) (Nat.le_of_ble_eq_true rfl) (Nat.le_of_ble_eq_true rfl) ?_
  refine W.eq (g2 := F0 m 6 ls [.int (-1)]) rfl ?_
  refine lv_istore (lv' := [(4, .int (-1)), (0, .ref h0), (1, .int a), (2, .int b), (3, .int (nI 0))]) hx hb d_FP_tell_6 hl (by decide) rfl (fun ls hl => ?_)
  refine lv_iload hx hb d_FP_tell_8 (lv_at hl 0 rfl) ?_
  refine lv_iconst (v := (-1)) hx hb d_FP_tell_10 (by decide +kernel) ?_
  refine lv_icmp_eq (tgt := 27) hx hb d_FP_tell_11 (by decide) (fun c_11 => ?_) (fun c_11 => ?_)
  · refine lv_iload hx hb d_FP_tell_27 (lv_at hl 0 rfl) ?_
    refine lv_iconst (v := (-1)) hx hb d_FP_tell_29 (by decide +kernel) ?_
    refine lv_icmp_eq (tgt := 44) hx hb d_FP_tell_30 (by decide) (fun c_30 => ?_) (fun c_30 => ?_)
    · refine lv_iload_n hx hb d_FP_tell_44 rfl (lv_at hl 4 rfl) ?_
      refine lv_if_eq (tgt := 97) hx hb d_FP_tell_45 (by decide) (fun c_45 => ?_) (fun c_45 => ?_)
      · have hP9 := xs_P_sub (w := [(h0, .inr (2, [.ref q1, .ref q2, .ref q3, .int (nI 0)]))]) hP [3] rfl
        have hD9 := hD.sub (ws' := [(h0, .inr (2, [.ref q1, .ref q2, .ref q3, .int (nI 0)]))]) [3] (by decide) rfl
        exact xw_vret () hx hb hr hlocks d_FP_tell_97 (rfl) (trivial) hAe hP9 hD9 hS (Nat.le_of_ble_eq_true rfl) (Nat.le_of_ble_eq_true rfl)
      · exact absurd c_45 (by decide +kernel)
    · exact absurd c_30 (by decide +kernel)
  · exact absurd c_11 (by decide +kernel)
set_option maxHeartbeats 4000000 in
set_option maxRecDepth 100000 in
/-- tell with another number, when none is told -/
theorem c_FP_tell1 (l : Launch) (D : va_G) (cI cB cL : ClassId) (h0 : Nat) (q1 : Nat) (q2 : Nat) (q3 : Nat) (f1 : Nat → Int32) (f2 : Nat → Int32) (f3 : Nat → Int32) (a : Int32) (b : Int32) (c9 : Int32) (hc : ¬ c9 = 0) : xG (σ := Unit) l y_FP_tell w_FP_tell ({ frames := 1, cells := 0, slots := 0, locals := 23  } : Room) D vwCl (xs_tys cI cB cL) [.ref h0, .int a, .int b, .int c9] [(h0, .inr (2, [.ref q1, .ref q2, .ref q3, .int (nI 0)])), (q1, .inl (cI, 20, .inl f1)), (q2, .inl (cI, 20, .inl f2)), (q3, .inl (cI, 20, .inl f3))] (fun _ => True) (fun _ => none) (fun _ => [(h0, .inr (2, [.ref q1, .ref q2, .ref q3, .int (nI 1)]))]) := by
  refine xG.of b_FP_tell 5 (none) (by decide +kernel) rfl (Nat.le_of_ble_eq_true rfl) ?_
  intro p e s m below meth c A ls hAe C0 hP hD hS hl
  obtain ⟨hx, hb, hr, hml, hown, hlocks, hts, hnm, hN, hK, hA⟩ := C0
  have hU : ∀ w ∈ xU, w.before #[.ref h0, .int a, .int b, .int c9] s = true := fun w h => hts w (List.mem_cons_of_mem _ h)
  have hl : lv_has ls 5 [(0, .ref h0), (1, .int a), (2, .int b), (3, .int c9)] := hl
  refine lv_aload_n hx hb d_FP_tell_0 rfl (lv_at hl 0 rfl) ?_
  refine lv_iload_n hx hb d_FP_tell_1 rfl (lv_at hl 1 rfl) ?_
  refine lv_iload_n hx hb d_FP_tell_2 rfl (lv_at hl 2 rfl) ?_
  refine xw_callV (C := R_FP) (wr := [(q1, .inl (cI, 20, .inl f1)), (q2, .inl (cI, 20, .inl f2)), (q3, .inl (cI, 20, .inl f3))]) [.int a, .int b] (c_FP_placeOf0 l D cI cB cL h0 q1 q2 q3 a b) ⟨hx, hb, hml, hown, hU⟩ (cwV 2 hU (xs_goodV uw_502 uw_494 uw_495 uw_5 uw_496) rfl rfl rfl (by decide +kernel) ⟨Nat.le_of_ble_eq_true rfl, Nat.le_of_ble_eq_true rfl⟩) 0 rfl rfl rfl rfl hl.1 rfl (Nat.le_of_ble_eq_true rfl) d_FP_tell_3 ⟨Nat.le_of_ble_eq_true rfl, Nat.le_of_ble_eq_true rfl⟩ [0] [1, 2, 3] rfl rfl (by decide) (by decide) (by decide) hN hK hP hD hS hA (fun u H locs hf hP hD hS => ?_)
  have hP : va_P D vwCl [(q1, .inl (cI, 20, .inl f1)), (q2, .inl (cI, 20, .inl f2)), (q3, .inl (cI, 20, .inl f3)), (h0, .inr (2, [.ref q1, .ref q2, .ref q3, .int (nI 0)]))] H := hP
  have hD : va_D A [(q1, .inl (cI, 20, .inl f1)), (q2, .inl (cI, 20, .inl f2)), (q3, .inl (cI, 20, .inl f3)), (h0, .inr (2, [.ref q1, .ref q2, .ref q3, .int (nI 0)]))] := hD
  refine W.widen (k := 0) (n := 0) (Nat.le_of_ble_eq_true rfl) (Nat.le_of_ble_eq_true rfl) ?_
  refine W.eq (g2 := F0 m 6 ls [.int (-1)]) rfl ?_
  refine lv_istore (lv' := [(4, .int (-1)), (0, .ref h0), (1, .int a), (2, .int b), (3, .int c9)]) hx hb d_FP_tell_6 hl (by decide) rfl (fun ls hl => ?_)
  refine lv_iload hx hb d_FP_tell_8 (lv_at hl 0 rfl) ?_
  refine lv_iconst (v := (-1)) hx hb d_FP_tell_10 (by decide +kernel) ?_
  refine lv_icmp_eq (tgt := 27) hx hb d_FP_tell_11 (by decide) (fun c_11 => ?_) (fun c_11 => ?_)
  · refine lv_iload hx hb d_FP_tell_27 (lv_at hl 0 rfl) ?_
    refine lv_iconst (v := (-1)) hx hb d_FP_tell_29 (by decide +kernel) ?_
    refine lv_icmp_eq (tgt := 44) hx hb d_FP_tell_30 (by decide) (fun c_30 => ?_) (fun c_30 => ?_)
    · refine lv_iload_n hx hb d_FP_tell_44 rfl (lv_at hl 4 rfl) ?_
      refine lv_if_eq (tgt := 97) hx hb d_FP_tell_45 (by decide) (fun c_45 => ?_) (fun c_45 => ?_)
      · exact absurd c_45 hc
      · refine lv_aload_n hx hb d_FP_tell_48 rfl (lv_at hl 1 rfl) ?_
        refine va_get (D := D) (ci := 2) (v := .int (nI 0)) (C := R_FP) (T := T_FP) (N := 4) hx hb hU iw_FP hown hK hP 3 rfl rfl 3 (by decide) (hU _ uw_74) (fun _ h9 => h9) rfl d_FP_tell_49 ?_
        refine lv_bipush (v := nI 20) hx hb d_FP_tell_52 (by decide +kernel) ?_
        refine lv_icmp_ge (tgt := 97) hx hb d_FP_tell_54 (by decide) (fun c_54 => ?_) (fun c_54 => ?_)
        · exact absurd c_54 (by decide +kernel)
        · refine lv_aload_n hx hb d_FP_tell_57 rfl (lv_at hl 1 rfl) ?_
          refine va_get (D := D) (ci := 2) (v := .ref q1) (C := R_FP) (T := T_FP) (N := 4) hx hb hU iw_FP hown hK hP 3 rfl rfl 0 (by decide) (hU _ uw_71) (fun _ h9 => h9) rfl d_FP_tell_58 ?_
          refine lv_aload_n hx hb d_FP_tell_61 rfl (lv_at hl 1 rfl) ?_
          refine va_get (D := D) (ci := 2) (v := .int (nI 0)) (C := R_FP) (T := T_FP) (N := 4) hx hb hU iw_FP hown hK hP 3 rfl rfl 3 (by decide) (hU _ uw_74) (fun _ h9 => h9) rfl d_FP_tell_62 ?_
          refine lv_iload_n hx hb d_FP_tell_65 rfl (lv_at hl 2 rfl) ?_
          refine xw_ist hx hb hK hP hD hS 0 0 rfl rfl (by decide) (by decide) d_FP_tell_66 (fun H locs hP hD hS => ?_)
          have hP : va_P D vwCl [(q1, .inl (cI, 20, .inl (upd f1 0 a))), (q2, .inl (cI, 20, .inl f2)), (q3, .inl (cI, 20, .inl f3)), (h0, .inr (2, [.ref q1, .ref q2, .ref q3, .int (nI 0)]))] H := hP
          have hD : va_D A [(q1, .inl (cI, 20, .inl (upd f1 0 a))), (q2, .inl (cI, 20, .inl f2)), (q3, .inl (cI, 20, .inl f3)), (h0, .inr (2, [.ref q1, .ref q2, .ref q3, .int (nI 0)]))] := hD
          refine lv_aload_n hx hb d_FP_tell_67 rfl (lv_at hl 1 rfl) ?_
          refine va_get (D := D) (ci := 2) (v := .ref q2) (C := R_FP) (T := T_FP) (N := 4) hx hb hU iw_FP hown hK hP 3 rfl rfl 1 (by decide) (hU _ uw_72) (fun _ h9 => h9) rfl d_FP_tell_68 ?_
          refine lv_aload_n hx hb d_FP_tell_71 rfl (lv_at hl 1 rfl) ?_
          refine va_get (D := D) (ci := 2) (v := .int (nI 0)) (C := R_FP) (T := T_FP) (N := 4) hx hb hU iw_FP hown hK hP 3 rfl rfl 3 (by decide) (hU _ uw_74) (fun _ h9 => h9) rfl d_FP_tell_72 ?_
          refine lv_iload_n hx hb d_FP_tell_75 rfl (lv_at hl 3 rfl) ?_
          refine xw_ist hx hb hK hP hD hS 1 0 rfl rfl (by decide) (by decide) d_FP_tell_76 (fun H locs hP hD hS => ?_)
          have hP : va_P D vwCl [(q1, .inl (cI, 20, .inl (upd f1 0 a))), (q2, .inl (cI, 20, .inl (upd f2 0 b))), (q3, .inl (cI, 20, .inl f3)), (h0, .inr (2, [.ref q1, .ref q2, .ref q3, .int (nI 0)]))] H := hP
          have hD : va_D A [(q1, .inl (cI, 20, .inl (upd f1 0 a))), (q2, .inl (cI, 20, .inl (upd f2 0 b))), (q3, .inl (cI, 20, .inl f3)), (h0, .inr (2, [.ref q1, .ref q2, .ref q3, .int (nI 0)]))] := hD
          refine lv_aload_n hx hb d_FP_tell_77 rfl (lv_at hl 1 rfl) ?_
          refine va_get (D := D) (ci := 2) (v := .ref q3) (C := R_FP) (T := T_FP) (N := 4) hx hb hU iw_FP hown hK hP 3 rfl rfl 2 (by decide) (hU _ uw_73) (fun _ h9 => h9) rfl d_FP_tell_78 ?_
          refine lv_aload_n hx hb d_FP_tell_81 rfl (lv_at hl 1 rfl) ?_
          refine va_get (D := D) (ci := 2) (v := .int (nI 0)) (C := R_FP) (T := T_FP) (N := 4) hx hb hU iw_FP hown hK hP 3 rfl rfl 3 (by decide) (hU _ uw_74) (fun _ h9 => h9) rfl d_FP_tell_82 ?_
          refine lv_iload_n hx hb d_FP_tell_85 rfl (lv_at hl 4 rfl) ?_
          refine xw_ist hx hb hK hP hD hS 2 0 rfl rfl (by decide) (by decide) d_FP_tell_86 (fun H locs hP hD hS => ?_)
          have hP : va_P D vwCl [(q1, .inl (cI, 20, .inl (upd f1 0 a))), (q2, .inl (cI, 20, .inl (upd f2 0 b))), (q3, .inl (cI, 20, .inl (upd f3 0 c9))), (h0, .inr (2, [.ref q1, .ref q2, .ref q3, .int (nI 0)]))] H := hP
          have hD : va_D A [(q1, .inl (cI, 20, .inl (upd f1 0 a))), (q2, .inl (cI, 20, .inl (upd f2 0 b))), (q3, .inl (cI, 20, .inl (upd f3 0 c9))), (h0, .inr (2, [.ref q1, .ref q2, .ref q3, .int (nI 0)]))] := hD
          refine lv_aload_n hx hb d_FP_tell_87 rfl (lv_at hl 1 rfl) ?_
          refine lv_dup hx hb d_FP_tell_88 rfl ?_
          refine va_get (D := D) (ci := 2) (v := .int (nI 0)) (C := R_FP) (T := T_FP) (N := 4) hx hb hU iw_FP hown hK hP 3 rfl rfl 3 (by decide) (hU _ uw_74) (fun _ h9 => h9) rfl d_FP_tell_89 ?_
          refine lv_iconst (v := nI 1) hx hb d_FP_tell_92 (by decide +kernel) ?_
          refine lv_iadd hx hb d_FP_tell_93 ?_
          refine xw_top (nI 1) (by decide +kernel) ?_
          refine va_put (D := D) (ci := 2) (v := .int (nI 1)) (ty := .int) (C := R_FP) (T := T_FP) (N := 4) hx hb hU iw_FP ty_FP ty_FP_ok nm_FP hown hK hP hD hS 3 rfl rfl 3 (by decide) (hU _ uw_74) (fun _ h9 => h9) rfl (by decide +kernel) (by first | rfl | decide +kernel) (by first | rfl | decide +kernel) (Nat.le_of_ble_eq_true rfl) d_FP_tell_94 (fun H locs hP hD hS => ?_)
          have hP : va_P D vwCl [(q1, .inl (cI, 20, .inl (upd f1 0 a))), (q2, .inl (cI, 20, .inl (upd f2 0 b))), (q3, .inl (cI, 20, .inl (upd f3 0 c9))), (h0, .inr (2, [.ref q1, .ref q2, .ref q3, .int (nI 1)]))] H := hP
          have hD : va_D A [(q1, .inl (cI, 20, .inl (upd f1 0 a))), (q2, .inl (cI, 20, .inl (upd f2 0 b))), (q3, .inl (cI, 20, .inl (upd f3 0 c9))), (h0, .inr (2, [.ref q1, .ref q2, .ref q3, .int (nI 1)]))] := hD
          have hP9 := xs_P_sub (w := [(h0, .inr (2, [.ref q1, .ref q2, .ref q3, .int (nI 1)]))]) hP [3] rfl
          have hD9 := hD.sub (ws' := [(h0, .inr (2, [.ref q1, .ref q2, .ref q3, .int (nI 1)]))]) [3] (by decide) rfl
          exact xw_vret () hx hb hr hlocks d_FP_tell_97 (rfl) (trivial) hAe hP9 hD9 hS (Nat.le_of_ble_eq_true rfl) (Nat.le_of_ble_eq_true rfl)
    · exact absurd c_30 (by decide +kernel)
  · exact absurd c_11 (by decide +kernel)
set_option maxHeartbeats 4000000 in
set_option maxRecDepth 100000 in
/-- Crew.has -/
theorem c_CR_has (l : Launch) (D : va_G) (cI cB cL : ClassId) (h0 : Nat) (wk : Nat) (cf : Nat) (cl : Nat) (ct : Nat) (ck : Nat) (cs : Nat) (lw : Nat) (att : Nat) (k : Int32)  : xG (σ := Int32) l y_CR_has w_CR_has ({ frames := 0, cells := 0, slots := 0, locals := 0  } : Room) D vwCl (xs_tys cI cB cL) [.ref h0, .int k] [(h0, .inr (4, [.int (nI wk), .ref cf, .ref cl, .ref ct, .ref ck, .ref cs, .int (nI lw), .int (nI att)]))] (fun v => (v = 1 ∧ ¬ k < 0 ∧ k < nI wk) ∨ (v = 0 ∧ (k < 0 ∨ nI wk ≤ k))) (fun v => some (.int v)) (fun v => [(h0, .inr (4, [.int (nI wk), .ref cf, .ref cl, .ref ct, .ref ck, .ref cs, .int (nI lw), .int (nI att)]))]) := by
  refine xG.of b_CR_has 2 (some .boolean) (by decide +kernel) rfl (Nat.le_of_ble_eq_true rfl) ?_
  intro p e s m below meth c A ls hAe C0 hP hD hS hl
  obtain ⟨hx, hb, hr, hml, hown, hlocks, hts, hnm, hN, hK, hA⟩ := C0
  have hU : ∀ w ∈ xU, w.before #[.ref h0, .int k] s = true := fun w h => hts w (List.mem_cons_of_mem _ h)
  have hl : lv_has ls 2 [(0, .ref h0), (1, .int k)] := hl
  refine lv_iload_n hx hb d_CR_has_0 rfl (lv_at hl 1 rfl) ?_
  refine lv_if_lt (tgt := 16) hx hb d_CR_has_1 (by decide) (fun c_1 => ?_) (fun c_1 => ?_)
  · refine lv_iconst (v := nI 0) hx hb d_CR_has_16 (by decide +kernel) ?_
    have hP9 := xs_P_sub (w := [(h0, .inr (4, [.int (nI wk), .ref cf, .ref cl, .ref ct, .ref ck, .ref cs, .int (nI lw), .int (nI att)]))]) hP [0] rfl
    have hD9 := hD.sub (ws' := [(h0, .inr (4, [.int (nI wk), .ref cf, .ref cl, .ref ct, .ref ck, .ref cs, .int (nI lw), .int (nI att)]))]) [0] (by decide) rfl
    exact xw_zret (nI 0) (by first | exact Or.inl rfl | exact Or.inr rfl) hx hb hr hlocks d_CR_has_17 (rfl) (by first | exact Or.inl ⟨rfl, c_1, Int32.not_le.mp c_9⟩ | exact Or.inr ⟨rfl, Or.inl c_1⟩ | exact Or.inr ⟨rfl, Or.inr c_9⟩) hAe hP9 hD9 hS (Nat.le_of_ble_eq_true rfl) (Nat.le_of_ble_eq_true rfl)
  · refine lv_iload_n hx hb d_CR_has_4 rfl (lv_at hl 1 rfl) ?_
    refine lv_aload_n hx hb d_CR_has_5 rfl (lv_at hl 0 rfl) ?_
    refine va_get (D := D) (ci := 4) (v := .int (nI wk)) (C := R_CR) (T := T_CR) (N := 8) hx hb hU iw_CR hown hK hP 0 rfl rfl 0 (by decide) (hU _ uw_202) (fun _ h9 => h9) rfl d_CR_has_6 ?_
    refine lv_icmp_ge (tgt := 16) hx hb d_CR_has_9 (by decide) (fun c_9 => ?_) (fun c_9 => ?_)
    · refine lv_iconst (v := nI 0) hx hb d_CR_has_16 (by decide +kernel) ?_
      have hP9 := xs_P_sub (w := [(h0, .inr (4, [.int (nI wk), .ref cf, .ref cl, .ref ct, .ref ck, .ref cs, .int (nI lw), .int (nI att)]))]) hP [0] rfl
      have hD9 := hD.sub (ws' := [(h0, .inr (4, [.int (nI wk), .ref cf, .ref cl, .ref ct, .ref ck, .ref cs, .int (nI lw), .int (nI att)]))]) [0] (by decide) rfl
      exact xw_zret (nI 0) (by first | exact Or.inl rfl | exact Or.inr rfl) hx hb hr hlocks d_CR_has_17 (rfl) (by first | exact Or.inl ⟨rfl, c_1, Int32.not_le.mp c_9⟩ | exact Or.inr ⟨rfl, Or.inl c_1⟩ | exact Or.inr ⟨rfl, Or.inr c_9⟩) hAe hP9 hD9 hS (Nat.le_of_ble_eq_true rfl) (Nat.le_of_ble_eq_true rfl)
    · refine lv_iconst (v := nI 1) hx hb d_CR_has_12 (by decide +kernel) ?_
      refine lv_goto (tgt := 17) hx hb d_CR_has_13 (by decide) ?_
      have hP9 := xs_P_sub (w := [(h0, .inr (4, [.int (nI wk), .ref cf, .ref cl, .ref ct, .ref ck, .ref cs, .int (nI lw), .int (nI att)]))]) hP [0] rfl
      have hD9 := hD.sub (ws' := [(h0, .inr (4, [.int (nI wk), .ref cf, .ref cl, .ref ct, .ref ck, .ref cs, .int (nI lw), .int (nI att)]))]) [0] (by decide) rfl
      exact xw_zret (nI 1) (by first | exact Or.inl rfl | exact Or.inr rfl) hx hb hr hlocks d_CR_has_17 (rfl) (by first | exact Or.inl ⟨rfl, c_1, Int32.not_le.mp c_9⟩ | exact Or.inr ⟨rfl, Or.inl c_1⟩ | exact Or.inr ⟨rfl, Or.inr c_9⟩) hAe hP9 hD9 hS (Nat.le_of_ble_eq_true rfl) (Nat.le_of_ble_eq_true rfl)
set_option maxHeartbeats 4000000 in
set_option maxRecDepth 100000 in
/-- Crew.startAnew -/
theorem c_CR_startAnew (l : Launch) (D : va_G) (cI cB cL : ClassId) (h0 : Nat) (wk : Nat) (cf : Nat) (cl : Nat) (ct : Nat) (ck : Nat) (cs : Nat) (lw : Nat) (att : Nat) (f1 : Nat → Int32) (f2 : Nat → Int32) (f3 : Nat → Int32) (f4 : Nat → Int32)  : xG (σ := Unit) l y_CR_startAnew w_CR_startAnew ({ frames := 1, cells := 0, slots := 0, locals := 23  } : Room) D vwCl (xs_tys cI cB cL) [.ref h0] [(h0, .inr (4, [.int (nI wk), .ref cf, .ref cl, .ref ct, .ref ck, .ref cs, .int (nI lw), .int (nI att)])), (cl, .inl (cB, 16, .inl f1)), (ct, .inl (cI, 16, .inl f2)), (ck, .inl (cI, 16, .inl f3)), (cs, .inl (cI, 16, .inl f4))] (fun _ => True) (fun _ => none) (fun _ => [(h0, .inr (4, [.int (nI wk), .ref cf, .ref cl, .ref ct, .ref ck, .ref cs, .int (nI wk), .int (nI 0)])), (cl, .inl (cB, 16, .inl (fun _ => nI 1))), (ct, .inl (cI, 16, .inl (fun _ => nI 0))), (ck, .inl (cI, 16, .inl (fun _ => nI 0))), (cs, .inl (cI, 16, .inl (fun _ => nI 0)))]) := by
  refine xG.of b_CR_startAnew 1 (none) (by decide +kernel) rfl (Nat.le_of_ble_eq_true rfl) ?_
  intro p e s m below meth c A ls hAe C0 hP hD hS hl
  obtain ⟨hx, hb, hr, hml, hown, hlocks, hts, hnm, hN, hK, hA⟩ := C0
  have hU : ∀ w ∈ xU, w.before #[.ref h0] s = true := fun w h => hts w (List.mem_cons_of_mem _ h)
  have hl : lv_has ls 1 [(0, .ref h0)] := hl
  refine lv_aload_n hx hb d_CR_startAnew_0 rfl (lv_at hl 0 rfl) ?_
  refine va_get (D := D) (ci := 4) (v := .ref cl) (C := R_CR) (T := T_CR) (N := 8) hx hb hU iw_CR hown hK hP 0 rfl rfl 2 (by decide) (hU _ uw_206) (fun _ h9 => h9) rfl d_CR_startAnew_1 ?_
  refine lv_iconst (v := nI 1) hx hb d_CR_startAnew_4 (by decide +kernel) ?_
  refine xw_callSN (wr := [(h0, .inr (4, [.int (nI wk), .ref cf, .ref cl, .ref ct, .ref ck, .ref cs, .int (nI lw), .int (nI att)])), (ct, .inl (cI, 16, .inl f2)), (ck, .inl (cI, 16, .inl f3)), (cs, .inl (cI, 16, .inl f4))]) [.ref cl, .int (nI 1)] (c_fillFlags l D cI cB cL cl 16 f1 (nI 1) (by decide) (by first | exact Or.inl rfl | exact Or.inr rfl)) ⟨hx, hb, hml, hown, hU⟩ ⟨va_cnB 2 hU (xs_good uw_192) rfl rfl rfl (hN _ nw_190) (hU _ uw_1) (by decide +kernel) ⟨Nat.le_of_ble_eq_true rfl, Nat.le_of_ble_eq_true rfl⟩, hU _ uw_191, trivial⟩ rfl hl.1 rfl (Nat.le_of_ble_eq_true rfl) d_CR_startAnew_5 ⟨Nat.le_of_ble_eq_true rfl, Nat.le_of_ble_eq_true rfl⟩ [1] [0, 2, 3, 4] rfl rfl (by decide) (by decide) (by decide) hN hK hP hD hS hA (fun u H locs hf hP hD hS => ?_)
  have hP : va_P D vwCl [(h0, .inr (4, [.int (nI wk), .ref cf, .ref cl, .ref ct, .ref ck, .ref cs, .int (nI lw), .int (nI att)])), (ct, .inl (cI, 16, .inl f2)), (ck, .inl (cI, 16, .inl f3)), (cs, .inl (cI, 16, .inl f4)), (cl, .inl (cB, 16, .inl (fun _ => (nI 1))))] H := hP
  have hD : va_D A [(h0, .inr (4, [.int (nI wk), .ref cf, .ref cl, .ref ct, .ref ck, .ref cs, .int (nI lw), .int (nI att)])), (ct, .inl (cI, 16, .inl f2)), (ck, .inl (cI, 16, .inl f3)), (cs, .inl (cI, 16, .inl f4)), (cl, .inl (cB, 16, .inl (fun _ => (nI 1))))] := hD
  refine W.widen (k := 0) (n := 0) (Nat.le_of_ble_eq_true rfl) (Nat.le_of_ble_eq_true rfl) ?_
  refine W.eq (g2 := F0 m 8 ls []) rfl ?_
  refine lv_aload_n hx hb d_CR_startAnew_8 rfl (lv_at hl 0 rfl) ?_
  refine va_get (D := D) (ci := 4) (v := .ref ct) (C := R_CR) (T := T_CR) (N := 8) hx hb hU iw_CR hown hK hP 0 rfl rfl 3 (by decide) (hU _ uw_208) (fun _ h9 => h9) rfl d_CR_startAnew_9 ?_
  refine lv_iconst (v := nI 0) hx hb d_CR_startAnew_12 (by decide +kernel) ?_
  refine xw_callS (wr := [(h0, .inr (4, [.int (nI wk), .ref cf, .ref cl, .ref ct, .ref ck, .ref cs, .int (nI lw), .int (nI att)])), (ck, .inl (cI, 16, .inl f3)), (cs, .inl (cI, 16, .inl f4)), (cl, .inl (cB, 16, .inl (fun _ => (nI 1))))]) [.ref ct, .int (nI 0)] (c_fill l D cI cB cL ct 16 f2 (nI 0) (by decide)) ⟨hx, hb, hml, hown, hU⟩ (va_cwS 2 hU (xs_goodS uw_416 uw_123 uw_8 uw_124) rfl rfl rfl (by decide +kernel) ⟨Nat.le_of_ble_eq_true rfl, Nat.le_of_ble_eq_true rfl⟩) rfl hl.1 rfl (Nat.le_of_ble_eq_true rfl) d_CR_startAnew_13 ⟨Nat.le_of_ble_eq_true rfl, Nat.le_of_ble_eq_true rfl⟩ [1] [0, 2, 3, 4] rfl rfl (by decide) (by decide) (by decide) hN hK hP hD hS hA (fun u H locs hf hP hD hS => ?_)
  have hP : va_P D vwCl [(h0, .inr (4, [.int (nI wk), .ref cf, .ref cl, .ref ct, .ref ck, .ref cs, .int (nI lw), .int (nI att)])), (ck, .inl (cI, 16, .inl f3)), (cs, .inl (cI, 16, .inl f4)), (cl, .inl (cB, 16, .inl (fun _ => (nI 1)))), (ct, .inl (cI, 16, .inl (fun _ => (nI 0))))] H := hP
  have hD : va_D A [(h0, .inr (4, [.int (nI wk), .ref cf, .ref cl, .ref ct, .ref ck, .ref cs, .int (nI lw), .int (nI att)])), (ck, .inl (cI, 16, .inl f3)), (cs, .inl (cI, 16, .inl f4)), (cl, .inl (cB, 16, .inl (fun _ => (nI 1)))), (ct, .inl (cI, 16, .inl (fun _ => (nI 0))))] := hD
  refine W.widen (k := 0) (n := 0) (Nat.le_of_ble_eq_true rfl) (Nat.le_of_ble_eq_true rfl) ?_
  refine W.eq (g2 := F0 m 16 ls []) rfl ?_
  refine lv_aload_n hx hb d_CR_startAnew_16 rfl (lv_at hl 0 rfl) ?_
  refine va_get (D := D) (ci := 4) (v := .ref ck) (C := R_CR) (T := T_CR) (N := 8) hx hb hU iw_CR hown hK hP 0 rfl rfl 4 (by decide) (hU _ uw_210) (fun _ h9 => h9) rfl d_CR_startAnew_17 ?_
  refine lv_iconst (v := nI 0) hx hb d_CR_startAnew_20 (by decide +kernel) ?_
  refine xw_callS (wr := [(h0, .inr (4, [.int (nI wk), .ref cf, .ref cl, .ref ct, .ref ck, .ref cs, .int (nI lw), .int (nI att)])), (cs, .inl (cI, 16, .inl f4)), (cl, .inl (cB, 16, .inl (fun _ => (nI 1)))), (ct, .inl (cI, 16, .inl (fun _ => (nI 0))))]) [.ref ck, .int (nI 0)] (c_fill l D cI cB cL ck 16 f3 (nI 0) (by decide)) ⟨hx, hb, hml, hown, hU⟩ (va_cwS 2 hU (xs_goodS uw_416 uw_123 uw_8 uw_124) rfl rfl rfl (by decide +kernel) ⟨Nat.le_of_ble_eq_true rfl, Nat.le_of_ble_eq_true rfl⟩) rfl hl.1 rfl (Nat.le_of_ble_eq_true rfl) d_CR_startAnew_21 ⟨Nat.le_of_ble_eq_true rfl, Nat.le_of_ble_eq_true rfl⟩ [1] [0, 2, 3, 4] rfl rfl (by decide) (by decide) (by decide) hN hK hP hD hS hA (fun u H locs hf hP hD hS => ?_)
  have hP : va_P D vwCl [(h0, .inr (4, [.int (nI wk), .ref cf, .ref cl, .ref ct, .ref ck, .ref cs, .int (nI lw), .int (nI att)])), (cs, .inl (cI, 16, .inl f4)), (cl, .inl (cB, 16, .inl (fun _ => (nI 1)))), (ct, .inl (cI, 16, .inl (fun _ => (nI 0)))), (ck, .inl (cI, 16, .inl (fun _ => (nI 0))))] H := hP
  have hD : va_D A [(h0, .inr (4, [.int (nI wk), .ref cf, .ref cl, .ref ct, .ref ck, .ref cs, .int (nI lw), .int (nI att)])), (cs, .inl (cI, 16, .inl f4)), (cl, .inl (cB, 16, .inl (fun _ => (nI 1)))), (ct, .inl (cI, 16, .inl (fun _ => (nI 0)))), (ck, .inl (cI, 16, .inl (fun _ => (nI 0))))] := hD
  refine W.widen (k := 0) (n := 0) (Nat.le_of_ble_eq_true rfl) (Nat.le_of_ble_eq_true rfl) ?_
  refine W.eq (g2 := F0 m 24 ls []) rfl ?_
  refine lv_aload_n hx hb d_CR_startAnew_24 rfl (lv_at hl 0 rfl) ?_
  refine va_get (D := D) (ci := 4) (v := .ref cs) (C := R_CR) (T := T_CR) (N := 8) hx hb hU iw_CR hown hK hP 0 rfl rfl 5 (by decide) (hU _ uw_213) (fun _ h9 => h9) rfl d_CR_startAnew_25 ?_
  refine lv_iconst (v := nI 0) hx hb d_CR_startAnew_28 (by decide +kernel) ?_
  refine xw_callS (wr := [(h0, .inr (4, [.int (nI wk), .ref cf, .ref cl, .ref ct, .ref ck, .ref cs, .int (nI lw), .int (nI att)])), (cl, .inl (cB, 16, .inl (fun _ => (nI 1)))), (ct, .inl (cI, 16, .inl (fun _ => (nI 0)))), (ck, .inl (cI, 16, .inl (fun _ => (nI 0))))]) [.ref cs, .int (nI 0)] (c_fill l D cI cB cL cs 16 f4 (nI 0) (by decide)) ⟨hx, hb, hml, hown, hU⟩ (va_cwS 2 hU (xs_goodS uw_416 uw_123 uw_8 uw_124) rfl rfl rfl (by decide +kernel) ⟨Nat.le_of_ble_eq_true rfl, Nat.le_of_ble_eq_true rfl⟩) rfl hl.1 rfl (Nat.le_of_ble_eq_true rfl) d_CR_startAnew_29 ⟨Nat.le_of_ble_eq_true rfl, Nat.le_of_ble_eq_true rfl⟩ [1] [0, 2, 3, 4] rfl rfl (by decide) (by decide) (by decide) hN hK hP hD hS hA (fun u H locs hf hP hD hS => ?_)
  have hP : va_P D vwCl [(h0, .inr (4, [.int (nI wk), .ref cf, .ref cl, .ref ct, .ref ck, .ref cs, .int (nI lw), .int (nI att)])), (cl, .inl (cB, 16, .inl (fun _ => (nI 1)))), (ct, .inl (cI, 16, .inl (fun _ => (nI 0)))), (ck, .inl (cI, 16, .inl (fun _ => (nI 0)))), (cs, .inl (cI, 16, .inl (fun _ => (nI 0))))] H := hP
  have hD : va_D A [(h0, .inr (4, [.int (nI wk), .ref cf, .ref cl, .ref ct, .ref ck, .ref cs, .int (nI lw), .int (nI att)])), (cl, .inl (cB, 16, .inl (fun _ => (nI 1)))), (ct, .inl (cI, 16, .inl (fun _ => (nI 0)))), (ck, .inl (cI, 16, .inl (fun _ => (nI 0)))), (cs, .inl (cI, 16, .inl (fun _ => (nI 0))))] := hD
  refine W.widen (k := 0) (n := 0) (Nat.le_of_ble_eq_true rfl) (Nat.le_of_ble_eq_true rfl) ?_
  refine W.eq (g2 := F0 m 32 ls []) rfl ?_
  refine lv_aload_n hx hb d_CR_startAnew_32 rfl (lv_at hl 0 rfl) ?_
  refine lv_aload_n hx hb d_CR_startAnew_33 rfl (lv_at hl 0 rfl) ?_
  refine va_get (D := D) (ci := 4) (v := .int (nI wk)) (C := R_CR) (T := T_CR) (N := 8) hx hb hU iw_CR hown hK hP 0 rfl rfl 0 (by decide) (hU _ uw_202) (fun _ h9 => h9) rfl d_CR_startAnew_34 ?_
  refine va_put (D := D) (ci := 4) (v := .int (nI wk)) (ty := .int) (C := R_CR) (T := T_CR) (N := 8) hx hb hU iw_CR ty_CR ty_CR_ok nm_CR hown hK hP hD hS 0 rfl rfl 6 (by decide) (hU _ uw_216) (fun _ h9 => h9) rfl (by decide +kernel) (by first | rfl | decide +kernel) (by first | rfl | decide +kernel) (Nat.le_of_ble_eq_true rfl) d_CR_startAnew_37 (fun H locs hP hD hS => ?_)
  have hP : va_P D vwCl [(h0, .inr (4, [.int (nI wk), .ref cf, .ref cl, .ref ct, .ref ck, .ref cs, .int (nI wk), .int (nI att)])), (cl, .inl (cB, 16, .inl (fun _ => (nI 1)))), (ct, .inl (cI, 16, .inl (fun _ => (nI 0)))), (ck, .inl (cI, 16, .inl (fun _ => (nI 0)))), (cs, .inl (cI, 16, .inl (fun _ => (nI 0))))] H := hP
  have hD : va_D A [(h0, .inr (4, [.int (nI wk), .ref cf, .ref cl, .ref ct, .ref ck, .ref cs, .int (nI wk), .int (nI att)])), (cl, .inl (cB, 16, .inl (fun _ => (nI 1)))), (ct, .inl (cI, 16, .inl (fun _ => (nI 0)))), (ck, .inl (cI, 16, .inl (fun _ => (nI 0)))), (cs, .inl (cI, 16, .inl (fun _ => (nI 0))))] := hD
  refine lv_aload_n hx hb d_CR_startAnew_40 rfl (lv_at hl 0 rfl) ?_
  refine lv_iconst (v := nI 0) hx hb d_CR_startAnew_41 (by decide +kernel) ?_
  refine va_put (D := D) (ci := 4) (v := .int (nI 0)) (ty := .int) (C := R_CR) (T := T_CR) (N := 8) hx hb hU iw_CR ty_CR ty_CR_ok nm_CR hown hK hP hD hS 0 rfl rfl 7 (by decide) (hU _ uw_219) (fun _ h9 => h9) rfl (by decide +kernel) (by first | rfl | decide +kernel) (by first | rfl | decide +kernel) (Nat.le_of_ble_eq_true rfl) d_CR_startAnew_42 (fun H locs hP hD hS => ?_)
  have hP : va_P D vwCl [(h0, .inr (4, [.int (nI wk), .ref cf, .ref cl, .ref ct, .ref ck, .ref cs, .int (nI wk), .int (nI 0)])), (cl, .inl (cB, 16, .inl (fun _ => (nI 1)))), (ct, .inl (cI, 16, .inl (fun _ => (nI 0)))), (ck, .inl (cI, 16, .inl (fun _ => (nI 0)))), (cs, .inl (cI, 16, .inl (fun _ => (nI 0))))] H := hP
  have hD : va_D A [(h0, .inr (4, [.int (nI wk), .ref cf, .ref cl, .ref ct, .ref ck, .ref cs, .int (nI wk), .int (nI 0)])), (cl, .inl (cB, 16, .inl (fun _ => (nI 1)))), (ct, .inl (cI, 16, .inl (fun _ => (nI 0)))), (ck, .inl (cI, 16, .inl (fun _ => (nI 0)))), (cs, .inl (cI, 16, .inl (fun _ => (nI 0))))] := hD
  have hP9 := xs_P_sub (w := [(h0, .inr (4, [.int (nI wk), .ref cf, .ref cl, .ref ct, .ref ck, .ref cs, .int (nI wk), .int (nI 0)])), (cl, .inl (cB, 16, .inl (fun _ => (nI 1)))), (ct, .inl (cI, 16, .inl (fun _ => (nI 0)))), (ck, .inl (cI, 16, .inl (fun _ => (nI 0)))), (cs, .inl (cI, 16, .inl (fun _ => (nI 0))))]) hP [0, 1, 2, 3, 4] rfl
  have hD9 := hD.sub (ws' := [(h0, .inr (4, [.int (nI wk), .ref cf, .ref cl, .ref ct, .ref ck, .ref cs, .int (nI wk), .int (nI 0)])), (cl, .inl (cB, 16, .inl (fun _ => (nI 1)))), (ct, .inl (cI, 16, .inl (fun _ => (nI 0)))), (ck, .inl (cI, 16, .inl (fun _ => (nI 0)))), (cs, .inl (cI, 16, .inl (fun _ => (nI 0))))]) [0, 1, 2, 3, 4] (by decide) rfl
  exact xw_vret () hx hb hr hlocks d_CR_startAnew_45 (rfl) (trivial) hAe hP9 hD9 hS (Nat.le_of_ble_eq_true rfl) (Nat.le_of_ble_eq_true rfl)
set_option maxHeartbeats 4000000 in
set_option maxRecDepth 100000 in
/-- Levels.emptySets -/
theorem c_LE_emptySets (l : Launch) (D : va_G) (cI cB cL : ClassId) (h0 : Nat) (lo : Nat) (lr : Nat) (lb : Nat) (lf : Nat) (lv : Nat) (f1 : Nat → Int32)  : xG (σ := Unit) l y_LE_emptySets w_LE_emptySets ({ frames := 1, cells := 0, slots := 0, locals := 22  } : Room) D vwCl (xs_tys cI cB cL) [.ref h0] [(h0, .inr (7, [.ref lo, .ref lr, .ref lb, .int (nI lv), .ref lf])), (lf, .inl (cB, 200, .inl f1))] (fun _ => True) (fun _ => none) (fun _ => [(h0, .inr (7, [.ref lo, .ref lr, .ref lb, .int (nI lv), .ref lf])), (lf, .inl (cB, 200, .inl (fun _ => nI 0)))]) := by
  refine xG.of b_LE_emptySets 1 (none) (by decide +kernel) rfl (Nat.le_of_ble_eq_true rfl) ?_
  intro p e s m below meth c A ls hAe C0 hP hD hS hl
  obtain ⟨hx, hb, hr, hml, hown, hlocks, hts, hnm, hN, hK, hA⟩ := C0
  have hU : ∀ w ∈ xU, w.before #[.ref h0] s = true := fun w h => hts w (List.mem_cons_of_mem _ h)
  have hl : lv_has ls 1 [(0, .ref h0)] := hl
  refine lv_aload_n hx hb d_LE_emptySets_0 rfl (lv_at hl 0 rfl) ?_
  refine va_get (D := D) (ci := 7) (v := .ref lf) (C := R_LE) (T := T_LE) (N := 5) hx hb hU iw_LE hown hK hP 0 rfl rfl 4 (by decide) (hU _ uw_138) (fun _ h9 => h9) rfl d_LE_emptySets_1 ?_
  refine lv_iconst (v := nI 0) hx hb d_LE_emptySets_4 (by decide +kernel) ?_
  refine xw_callSN (wr := [(h0, .inr (7, [.ref lo, .ref lr, .ref lb, .int (nI lv), .ref lf]))]) [.ref lf, .int (nI 0)] (c_fillFlags l D cI cB cL lf 200 f1 (nI 0) (by decide) (by first | exact Or.inl rfl | exact Or.inr rfl)) ⟨hx, hb, hml, hown, hU⟩ ⟨va_cnB 2 hU (xs_good uw_192) rfl rfl rfl (hN _ nw_425) (hU _ uw_1) (by decide +kernel) ⟨Nat.le_of_ble_eq_true rfl, Nat.le_of_ble_eq_true rfl⟩, hU _ uw_191, trivial⟩ rfl hl.1 rfl (Nat.le_of_ble_eq_true rfl) d_LE_emptySets_5 ⟨Nat.le_of_ble_eq_true rfl, Nat.le_of_ble_eq_true rfl⟩ [1] [0] rfl rfl (by decide) (by decide) (by decide) hN hK hP hD hS hA (fun u H locs hf hP hD hS => ?_)
  have hP : va_P D vwCl [(h0, .inr (7, [.ref lo, .ref lr, .ref lb, .int (nI lv), .ref lf])), (lf, .inl (cB, 200, .inl (fun _ => (nI 0))))] H := hP
  have hD : va_D A [(h0, .inr (7, [.ref lo, .ref lr, .ref lb, .int (nI lv), .ref lf])), (lf, .inl (cB, 200, .inl (fun _ => (nI 0))))] := hD
  refine W.widen (k := 0) (n := 0) (Nat.le_of_ble_eq_true rfl) (Nat.le_of_ble_eq_true rfl) ?_
  refine W.eq (g2 := F0 m 8 ls []) rfl ?_
  have hP9 := xs_P_sub (w := [(h0, .inr (7, [.ref lo, .ref lr, .ref lb, .int (nI lv), .ref lf])), (lf, .inl (cB, 200, .inl (fun _ => (nI 0))))]) hP [0, 1] rfl
  have hD9 := hD.sub (ws' := [(h0, .inr (7, [.ref lo, .ref lr, .ref lb, .int (nI lv), .ref lf])), (lf, .inl (cB, 200, .inl (fun _ => (nI 0))))]) [0, 1] (by decide) rfl
  exact xw_vret () hx hb hr hlocks d_LE_emptySets_8 (rfl) (trivial) hAe hP9 hD9 hS (Nat.le_of_ble_eq_true rfl) (Nat.le_of_ble_eq_true rfl)
set_option maxHeartbeats 4000000 in
set_option maxRecDepth 100000 in
/-- Levels.startAnew -/
theorem c_LE_startAnew (l : Launch) (D : va_G) (cI cB cL : ClassId) (h0 : Nat) (lo : Nat) (lr : Nat) (lb : Nat) (lf : Nat) (lv : Nat) (f1 : Nat → Int32) (f2 : Nat → Int32)  : xG (σ := Unit) l y_LE_startAnew w_LE_startAnew ({ frames := 2, cells := 0, slots := 0, locals := 42  } : Room) D vwCl (xs_tys cI cB cL) [.ref h0] [(h0, .inr (7, [.ref lo, .ref lr, .ref lb, .int (nI lv), .ref lf])), (lo, .inl (cI, 200, .inl f1)), (lf, .inl (cB, 200, .inl f2))] (fun _ => True) (fun _ => none) (fun _ => [(h0, .inr (7, [.ref lo, .ref lr, .ref lb, .int (nI 0), .ref lf])), (lo, .inl (cI, 200, .inl (fun _ => (-1)))), (lf, .inl (cB, 200, .inl (fun _ => nI 0)))]) := by
  refine xG.of b_LE_startAnew 1 (none) (by decide +kernel) rfl (Nat.le_of_ble_eq_true rfl) ?_
  intro p e s m below meth c A ls hAe C0 hP hD hS hl
  obtain ⟨hx, hb, hr, hml, hown, hlocks, hts, hnm, hN, hK, hA⟩ := C0
  have hU : ∀ w ∈ xU, w.before #[.ref h0] s = true := fun w h => hts w (List.mem_cons_of_mem _ h)
  have hl : lv_has ls 1 [(0, .ref h0)] := hl
  refine lv_aload_n hx hb d_LE_startAnew_0 rfl (lv_at hl 0 rfl) ?_
  refine va_get (D := D) (ci := 7) (v := .ref lo) (C := R_LE) (T := T_LE) (N := 5) hx hb hU iw_LE hown hK hP 0 rfl rfl 0 (by decide) (hU _ uw_125) (fun _ h9 => h9) rfl d_LE_startAnew_1 ?_
  refine lv_iconst (v := (-1)) hx hb d_LE_startAnew_4 (by decide +kernel) ?_
  refine xw_callS (wr := [(h0, .inr (7, [.ref lo, .ref lr, .ref lb, .int (nI lv), .ref lf])), (lf, .inl (cB, 200, .inl f2))]) [.ref lo, .int (-1)] (c_fill l D cI cB cL lo 200 f1 (-1) (by decide)) ⟨hx, hb, hml, hown, hU⟩ (va_cwS 2 hU (xs_goodS uw_122 uw_123 uw_8 uw_124) rfl rfl rfl (by decide +kernel) ⟨Nat.le_of_ble_eq_true rfl, Nat.le_of_ble_eq_true rfl⟩) rfl hl.1 rfl (Nat.le_of_ble_eq_true rfl) d_LE_startAnew_5 ⟨Nat.le_of_ble_eq_true rfl, Nat.le_of_ble_eq_true rfl⟩ [1] [0, 2] rfl rfl (by decide) (by decide) (by decide) hN hK hP hD hS hA (fun u H locs hf hP hD hS => ?_)
  have hP : va_P D vwCl [(h0, .inr (7, [.ref lo, .ref lr, .ref lb, .int (nI lv), .ref lf])), (lf, .inl (cB, 200, .inl f2)), (lo, .inl (cI, 200, .inl (fun _ => ((-1)))))] H := hP
  have hD : va_D A [(h0, .inr (7, [.ref lo, .ref lr, .ref lb, .int (nI lv), .ref lf])), (lf, .inl (cB, 200, .inl f2)), (lo, .inl (cI, 200, .inl (fun _ => ((-1)))))] := hD
  refine W.widen (k := 0) (n := 0) (Nat.le_of_ble_eq_true rfl) (Nat.le_of_ble_eq_true rfl) ?_
  refine W.eq (g2 := F0 m 8 ls []) rfl ?_
  refine lv_aload_n hx hb d_LE_startAnew_8 rfl (lv_at hl 0 rfl) ?_
  refine lv_iconst (v := nI 0) hx hb d_LE_startAnew_9 (by decide +kernel) ?_
  refine va_put (D := D) (ci := 7) (v := .int (nI 0)) (ty := .int) (C := R_LE) (T := T_LE) (N := 5) hx hb hU iw_LE ty_LE ty_LE_ok nm_LE hown hK hP hD hS 0 rfl rfl 3 (by decide) (hU _ uw_135) (fun _ h9 => h9) rfl (by decide +kernel) (by first | rfl | decide +kernel) (by first | rfl | decide +kernel) (Nat.le_of_ble_eq_true rfl) d_LE_startAnew_10 (fun H locs hP hD hS => ?_)
  have hP : va_P D vwCl [(h0, .inr (7, [.ref lo, .ref lr, .ref lb, .int (nI 0), .ref lf])), (lf, .inl (cB, 200, .inl f2)), (lo, .inl (cI, 200, .inl (fun _ => ((-1)))))] H := hP
  have hD : va_D A [(h0, .inr (7, [.ref lo, .ref lr, .ref lb, .int (nI 0), .ref lf])), (lf, .inl (cB, 200, .inl f2)), (lo, .inl (cI, 200, .inl (fun _ => ((-1)))))] := hD
  refine lv_aload_n hx hb d_LE_startAnew_13 rfl (lv_at hl 0 rfl) ?_
  refine xw_callV (C := R_LE) (wr := [(lo, .inl (cI, 200, .inl (fun _ => ((-1)))))]) [] (c_LE_emptySets l D cI cB cL h0 lo lr lb lf 0 f2) ⟨hx, hb, hml, hown, hU⟩ (cwV 0 hU (xs_goodV uw_421 uw_422 uw_423 uw_7 uw_424) rfl rfl rfl (by decide +kernel) ⟨Nat.le_of_ble_eq_true rfl, Nat.le_of_ble_eq_true rfl⟩) 0 rfl rfl rfl rfl hl.1 rfl (Nat.le_of_ble_eq_true rfl) d_LE_startAnew_14 ⟨Nat.le_of_ble_eq_true rfl, Nat.le_of_ble_eq_true rfl⟩ [0, 1] [2] rfl rfl (by decide) (by decide) (by decide) hN hK hP hD hS hA (fun u H locs hf hP hD hS => ?_)
  have hP : va_P D vwCl [(lo, .inl (cI, 200, .inl (fun _ => ((-1))))), (h0, .inr (7, [.ref lo, .ref lr, .ref lb, .int (nI 0), .ref lf])), (lf, .inl (cB, 200, .inl (fun _ => nI 0)))] H := hP
  have hD : va_D A [(lo, .inl (cI, 200, .inl (fun _ => ((-1))))), (h0, .inr (7, [.ref lo, .ref lr, .ref lb, .int (nI 0), .ref lf])), (lf, .inl (cB, 200, .inl (fun _ => nI 0)))] := hD
  refine W.widen (k := 0) (n := 0) (Nat.le_of_ble_eq_true rfl) (Nat.le_of_ble_eq_true rfl) ?_
  refine W.eq (g2 := F0 m 17 ls []) rfl ?_
  have hP9 := xs_P_sub (w := [(h0, .inr (7, [.ref lo, .ref lr, .ref lb, .int (nI 0), .ref lf])), (lo, .inl (cI, 200, .inl (fun _ => ((-1))))), (lf, .inl (cB, 200, .inl (fun _ => nI 0)))]) hP [1, 0, 2] rfl
  have hD9 := hD.sub (ws' := [(h0, .inr (7, [.ref lo, .ref lr, .ref lb, .int (nI 0), .ref lf])), (lo, .inl (cI, 200, .inl (fun _ => ((-1))))), (lf, .inl (cB, 200, .inl (fun _ => nI 0)))]) [1, 0, 2] (by decide) rfl
  exact xw_vret () hx hb hr hlocks d_LE_startAnew_17 (rfl) (trivial) hAe hP9 hD9 hS (Nat.le_of_ble_eq_true rfl) (Nat.le_of_ble_eq_true rfl)
set_option maxHeartbeats 4000000 in
set_option maxRecDepth 100000 in
/-- cameInAll, before a run -/
theorem c_LE_cameInAll0 (l : Launch) (D : va_G) (cI cB cL : ClassId) (h0 : Nat) (lo : Nat) (lr : Nat) (lb : Nat) (lf : Nat)  : xG (σ := Unit) l y_LE_cameInAll w_LE_cameInAll ({ frames := 0, cells := 0, slots := 0, locals := 0  } : Room) D vwCl (xs_tys cI cB cL) [.ref h0] [(h0, .inr (7, [.ref lo, .ref lr, .ref lb, .int (nI 0), .ref lf])), (lb, .inl (cI, 201, .inl (fun _ => 0)))] (fun _ => True) (fun _ => some (.int (nI 0))) (fun _ => [(h0, .inr (7, [.ref lo, .ref lr, .ref lb, .int (nI 0), .ref lf])), (lb, .inl (cI, 201, .inl (fun _ => 0)))]) := by
  refine xG.of b_LE_cameInAll 1 (some .int) (by decide +kernel) rfl (Nat.le_of_ble_eq_true rfl) ?_
  intro p e s m below meth c A ls hAe C0 hP hD hS hl
  obtain ⟨hx, hb, hr, hml, hown, hlocks, hts, hnm, hN, hK, hA⟩ := C0
  have hU : ∀ w ∈ xU, w.before #[.ref h0] s = true := fun w h => hts w (List.mem_cons_of_mem _ h)
  have hl : lv_has ls 1 [(0, .ref h0)] := hl
  refine lv_aload_n hx hb d_LE_cameInAll_0 rfl (lv_at hl 0 rfl) ?_
  refine va_get (D := D) (ci := 7) (v := .ref lb) (C := R_LE) (T := T_LE) (N := 5) hx hb hU iw_LE hown hK hP 0 rfl rfl 2 (by decide) (hU _ uw_131) (fun _ h9 => h9) rfl d_LE_cameInAll_1 ?_
  refine lv_aload_n hx hb d_LE_cameInAll_4 rfl (lv_at hl 0 rfl) ?_
  refine va_get (D := D) (ci := 7) (v := .int (nI 0)) (C := R_LE) (T := T_LE) (N := 5) hx hb hU iw_LE hown hK hP 0 rfl rfl 3 (by decide) (hU _ uw_135) (fun _ h9 => h9) rfl d_LE_cameInAll_5 ?_
  refine xw_ild hx hb hK hP 1 0 rfl rfl (by decide) (by decide) d_LE_cameInAll_8 ?_
  refine xw_top (nI 0) (by first | rfl | decide +kernel) ?_
  have hP9 := xs_P_sub (w := [(h0, .inr (7, [.ref lo, .ref lr, .ref lb, .int (nI 0), .ref lf])), (lb, .inl (cI, 201, .inl (fun _ => 0)))]) hP [0, 1] rfl
  have hD9 := hD.sub (ws' := [(h0, .inr (7, [.ref lo, .ref lr, .ref lb, .int (nI 0), .ref lf])), (lb, .inl (cI, 201, .inl (fun _ => 0)))]) [0, 1] (by decide) rfl
  exact xw_iret () hx hb hr hlocks d_LE_cameInAll_9 (rfl) (trivial) hAe hP9 hD9 hS (Nat.le_of_ble_eq_true rfl) (Nat.le_of_ble_eq_true rfl)
end
section
set_option maxHeartbeats 4000000 in
set_option maxRecDepth 100000 in
/-- Search.forget (of its own cells nothing is said) -/
theorem c_SE_forget (l : Launch) (D : va_G) (cI cB cL : ClassId) (h0 : Nat) (sn : Nat) (sp : Nat) (sc : Nat) (sq : Nat) (sl : Nat) (sv : Nat) (sg : Nat) (sw : Nat) (sk : Nat) (sb : Nat) (x : Nat) (wk : Nat) (cf : Nat) (cl : Nat) (ct : Nat) (ck : Nat) (cs : Nat) (lw : Nat) (att : Nat) (rm : Nat) (qr : Nat) (qf : Nat) (qh : Nat) (mo : Nat) (lo : Nat) (lr : Nat) (lb : Nat) (lf : Nat) (lv : Nat) (g1 : Nat) (g2 : Nat) (g3 : Nat) (hp : Nat) (f1 : Nat → Int32) (f2 : Nat → Int32) (f3 : Nat → Int32) (f4 : Nat → Int32) (f5 : Nat → Int32) (f6 : Nat → Int32) (f7 : Nat → Int32)  : xG (σ := Unit) l y_SE_forget w_SE_forget ({ frames := 3, cells := 0, slots := 0, locals := 62  } : Room) D vwCl (xs_tys cI cB cL) [.ref h0] [(h0, .inr (9, [.ref sn, .ref sp, .ref sc, .ref sq, .ref sl, .ref sv, .ref sg, .ref sw, .ref sk, .ref sb, .int (nI x)])), (sc, .inr (4, [.int (nI wk), .ref cf, .ref cl, .ref ct, .ref ck, .ref cs, .int (nI lw), .int (nI att)])), (cl, .inl (cB, 16, .inl f1)), (ct, .inl (cI, 16, .inl f2)), (ck, .inl (cI, 16, .inl f3)), (cs, .inl (cI, 16, .inl f4)), (sq, .inr (5, [.int (nI rm), .ref qr, .ref qf, .ref qh, .int (nI mo)])), (sv, .inr (7, [.ref lo, .ref lr, .ref lb, .int (nI lv), .ref lf])), (lo, .inl (cI, 200, .inl f5)), (lf, .inl (cB, 200, .inl f6)), (sg, .inr (3, [.ref g1, .ref g2, .ref g3, .int (nI hp)])), (sk, .inl (cI, 200, .inl f7))] (fun _ => True) (fun _ => none) (fun _ => [(h0, .inr (9, [.ref sn, .ref sp, .ref sc, .ref sq, .ref sl, .ref sv, .ref sg, .ref sw, .ref sk, .ref sb, .int (nI x)]))]) := by
  refine xG.of b_SE_forget 1 (none) (by decide +kernel) rfl (Nat.le_of_ble_eq_true rfl) ?_
  intro p e s m below meth c A ls hAe C0 hP hD hS hl
  obtain ⟨hx, hb, hr, hml, hown, hlocks, hts, hnm, hN, hK, hA⟩ := C0
  have hU : ∀ w ∈ xU, w.before #[.ref h0] s = true := fun w h => hts w (List.mem_cons_of_mem _ h)
  have hl : lv_has ls 1 [(0, .ref h0)] := hl
  refine lv_aload_n hx hb d_SE_forget_0 rfl (lv_at hl 0 rfl) ?_
  refine va_get (D := D) (ci := 9) (v := .ref sc) (C := R_SE) (T := T_SE) (N := 11) hx hb hU iw_SE hown hK hP 0 rfl rfl 2 (by decide) (hU _ uw_270) (fun _ h9 => h9) rfl d_SE_forget_1 ?_
  refine xw_callV (C := R_CR) (wr := [(h0, .inr (9, [.ref sn, .ref sp, .ref sc, .ref sq, .ref sl, .ref sv, .ref sg, .ref sw, .ref sk, .ref sb, .int (nI x)])), (sq, .inr (5, [.int (nI rm), .ref qr, .ref qf, .ref qh, .int (nI mo)])), (sv, .inr (7, [.ref lo, .ref lr, .ref lb, .int (nI lv), .ref lf])), (lo, .inl (cI, 200, .inl f5)), (lf, .inl (cB, 200, .inl f6)), (sg, .inr (3, [.ref g1, .ref g2, .ref g3, .int (nI hp)])), (sk, .inl (cI, 200, .inl f7))]) [] (c_CR_startAnew l D cI cB cL sc wk cf cl ct ck cs lw att f1 f2 f3 f4) ⟨hx, hb, hml, hown, hU⟩ (cwV 0 hU (xs_goodV uw_412 uw_413 uw_414 uw_11 uw_415) rfl rfl rfl (by decide +kernel) ⟨Nat.le_of_ble_eq_true rfl, Nat.le_of_ble_eq_true rfl⟩) 1 rfl rfl rfl rfl hl.1 rfl (Nat.le_of_ble_eq_true rfl) d_SE_forget_4 ⟨Nat.le_of_ble_eq_true rfl, Nat.le_of_ble_eq_true rfl⟩ [1, 2, 3, 4, 5] [0, 6, 7, 8, 9, 10, 11] rfl rfl (by decide) (by decide) (by decide) hN hK hP hD hS hA (fun u H locs hf hP hD hS => ?_)
  have hP : va_P D vwCl [(h0, .inr (9, [.ref sn, .ref sp, .ref sc, .ref sq, .ref sl, .ref sv, .ref sg, .ref sw, .ref sk, .ref sb, .int (nI x)])), (sq, .inr (5, [.int (nI rm), .ref qr, .ref qf, .ref qh, .int (nI mo)])), (sv, .inr (7, [.ref lo, .ref lr, .ref lb, .int (nI lv), .ref lf])), (lo, .inl (cI, 200, .inl f5)), (lf, .inl (cB, 200, .inl f6)), (sg, .inr (3, [.ref g1, .ref g2, .ref g3, .int (nI hp)])), (sk, .inl (cI, 200, .inl f7)), (sc, .inr (4, [.int (nI wk), .ref cf, .ref cl, .ref ct, .ref ck, .ref cs, .int (nI wk), .int (nI 0)])), (cl, .inl (cB, 16, .inl (fun _ => nI 1))), (ct, .inl (cI, 16, .inl (fun _ => nI 0))), (ck, .inl (cI, 16, .inl (fun _ => nI 0))), (cs, .inl (cI, 16, .inl (fun _ => nI 0)))] H := hP
  have hD : va_D A [(h0, .inr (9, [.ref sn, .ref sp, .ref sc, .ref sq, .ref sl, .ref sv, .ref sg, .ref sw, .ref sk, .ref sb, .int (nI x)])), (sq, .inr (5, [.int (nI rm), .ref qr, .ref qf, .ref qh, .int (nI mo)])), (sv, .inr (7, [.ref lo, .ref lr, .ref lb, .int (nI lv), .ref lf])), (lo, .inl (cI, 200, .inl f5)), (lf, .inl (cB, 200, .inl f6)), (sg, .inr (3, [.ref g1, .ref g2, .ref g3, .int (nI hp)])), (sk, .inl (cI, 200, .inl f7)), (sc, .inr (4, [.int (nI wk), .ref cf, .ref cl, .ref ct, .ref ck, .ref cs, .int (nI wk), .int (nI 0)])), (cl, .inl (cB, 16, .inl (fun _ => nI 1))), (ct, .inl (cI, 16, .inl (fun _ => nI 0))), (ck, .inl (cI, 16, .inl (fun _ => nI 0))), (cs, .inl (cI, 16, .inl (fun _ => nI 0)))] := hD
  refine W.widen (k := 0) (n := 0) (Nat.le_of_ble_eq_true rfl) (Nat.le_of_ble_eq_true rfl) ?_
  refine W.eq (g2 := F0 m 7 ls []) rfl ?_
  refine lv_aload_n hx hb d_SE_forget_7 rfl (lv_at hl 0 rfl) ?_
  refine va_get (D := D) (ci := 9) (v := .ref sv) (C := R_SE) (T := T_SE) (N := 11) hx hb hU iw_SE hown hK hP 0 rfl rfl 5 (by decide) (hU _ uw_274) (fun _ h9 => h9) rfl d_SE_forget_8 ?_
  refine xw_callV (C := R_LE) (wr := [(h0, .inr (9, [.ref sn, .ref sp, .ref sc, .ref sq, .ref sl, .ref sv, .ref sg, .ref sw, .ref sk, .ref sb, .int (nI x)])), (sq, .inr (5, [.int (nI rm), .ref qr, .ref qf, .ref qh, .int (nI mo)])), (sg, .inr (3, [.ref g1, .ref g2, .ref g3, .int (nI hp)])), (sk, .inl (cI, 200, .inl f7)), (sc, .inr (4, [.int (nI wk), .ref cf, .ref cl, .ref ct, .ref ck, .ref cs, .int (nI wk), .int (nI 0)])), (cl, .inl (cB, 16, .inl (fun _ => nI 1))), (ct, .inl (cI, 16, .inl (fun _ => nI 0))), (ck, .inl (cI, 16, .inl (fun _ => nI 0))), (cs, .inl (cI, 16, .inl (fun _ => nI 0)))]) [] (c_LE_startAnew l D cI cB cL sv lo lr lb lf lv f5 f6) ⟨hx, hb, hml, hown, hU⟩ (cwV 0 hU (xs_goodV uw_417 uw_418 uw_419 uw_7 uw_420) rfl rfl rfl (by decide +kernel) ⟨Nat.le_of_ble_eq_true rfl, Nat.le_of_ble_eq_true rfl⟩) 2 rfl rfl rfl rfl hl.1 rfl (Nat.le_of_ble_eq_true rfl) d_SE_forget_11 ⟨Nat.le_of_ble_eq_true rfl, Nat.le_of_ble_eq_true rfl⟩ [2, 3, 4] [0, 1, 5, 6, 7, 8, 9, 10, 11] rfl rfl (by decide) (by decide) (by decide) hN hK hP hD hS hA (fun u H locs hf hP hD hS => ?_)
  have hP : va_P D vwCl [(h0, .inr (9, [.ref sn, .ref sp, .ref sc, .ref sq, .ref sl, .ref sv, .ref sg, .ref sw, .ref sk, .ref sb, .int (nI x)])), (sq, .inr (5, [.int (nI rm), .ref qr, .ref qf, .ref qh, .int (nI mo)])), (sg, .inr (3, [.ref g1, .ref g2, .ref g3, .int (nI hp)])), (sk, .inl (cI, 200, .inl f7)), (sc, .inr (4, [.int (nI wk), .ref cf, .ref cl, .ref ct, .ref ck, .ref cs, .int (nI wk), .int (nI 0)])), (cl, .inl (cB, 16, .inl (fun _ => nI 1))), (ct, .inl (cI, 16, .inl (fun _ => nI 0))), (ck, .inl (cI, 16, .inl (fun _ => nI 0))), (cs, .inl (cI, 16, .inl (fun _ => nI 0))), (sv, .inr (7, [.ref lo, .ref lr, .ref lb, .int (nI 0), .ref lf])), (lo, .inl (cI, 200, .inl (fun _ => (-1)))), (lf, .inl (cB, 200, .inl (fun _ => nI 0)))] H := hP
  have hD : va_D A [(h0, .inr (9, [.ref sn, .ref sp, .ref sc, .ref sq, .ref sl, .ref sv, .ref sg, .ref sw, .ref sk, .ref sb, .int (nI x)])), (sq, .inr (5, [.int (nI rm), .ref qr, .ref qf, .ref qh, .int (nI mo)])), (sg, .inr (3, [.ref g1, .ref g2, .ref g3, .int (nI hp)])), (sk, .inl (cI, 200, .inl f7)), (sc, .inr (4, [.int (nI wk), .ref cf, .ref cl, .ref ct, .ref ck, .ref cs, .int (nI wk), .int (nI 0)])), (cl, .inl (cB, 16, .inl (fun _ => nI 1))), (ct, .inl (cI, 16, .inl (fun _ => nI 0))), (ck, .inl (cI, 16, .inl (fun _ => nI 0))), (cs, .inl (cI, 16, .inl (fun _ => nI 0))), (sv, .inr (7, [.ref lo, .ref lr, .ref lb, .int (nI 0), .ref lf])), (lo, .inl (cI, 200, .inl (fun _ => (-1)))), (lf, .inl (cB, 200, .inl (fun _ => nI 0)))] := hD
  refine W.widen (k := 0) (n := 0) (Nat.le_of_ble_eq_true rfl) (Nat.le_of_ble_eq_true rfl) ?_
  refine W.eq (g2 := F0 m 14 ls []) rfl ?_
  refine lv_aload_n hx hb d_SE_forget_14 rfl (lv_at hl 0 rfl) ?_
  refine va_get (D := D) (ci := 9) (v := .ref sk) (C := R_SE) (T := T_SE) (N := 11) hx hb hU iw_SE hown hK hP 0 rfl rfl 8 (by decide) (hU _ uw_280) (fun _ h9 => h9) rfl d_SE_forget_15 ?_
  refine lv_iconst (v := nI 0) hx hb d_SE_forget_18 (by decide +kernel) ?_
  refine xw_callS (wr := [(h0, .inr (9, [.ref sn, .ref sp, .ref sc, .ref sq, .ref sl, .ref sv, .ref sg, .ref sw, .ref sk, .ref sb, .int (nI x)])), (sq, .inr (5, [.int (nI rm), .ref qr, .ref qf, .ref qh, .int (nI mo)])), (sg, .inr (3, [.ref g1, .ref g2, .ref g3, .int (nI hp)])), (sc, .inr (4, [.int (nI wk), .ref cf, .ref cl, .ref ct, .ref ck, .ref cs, .int (nI wk), .int (nI 0)])), (cl, .inl (cB, 16, .inl (fun _ => nI 1))), (ct, .inl (cI, 16, .inl (fun _ => nI 0))), (ck, .inl (cI, 16, .inl (fun _ => nI 0))), (cs, .inl (cI, 16, .inl (fun _ => nI 0))), (sv, .inr (7, [.ref lo, .ref lr, .ref lb, .int (nI 0), .ref lf])), (lo, .inl (cI, 200, .inl (fun _ => (-1)))), (lf, .inl (cB, 200, .inl (fun _ => nI 0)))]) [.ref sk, .int (nI 0)] (c_fill l D cI cB cL sk 200 f7 (nI 0) (by decide)) ⟨hx, hb, hml, hown, hU⟩ (va_cwS 2 hU (xs_goodS uw_426 uw_123 uw_8 uw_124) rfl rfl rfl (by decide +kernel) ⟨Nat.le_of_ble_eq_true rfl, Nat.le_of_ble_eq_true rfl⟩) rfl hl.1 rfl (Nat.le_of_ble_eq_true rfl) d_SE_forget_19 ⟨Nat.le_of_ble_eq_true rfl, Nat.le_of_ble_eq_true rfl⟩ [3] [0, 1, 2, 4, 5, 6, 7, 8, 9, 10, 11] rfl rfl (by decide) (by decide) (by decide) hN hK hP hD hS hA (fun u H locs hf hP hD hS => ?_)
  have hP : va_P D vwCl [(h0, .inr (9, [.ref sn, .ref sp, .ref sc, .ref sq, .ref sl, .ref sv, .ref sg, .ref sw, .ref sk, .ref sb, .int (nI x)])), (sq, .inr (5, [.int (nI rm), .ref qr, .ref qf, .ref qh, .int (nI mo)])), (sg, .inr (3, [.ref g1, .ref g2, .ref g3, .int (nI hp)])), (sc, .inr (4, [.int (nI wk), .ref cf, .ref cl, .ref ct, .ref ck, .ref cs, .int (nI wk), .int (nI 0)])), (cl, .inl (cB, 16, .inl (fun _ => nI 1))), (ct, .inl (cI, 16, .inl (fun _ => nI 0))), (ck, .inl (cI, 16, .inl (fun _ => nI 0))), (cs, .inl (cI, 16, .inl (fun _ => nI 0))), (sv, .inr (7, [.ref lo, .ref lr, .ref lb, .int (nI 0), .ref lf])), (lo, .inl (cI, 200, .inl (fun _ => (-1)))), (lf, .inl (cB, 200, .inl (fun _ => nI 0))), (sk, .inl (cI, 200, .inl (fun _ => (nI 0))))] H := hP
  have hD : va_D A [(h0, .inr (9, [.ref sn, .ref sp, .ref sc, .ref sq, .ref sl, .ref sv, .ref sg, .ref sw, .ref sk, .ref sb, .int (nI x)])), (sq, .inr (5, [.int (nI rm), .ref qr, .ref qf, .ref qh, .int (nI mo)])), (sg, .inr (3, [.ref g1, .ref g2, .ref g3, .int (nI hp)])), (sc, .inr (4, [.int (nI wk), .ref cf, .ref cl, .ref ct, .ref ck, .ref cs, .int (nI wk), .int (nI 0)])), (cl, .inl (cB, 16, .inl (fun _ => nI 1))), (ct, .inl (cI, 16, .inl (fun _ => nI 0))), (ck, .inl (cI, 16, .inl (fun _ => nI 0))), (cs, .inl (cI, 16, .inl (fun _ => nI 0))), (sv, .inr (7, [.ref lo, .ref lr, .ref lb, .int (nI 0), .ref lf])), (lo, .inl (cI, 200, .inl (fun _ => (-1)))), (lf, .inl (cB, 200, .inl (fun _ => nI 0))), (sk, .inl (cI, 200, .inl (fun _ => (nI 0))))] := hD
  refine W.widen (k := 0) (n := 0) (Nat.le_of_ble_eq_true rfl) (Nat.le_of_ble_eq_true rfl) ?_
  refine W.eq (g2 := F0 m 22 ls []) rfl ?_
  refine lv_aload_n hx hb d_SE_forget_22 rfl (lv_at hl 0 rfl) ?_
  refine va_get (D := D) (ci := 9) (v := .ref sq) (C := R_SE) (T := T_SE) (N := 11) hx hb hU iw_SE hown hK hP 0 rfl rfl 3 (by decide) (hU _ uw_271) (fun _ h9 => h9) rfl d_SE_forget_23 ?_
  refine lv_iconst (v := nI 0) hx hb d_SE_forget_26 (by decide +kernel) ?_
  refine va_putN (D := D) (ci := 5) (v := .int (nI 0)) (ty := .int) (C := R_QU) (T := T_QU) (N := 5) hx hb hU iw_QU ty_QU ty_QU_ok nm_QU hown hK hP hD hS 1 rfl rfl 4 (by decide) (va_Nw.use rfl (hN _ nw_251)) (fun _ h9 => h9) rfl (by decide +kernel) (by first | rfl | decide +kernel) (by first | rfl | decide +kernel) (Nat.le_of_ble_eq_true rfl) d_SE_forget_27 (fun H locs hP hD hS => ?_)
  have hP : va_P D vwCl [(h0, .inr (9, [.ref sn, .ref sp, .ref sc, .ref sq, .ref sl, .ref sv, .ref sg, .ref sw, .ref sk, .ref sb, .int (nI x)])), (sq, .inr (5, [.int (nI rm), .ref qr, .ref qf, .ref qh, .int (nI 0)])), (sg, .inr (3, [.ref g1, .ref g2, .ref g3, .int (nI hp)])), (sc, .inr (4, [.int (nI wk), .ref cf, .ref cl, .ref ct, .ref ck, .ref cs, .int (nI wk), .int (nI 0)])), (cl, .inl (cB, 16, .inl (fun _ => nI 1))), (ct, .inl (cI, 16, .inl (fun _ => nI 0))), (ck, .inl (cI, 16, .inl (fun _ => nI 0))), (cs, .inl (cI, 16, .inl (fun _ => nI 0))), (sv, .inr (7, [.ref lo, .ref lr, .ref lb, .int (nI 0), .ref lf])), (lo, .inl (cI, 200, .inl (fun _ => (-1)))), (lf, .inl (cB, 200, .inl (fun _ => nI 0))), (sk, .inl (cI, 200, .inl (fun _ => (nI 0))))] H := hP
  have hD : va_D A [(h0, .inr (9, [.ref sn, .ref sp, .ref sc, .ref sq, .ref sl, .ref sv, .ref sg, .ref sw, .ref sk, .ref sb, .int (nI x)])), (sq, .inr (5, [.int (nI rm), .ref qr, .ref qf, .ref qh, .int (nI 0)])), (sg, .inr (3, [.ref g1, .ref g2, .ref g3, .int (nI hp)])), (sc, .inr (4, [.int (nI wk), .ref cf, .ref cl, .ref ct, .ref ck, .ref cs, .int (nI wk), .int (nI 0)])), (cl, .inl (cB, 16, .inl (fun _ => nI 1))), (ct, .inl (cI, 16, .inl (fun _ => nI 0))), (ck, .inl (cI, 16, .inl (fun _ => nI 0))), (cs, .inl (cI, 16, .inl (fun _ => nI 0))), (sv, .inr (7, [.ref lo, .ref lr, .ref lb, .int (nI 0), .ref lf])), (lo, .inl (cI, 200, .inl (fun _ => (-1)))), (lf, .inl (cB, 200, .inl (fun _ => nI 0))), (sk, .inl (cI, 200, .inl (fun _ => (nI 0))))] := hD
  refine lv_aload_n hx hb d_SE_forget_30 rfl (lv_at hl 0 rfl) ?_
  refine va_get (D := D) (ci := 9) (v := .ref sg) (C := R_SE) (T := T_SE) (N := 11) hx hb hU iw_SE hown hK hP 0 rfl rfl 6 (by decide) (hU _ uw_276) (fun _ h9 => h9) rfl d_SE_forget_31 ?_
  refine lv_iconst (v := nI 0) hx hb d_SE_forget_34 (by decide +kernel) ?_
  refine va_putN (D := D) (ci := 3) (v := .int (nI 0)) (ty := .int) (C := R_FL) (T := T_FL) (N := 4) hx hb hU iw_FL ty_FL ty_FL_ok nm_FL hown hK hP hD hS 2 rfl rfl 3 (by decide) (va_Nw.use rfl (hN _ nw_163)) (fun _ h9 => h9) rfl (by decide +kernel) (by first | rfl | decide +kernel) (by first | rfl | decide +kernel) (Nat.le_of_ble_eq_true rfl) d_SE_forget_35 (fun H locs hP hD hS => ?_)
  have hP : va_P D vwCl [(h0, .inr (9, [.ref sn, .ref sp, .ref sc, .ref sq, .ref sl, .ref sv, .ref sg, .ref sw, .ref sk, .ref sb, .int (nI x)])), (sq, .inr (5, [.int (nI rm), .ref qr, .ref qf, .ref qh, .int (nI 0)])), (sg, .inr (3, [.ref g1, .ref g2, .ref g3, .int (nI 0)])), (sc, .inr (4, [.int (nI wk), .ref cf, .ref cl, .ref ct, .ref ck, .ref cs, .int (nI wk), .int (nI 0)])), (cl, .inl (cB, 16, .inl (fun _ => nI 1))), (ct, .inl (cI, 16, .inl (fun _ => nI 0))), (ck, .inl (cI, 16, .inl (fun _ => nI 0))), (cs, .inl (cI, 16, .inl (fun _ => nI 0))), (sv, .inr (7, [.ref lo, .ref lr, .ref lb, .int (nI 0), .ref lf])), (lo, .inl (cI, 200, .inl (fun _ => (-1)))), (lf, .inl (cB, 200, .inl (fun _ => nI 0))), (sk, .inl (cI, 200, .inl (fun _ => (nI 0))))] H := hP
  have hD : va_D A [(h0, .inr (9, [.ref sn, .ref sp, .ref sc, .ref sq, .ref sl, .ref sv, .ref sg, .ref sw, .ref sk, .ref sb, .int (nI x)])), (sq, .inr (5, [.int (nI rm), .ref qr, .ref qf, .ref qh, .int (nI 0)])), (sg, .inr (3, [.ref g1, .ref g2, .ref g3, .int (nI 0)])), (sc, .inr (4, [.int (nI wk), .ref cf, .ref cl, .ref ct, .ref ck, .ref cs, .int (nI wk), .int (nI 0)])), (cl, .inl (cB, 16, .inl (fun _ => nI 1))), (ct, .inl (cI, 16, .inl (fun _ => nI 0))), (ck, .inl (cI, 16, .inl (fun _ => nI 0))), (cs, .inl (cI, 16, .inl (fun _ => nI 0))), (sv, .inr (7, [.ref lo, .ref lr, .ref lb, .int (nI 0), .ref lf])), (lo, .inl (cI, 200, .inl (fun _ => (-1)))), (lf, .inl (cB, 200, .inl (fun _ => nI 0))), (sk, .inl (cI, 200, .inl (fun _ => (nI 0))))] := hD
  have hP9 := xs_P_sub (w := [(h0, .inr (9, [.ref sn, .ref sp, .ref sc, .ref sq, .ref sl, .ref sv, .ref sg, .ref sw, .ref sk, .ref sb, .int (nI x)]))]) hP [0] rfl
  have hD9 := hD.sub (ws' := [(h0, .inr (9, [.ref sn, .ref sp, .ref sc, .ref sq, .ref sl, .ref sv, .ref sg, .ref sw, .ref sk, .ref sb, .int (nI x)]))]) [0] (by decide) rfl
  exact xw_vret () hx hb hr hlocks d_SE_forget_38 (rfl) (trivial) hAe hP9 hD9 hS (Nat.le_of_ble_eq_true rfl) (Nat.le_of_ble_eq_true rfl)
set_option maxHeartbeats 4000000 in
set_option maxRecDepth 100000 in
/-- cameOwnedBy, before a run -/
theorem c_SE_cameOwnedBy0 (l : Launch) (D : va_G) (cI cB cL : ClassId) (h0 : Nat) (sn : Nat) (sp : Nat) (sc : Nat) (sq : Nat) (sl : Nat) (sv : Nat) (sg : Nat) (sw : Nat) (sk : Nat) (sb : Nat) (x : Nat) (lo : Nat) (lr : Nat) (lb : Nat) (lf : Nat) (k : Int32)  : xG (σ := Unit) l y_SE_cameOwnedBy w_SE_cameOwnedBy ({ frames := 1, cells := 0, slots := 0, locals := 20  } : Room) D vwCl (xs_tys cI cB cL) [.ref h0, .int k] [(h0, .inr (9, [.ref sn, .ref sp, .ref sc, .ref sq, .ref sl, .ref sv, .ref sg, .ref sw, .ref sk, .ref sb, .int (nI x)])), (sv, .inr (7, [.ref lo, .ref lr, .ref lb, .int (nI 0), .ref lf])), (lb, .inl (cI, 201, .inl (fun _ => 0)))] (fun _ => True) (fun _ => some (.int (nI 0))) (fun _ => [(h0, .inr (9, [.ref sn, .ref sp, .ref sc, .ref sq, .ref sl, .ref sv, .ref sg, .ref sw, .ref sk, .ref sb, .int (nI x)]))]) := by
  refine xG.of b_SE_cameOwnedBy 4 (some .int) (by decide +kernel) rfl (Nat.le_of_ble_eq_true rfl) ?_
  intro p e s m below meth c A ls hAe C0 hP hD hS hl
  obtain ⟨hx, hb, hr, hml, hown, hlocks, hts, hnm, hN, hK, hA⟩ := C0
  have hU : ∀ w ∈ xU, w.before #[.ref h0, .int k] s = true := fun w h => hts w (List.mem_cons_of_mem _ h)
  have hl : lv_has ls 4 [(0, .ref h0), (1, .int k)] := hl
  refine lv_iconst (v := nI 0) hx hb d_SE_cameOwnedBy_0 (by decide +kernel) ?_
  refine lv_istore_n (lv' := [(2, .int (nI 0)), (0, .ref h0), (1, .int k)]) hx hb d_SE_cameOwnedBy_1 rfl hl (by decide) rfl (fun ls hl => ?_)
  refine lv_iconst (v := nI 0) hx hb d_SE_cameOwnedBy_2 (by decide +kernel) ?_
  refine lv_istore_n (lv' := [(3, .int (nI 0)), (2, .int (nI 0)), (0, .ref h0), (1, .int k)]) hx hb d_SE_cameOwnedBy_3 rfl hl (by decide) rfl (fun ls hl => ?_)
  refine lv_iload_n hx hb d_SE_cameOwnedBy_4 rfl (lv_at hl 0 rfl) ?_
  refine lv_aload_n hx hb d_SE_cameOwnedBy_5 rfl (lv_at hl 2 rfl) ?_
  refine va_get (D := D) (ci := 9) (v := .ref sv) (C := R_SE) (T := T_SE) (N := 11) hx hb hU iw_SE hown hK hP 0 rfl rfl 5 (by decide) (hU _ uw_274) (fun _ h9 => h9) rfl d_SE_cameOwnedBy_6 ?_
  refine xw_callV (C := R_LE) (wr := [(h0, .inr (9, [.ref sn, .ref sp, .ref sc, .ref sq, .ref sl, .ref sv, .ref sg, .ref sw, .ref sk, .ref sb, .int (nI x)]))]) [] (c_LE_cameInAll0 l D cI cB cL sv lo lr lb lf) ⟨hx, hb, hml, hown, hU⟩ (cwV 0 hU (xs_goodV uw_694 uw_325 uw_326 uw_7 uw_327) rfl rfl rfl (by decide +kernel) ⟨Nat.le_of_ble_eq_true rfl, Nat.le_of_ble_eq_true rfl⟩) 1 rfl rfl rfl rfl hl.1 rfl (Nat.le_of_ble_eq_true rfl) d_SE_cameOwnedBy_9 ⟨Nat.le_of_ble_eq_true rfl, Nat.le_of_ble_eq_true rfl⟩ [1, 2] [0] rfl rfl (by decide) (by decide) (by decide) hN hK hP hD hS hA (fun u H locs hf hP hD hS => ?_)
  have hP : va_P D vwCl [(h0, .inr (9, [.ref sn, .ref sp, .ref sc, .ref sq, .ref sl, .ref sv, .ref sg, .ref sw, .ref sk, .ref sb, .int (nI x)])), (sv, .inr (7, [.ref lo, .ref lr, .ref lb, .int (nI 0), .ref lf])), (lb, .inl (cI, 201, .inl (fun _ => 0)))] H := hP
  have hD : va_D A [(h0, .inr (9, [.ref sn, .ref sp, .ref sc, .ref sq, .ref sl, .ref sv, .ref sg, .ref sw, .ref sk, .ref sb, .int (nI x)])), (sv, .inr (7, [.ref lo, .ref lr, .ref lb, .int (nI 0), .ref lf])), (lb, .inl (cI, 201, .inl (fun _ => 0)))] := hD
  refine W.widen (k := 0) (n := 0) (Nat.le_of_ble_eq_true rfl) (Nat.le_of_ble_eq_true rfl) ?_
  refine W.eq (g2 := F0 m 12 ls [.int (nI 0), .int (nI 0)]) rfl ?_
  refine lv_icmp_ge (tgt := 44) hx hb d_SE_cameOwnedBy_12 (by decide) (fun c_12 => ?_) (fun c_12 => ?_)
  · refine lv_iload_n hx hb d_SE_cameOwnedBy_44 rfl (lv_at hl 1 rfl) ?_
    have hP9 := xs_P_sub (w := [(h0, .inr (9, [.ref sn, .ref sp, .ref sc, .ref sq, .ref sl, .ref sv, .ref sg, .ref sw, .ref sk, .ref sb, .int (nI x)]))]) hP [0] rfl
    have hD9 := hD.sub (ws' := [(h0, .inr (9, [.ref sn, .ref sp, .ref sc, .ref sq, .ref sl, .ref sv, .ref sg, .ref sw, .ref sk, .ref sb, .int (nI x)]))]) [0] (by decide) rfl
    exact xw_iret () hx hb hr hlocks d_SE_cameOwnedBy_45 (rfl) (trivial) hAe hP9 hD9 hS (Nat.le_of_ble_eq_true rfl) (Nat.le_of_ble_eq_true rfl)
  · exact absurd c_12 (by decide +kernel)
end
section
set_option maxHeartbeats 4000000 in
set_option maxRecDepth 100000 in
/-- new Net -/
theorem c_NET_init (l : Launch) (D : va_G) (cI cB cL : ClassId) (h0 : Nat)  : xG (σ := Nat × Nat) l y_NET_init w_NET_init ({ frames := 1, cells := 2, slots := 801, locals := 12  } : Room) D vwCl (xs_tys cI cB cL) [.ref h0] [(h0, .inr (1, [.int (nI 0), .int (nI 0), .null, .null]))] (fun (q1, q2) => True) (fun (q1, q2) => none) (fun (q1, q2) => [(h0, .inr (1, [.int (nI 0), .int (nI 0), .ref q1, .ref q2]))]) := by
  refine xG.of b_NET_init 1 (none) (by decide +kernel) rfl (Nat.le_of_ble_eq_true rfl) ?_
  intro p e s m below meth c A ls hAe C0 hP hD hS hl
  obtain ⟨hx, hb, hr, hml, hown, hlocks, hts, hnm, hN, hK, hA⟩ := C0
  have hU : ∀ w ∈ xU, w.before #[.ref h0] s = true := fun w h => hts w (List.mem_cons_of_mem _ h)
  have hl : lv_has ls 1 [(0, .ref h0)] := hl
  refine lv_aload_n hx hb d_NET_init_0 rfl (lv_at hl 0 rfl) ?_
  refine W.objInit hx hb hown (hU _ uw_43) (hU _ uw_27) (hU _ uw_28) rfl (by rw [hml]; exact hl.1) rfl d_NET_init_1 (Nat.le_of_ble_eq_true rfl) (Nat.le_of_ble_eq_true rfl) ?_
  refine W.eq (g2 := F0 m 4 ls []) rfl ?_
  refine lv_aload_n hx hb d_NET_init_4 rfl (lv_at hl 0 rfl) ?_
  refine lv_sipush (v := nI 201) hx hb d_NET_init_5 (by decide +kernel) ?_
  refine xw_newI (N := 201) hx hb (hU _ uw_64) hK 0 rfl hP hD hS hA (by decide +kernel) (by decide +kernel) (by decide) (Nat.le_of_ble_eq_true rfl) (Nat.le_of_ble_eq_true rfl) d_NET_init_8 (fun q_1 H hP hD hS => ?_)
  have hP : va_P D vwCl [(h0, .inr (1, [.int (nI 0), .int (nI 0), .null, .null])), (q_1, .inl (cI, 201, .inl (fun _ => 0)))] H := hP
  have hD : va_D A [(h0, .inr (1, [.int (nI 0), .int (nI 0), .null, .null])), (q_1, .inl (cI, 201, .inl (fun _ => 0)))] := hD
  refine W.widen (k := 1) (n := 201) (Nat.le_of_ble_eq_true rfl) (Nat.le_of_ble_eq_true rfl) ?_
  refine va_putF (D := D) (ci := 1) (v := .ref q_1) (ty := (.array .int)) (C := R_NET) (T := T_NET) (N := 4) hx hb hU iw_NET ty_NET ty_NET_ok nm_NET hown hK hP hD hS 0 rfl rfl 2 (by decide) (hU _ uw_49) (fun _ h9 => h9) rfl hnm rfl (by decide +kernel) (by first | rfl | decide +kernel) (by first | rfl | decide +kernel) (Nat.le_of_ble_eq_true rfl) d_NET_init_10 (fun H locs hP hD hS => ?_)
  have hP : va_P D vwCl [(h0, .inr (1, [.int (nI 0), .int (nI 0), .ref q_1, .null])), (q_1, .inl (cI, 201, .inl (fun _ => 0)))] H := hP
  have hD : va_D A [(h0, .inr (1, [.int (nI 0), .int (nI 0), .ref q_1, .null])), (q_1, .inl (cI, 201, .inl (fun _ => 0)))] := hD
  refine lv_aload_n hx hb d_NET_init_13 rfl (lv_at hl 0 rfl) ?_
  refine lv_sipush (v := nI 600) hx hb d_NET_init_14 (by decide +kernel) ?_
  refine xw_newI (N := 600) hx hb (hU _ uw_64) hK 0 rfl hP hD hS hA (by decide +kernel) (by decide +kernel) (by decide) (Nat.le_of_ble_eq_true rfl) (Nat.le_of_ble_eq_true rfl) d_NET_init_17 (fun q_2 H hP hD hS => ?_)
  have hP : va_P D vwCl [(h0, .inr (1, [.int (nI 0), .int (nI 0), .ref q_1, .null])), (q_1, .inl (cI, 201, .inl (fun _ => 0))), (q_2, .inl (cI, 600, .inl (fun _ => 0)))] H := hP
  have hD : va_D A [(h0, .inr (1, [.int (nI 0), .int (nI 0), .ref q_1, .null])), (q_1, .inl (cI, 201, .inl (fun _ => 0))), (q_2, .inl (cI, 600, .inl (fun _ => 0)))] := hD
  refine W.widen (k := 2) (n := 801) (Nat.le_of_ble_eq_true rfl) (Nat.le_of_ble_eq_true rfl) ?_
  refine va_putF (D := D) (ci := 1) (v := .ref q_2) (ty := (.array .int)) (C := R_NET) (T := T_NET) (N := 4) hx hb hU iw_NET ty_NET ty_NET_ok nm_NET hown hK hP hD hS 0 rfl rfl 3 (by decide) (hU _ uw_52) (fun _ h9 => h9) rfl hnm rfl (by decide +kernel) (by first | rfl | decide +kernel) (by first | rfl | decide +kernel) (Nat.le_of_ble_eq_true rfl) d_NET_init_19 (fun H locs hP hD hS => ?_)
  have hP : va_P D vwCl [(h0, .inr (1, [.int (nI 0), .int (nI 0), .ref q_1, .ref q_2])), (q_1, .inl (cI, 201, .inl (fun _ => 0))), (q_2, .inl (cI, 600, .inl (fun _ => 0)))] H := hP
  have hD : va_D A [(h0, .inr (1, [.int (nI 0), .int (nI 0), .ref q_1, .ref q_2])), (q_1, .inl (cI, 201, .inl (fun _ => 0))), (q_2, .inl (cI, 600, .inl (fun _ => 0)))] := hD
  have hP9 := xs_P_sub (w := [(h0, .inr (1, [.int (nI 0), .int (nI 0), .ref q_1, .ref q_2]))]) hP [0] rfl
  have hD9 := hD.sub (ws' := [(h0, .inr (1, [.int (nI 0), .int (nI 0), .ref q_1, .ref q_2]))]) [0] (by decide) rfl
  exact xw_vret (q_1, q_2) hx hb hr hlocks d_NET_init_22 (rfl) (trivial) hAe hP9 hD9 hS (Nat.le_of_ble_eq_true rfl) (Nat.le_of_ble_eq_true rfl)
set_option maxHeartbeats 4000000 in
set_option maxRecDepth 100000 in
/-- new FailPlan -/
theorem c_FP_init (l : Launch) (D : va_G) (cI cB cL : ClassId) (h0 : Nat)  : xG (σ := Nat × Nat × Nat) l y_FP_init w_FP_init ({ frames := 1, cells := 3, slots := 60, locals := 12  } : Room) D vwCl (xs_tys cI cB cL) [.ref h0] [(h0, .inr (2, [.null, .null, .null, .int (nI 0)]))] (fun (q1, q2, q3) => True) (fun (q1, q2, q3) => none) (fun (q1, q2, q3) => [(h0, .inr (2, [.ref q1, .ref q2, .ref q3, .int (nI 0)])), (q1, .inl (cI, 20, .inl (fun _ => 0))), (q2, .inl (cI, 20, .inl (fun _ => 0))), (q3, .inl (cI, 20, .inl (fun _ => 0)))]) := by
  refine xG.of b_FP_init 1 (none) (by decide +kernel) rfl (Nat.le_of_ble_eq_true rfl) ?_
  intro p e s m below meth c A ls hAe C0 hP hD hS hl
  obtain ⟨hx, hb, hr, hml, hown, hlocks, hts, hnm, hN, hK, hA⟩ := C0
  have hU : ∀ w ∈ xU, w.before #[.ref h0] s = true := fun w h => hts w (List.mem_cons_of_mem _ h)
  have hl : lv_has ls 1 [(0, .ref h0)] := hl
  refine lv_aload_n hx hb d_FP_init_0 rfl (lv_at hl 0 rfl) ?_
  refine W.objInit hx hb hown (hU _ uw_70) (hU _ uw_27) (hU _ uw_28) rfl (by rw [hml]; exact hl.1) rfl d_FP_init_1 (Nat.le_of_ble_eq_true rfl) (Nat.le_of_ble_eq_true rfl) ?_
  refine W.eq (g2 := F0 m 4 ls []) rfl ?_
  refine lv_aload_n hx hb d_FP_init_4 rfl (lv_at hl 0 rfl) ?_
  refine lv_bipush (v := nI 20) hx hb d_FP_init_5 (by decide +kernel) ?_
  refine xw_newI (N := 20) hx hb (hU _ uw_64) hK 0 rfl hP hD hS hA (by decide +kernel) (by decide +kernel) (by decide) (Nat.le_of_ble_eq_true rfl) (Nat.le_of_ble_eq_true rfl) d_FP_init_7 (fun q_1 H hP hD hS => ?_)
  have hP : va_P D vwCl [(h0, .inr (2, [.null, .null, .null, .int (nI 0)])), (q_1, .inl (cI, 20, .inl (fun _ => 0)))] H := hP
  have hD : va_D A [(h0, .inr (2, [.null, .null, .null, .int (nI 0)])), (q_1, .inl (cI, 20, .inl (fun _ => 0)))] := hD
  refine W.widen (k := 1) (n := 20) (Nat.le_of_ble_eq_true rfl) (Nat.le_of_ble_eq_true rfl) ?_
  refine va_putF (D := D) (ci := 2) (v := .ref q_1) (ty := (.array .int)) (C := R_FP) (T := T_FP) (N := 4) hx hb hU iw_FP ty_FP ty_FP_ok nm_FP hown hK hP hD hS 0 rfl rfl 0 (by decide) (hU _ uw_71) (fun _ h9 => h9) rfl hnm rfl (by decide +kernel) (by first | rfl | decide +kernel) (by first | rfl | decide +kernel) (Nat.le_of_ble_eq_true rfl) d_FP_init_9 (fun H locs hP hD hS => ?_)
  have hP : va_P D vwCl [(h0, .inr (2, [.ref q_1, .null, .null, .int (nI 0)])), (q_1, .inl (cI, 20, .inl (fun _ => 0)))] H := hP
  have hD : va_D A [(h0, .inr (2, [.ref q_1, .null, .null, .int (nI 0)])), (q_1, .inl (cI, 20, .inl (fun _ => 0)))] := hD
  refine lv_aload_n hx hb d_FP_init_12 rfl (lv_at hl 0 rfl) ?_
  refine lv_bipush (v := nI 20) hx hb d_FP_init_13 (by decide +kernel) ?_
  refine xw_newI (N := 20) hx hb (hU _ uw_64) hK 0 rfl hP hD hS hA (by decide +kernel) (by decide +kernel) (by decide) (Nat.le_of_ble_eq_true rfl) (Nat.le_of_ble_eq_true rfl) d_FP_init_15 (fun q_2 H hP hD hS => ?_)
  have hP : va_P D vwCl [(h0, .inr (2, [.ref q_1, .null, .null, .int (nI 0)])), (q_1, .inl (cI, 20, .inl (fun _ => 0))), (q_2, .inl (cI, 20, .inl (fun _ => 0)))] H := hP
  have hD : va_D A [(h0, .inr (2, [.ref q_1, .null, .null, .int (nI 0)])), (q_1, .inl (cI, 20, .inl (fun _ => 0))), (q_2, .inl (cI, 20, .inl (fun _ => 0)))] := hD
  refine W.widen (k := 2) (n := 40) (Nat.le_of_ble_eq_true rfl) (Nat.le_of_ble_eq_true rfl) ?_
  refine va_putF (D := D) (ci := 2) (v := .ref q_2) (ty := (.array .int)) (C := R_FP) (T := T_FP) (N := 4) hx hb hU iw_FP ty_FP ty_FP_ok nm_FP hown hK hP hD hS 0 rfl rfl 1 (by decide) (hU _ uw_72) (fun _ h9 => h9) rfl hnm rfl (by decide +kernel) (by first | rfl | decide +kernel) (by first | rfl | decide +kernel) (Nat.le_of_ble_eq_true rfl) d_FP_init_17 (fun H locs hP hD hS => ?_)
  have hP : va_P D vwCl [(h0, .inr (2, [.ref q_1, .ref q_2, .null, .int (nI 0)])), (q_1, .inl (cI, 20, .inl (fun _ => 0))), (q_2, .inl (cI, 20, .inl (fun _ => 0)))] H := hP
  have hD : va_D A [(h0, .inr (2, [.ref q_1, .ref q_2, .null, .int (nI 0)])), (q_1, .inl (cI, 20, .inl (fun _ => 0))), (q_2, .inl (cI, 20, .inl (fun _ => 0)))] := hD
  refine lv_aload_n hx hb d_FP_init_20 rfl (lv_at hl 0 rfl) ?_
  refine lv_bipush (v := nI 20) hx hb d_FP_init_21 (by decide +kernel) ?_
  refine xw_newI (N := 20) hx hb (hU _ uw_64) hK 0 rfl hP hD hS hA (by decide +kernel) (by decide +kernel) (by decide) (Nat.le_of_ble_eq_true rfl) (Nat.le_of_ble_eq_true rfl) d_FP_init_23 (fun q_3 H hP hD hS => ?_)
  have hP : va_P D vwCl [(h0, .inr (2, [.ref q_1, .ref q_2, .null, .int (nI 0)])), (q_1, .inl (cI, 20, .inl (fun _ => 0))), (q_2, .inl (cI, 20, .inl (fun _ => 0))), (q_3, .inl (cI, 20, .inl (fun _ => 0)))] H := hP
  have hD : va_D A [(h0, .inr (2, [.ref q_1, .ref q_2, .null, .int (nI 0)])), (q_1, .inl (cI, 20, .inl (fun _ => 0))), (q_2, .inl (cI, 20, .inl (fun _ => 0))), (q_3, .inl (cI, 20, .inl (fun _ => 0)))] := hD
  refine W.widen (k := 3) (n := 60) (Nat.le_of_ble_eq_true rfl) (Nat.le_of_ble_eq_true rfl) ?_
  refine va_putF (D := D) (ci := 2) (v := .ref q_3) (ty := (.array .int)) (C := R_FP) (T := T_FP) (N := 4) hx hb hU iw_FP ty_FP ty_FP_ok nm_FP hown hK hP hD hS 0 rfl rfl 2 (by decide) (hU _ uw_73) (fun _ h9 => h9) rfl hnm rfl (by decide +kernel) (by first | rfl | decide +kernel) (by first | rfl | decide +kernel) (Nat.le_of_ble_eq_true rfl) d_FP_init_25 (fun H locs hP hD hS => ?_)
  have hP : va_P D vwCl [(h0, .inr (2, [.ref q_1, .ref q_2, .ref q_3, .int (nI 0)])), (q_1, .inl (cI, 20, .inl (fun _ => 0))), (q_2, .inl (cI, 20, .inl (fun _ => 0))), (q_3, .inl (cI, 20, .inl (fun _ => 0)))] H := hP
  have hD : va_D A [(h0, .inr (2, [.ref q_1, .ref q_2, .ref q_3, .int (nI 0)])), (q_1, .inl (cI, 20, .inl (fun _ => 0))), (q_2, .inl (cI, 20, .inl (fun _ => 0))), (q_3, .inl (cI, 20, .inl (fun _ => 0)))] := hD
  have hP9 := xs_P_sub (w := [(h0, .inr (2, [.ref q_1, .ref q_2, .ref q_3, .int (nI 0)])), (q_1, .inl (cI, 20, .inl (fun _ => 0))), (q_2, .inl (cI, 20, .inl (fun _ => 0))), (q_3, .inl (cI, 20, .inl (fun _ => 0)))]) hP [0, 1, 2, 3] rfl
  have hD9 := hD.sub (ws' := [(h0, .inr (2, [.ref q_1, .ref q_2, .ref q_3, .int (nI 0)])), (q_1, .inl (cI, 20, .inl (fun _ => 0))), (q_2, .inl (cI, 20, .inl (fun _ => 0))), (q_3, .inl (cI, 20, .inl (fun _ => 0)))]) [0, 1, 2, 3] (by decide) rfl
  exact xw_vret (q_1, q_2, q_3) hx hb hr hlocks d_FP_init_28 (rfl) (trivial) hAe hP9 hD9 hS (Nat.le_of_ble_eq_true rfl) (Nat.le_of_ble_eq_true rfl)
set_option maxHeartbeats 4000000 in
set_option maxRecDepth 100000 in
/-- new FailLog -/
theorem c_FL_init (l : Launch) (D : va_G) (cI cB cL : ClassId) (h0 : Nat)  : xG (σ := Nat × Nat × Nat) l y_FL_init w_FL_init ({ frames := 1, cells := 3, slots := 48, locals := 12  } : Room) D vwCl (xs_tys cI cB cL) [.ref h0] [(h0, .inr (3, [.null, .null, .null, .int (nI 0)]))] (fun (q1, q2, q3) => True) (fun (q1, q2, q3) => none) (fun (q1, q2, q3) => [(h0, .inr (3, [.ref q1, .ref q2, .ref q3, .int (nI 0)]))]) := by
  refine xG.of b_FL_init 1 (none) (by decide +kernel) rfl (Nat.le_of_ble_eq_true rfl) ?_
  intro p e s m below meth c A ls hAe C0 hP hD hS hl
  obtain ⟨hx, hb, hr, hml, hown, hlocks, hts, hnm, hN, hK, hA⟩ := C0
  have hU : ∀ w ∈ xU, w.before #[.ref h0] s = true := fun w h => hts w (List.mem_cons_of_mem _ h)
  have hl : lv_has ls 1 [(0, .ref h0)] := hl
  refine lv_aload_n hx hb d_FL_init_0 rfl (lv_at hl 0 rfl) ?_
  refine W.objInit hx hb hown (hU _ uw_155) (hU _ uw_27) (hU _ uw_28) rfl (by rw [hml]; exact hl.1) rfl d_FL_init_1 (Nat.le_of_ble_eq_true rfl) (Nat.le_of_ble_eq_true rfl) ?_
  refine W.eq (g2 := F0 m 4 ls []) rfl ?_
  refine lv_aload_n hx hb d_FL_init_4 rfl (lv_at hl 0 rfl) ?_
  refine lv_bipush (v := nI 16) hx hb d_FL_init_5 (by decide +kernel) ?_
  refine xw_newI (N := 16) hx hb (hU _ uw_64) hK 0 rfl hP hD hS hA (by decide +kernel) (by decide +kernel) (by decide) (Nat.le_of_ble_eq_true rfl) (Nat.le_of_ble_eq_true rfl) d_FL_init_7 (fun q_1 H hP hD hS => ?_)
  have hP : va_P D vwCl [(h0, .inr (3, [.null, .null, .null, .int (nI 0)])), (q_1, .inl (cI, 16, .inl (fun _ => 0)))] H := hP
  have hD : va_D A [(h0, .inr (3, [.null, .null, .null, .int (nI 0)])), (q_1, .inl (cI, 16, .inl (fun _ => 0)))] := hD
  refine W.widen (k := 1) (n := 16) (Nat.le_of_ble_eq_true rfl) (Nat.le_of_ble_eq_true rfl) ?_
  refine va_putF (D := D) (ci := 3) (v := .ref q_1) (ty := (.array .int)) (C := R_FL) (T := T_FL) (N := 4) hx hb hU iw_FL ty_FL ty_FL_ok nm_FL hown hK hP hD hS 0 rfl rfl 0 (by decide) (hU _ uw_156) (fun _ h9 => h9) rfl hnm rfl (by decide +kernel) (by first | rfl | decide +kernel) (by first | rfl | decide +kernel) (Nat.le_of_ble_eq_true rfl) d_FL_init_9 (fun H locs hP hD hS => ?_)
  have hP : va_P D vwCl [(h0, .inr (3, [.ref q_1, .null, .null, .int (nI 0)])), (q_1, .inl (cI, 16, .inl (fun _ => 0)))] H := hP
  have hD : va_D A [(h0, .inr (3, [.ref q_1, .null, .null, .int (nI 0)])), (q_1, .inl (cI, 16, .inl (fun _ => 0)))] := hD
  refine lv_aload_n hx hb d_FL_init_12 rfl (lv_at hl 0 rfl) ?_
  refine lv_bipush (v := nI 16) hx hb d_FL_init_13 (by decide +kernel) ?_
  refine xw_newI (N := 16) hx hb (hU _ uw_64) hK 0 rfl hP hD hS hA (by decide +kernel) (by decide +kernel) (by decide) (Nat.le_of_ble_eq_true rfl) (Nat.le_of_ble_eq_true rfl) d_FL_init_15 (fun q_2 H hP hD hS => ?_)
  have hP : va_P D vwCl [(h0, .inr (3, [.ref q_1, .null, .null, .int (nI 0)])), (q_1, .inl (cI, 16, .inl (fun _ => 0))), (q_2, .inl (cI, 16, .inl (fun _ => 0)))] H := hP
  have hD : va_D A [(h0, .inr (3, [.ref q_1, .null, .null, .int (nI 0)])), (q_1, .inl (cI, 16, .inl (fun _ => 0))), (q_2, .inl (cI, 16, .inl (fun _ => 0)))] := hD
  refine W.widen (k := 2) (n := 32) (Nat.le_of_ble_eq_true rfl) (Nat.le_of_ble_eq_true rfl) ?_
  refine va_putF (D := D) (ci := 3) (v := .ref q_2) (ty := (.array .int)) (C := R_FL) (T := T_FL) (N := 4) hx hb hU iw_FL ty_FL ty_FL_ok nm_FL hown hK hP hD hS 0 rfl rfl 1 (by decide) (hU _ uw_158) (fun _ h9 => h9) rfl hnm rfl (by decide +kernel) (by first | rfl | decide +kernel) (by first | rfl | decide +kernel) (Nat.le_of_ble_eq_true rfl) d_FL_init_17 (fun H locs hP hD hS => ?_)
  have hP : va_P D vwCl [(h0, .inr (3, [.ref q_1, .ref q_2, .null, .int (nI 0)])), (q_1, .inl (cI, 16, .inl (fun _ => 0))), (q_2, .inl (cI, 16, .inl (fun _ => 0)))] H := hP
  have hD : va_D A [(h0, .inr (3, [.ref q_1, .ref q_2, .null, .int (nI 0)])), (q_1, .inl (cI, 16, .inl (fun _ => 0))), (q_2, .inl (cI, 16, .inl (fun _ => 0)))] := hD
  refine lv_aload_n hx hb d_FL_init_20 rfl (lv_at hl 0 rfl) ?_
  refine lv_bipush (v := nI 16) hx hb d_FL_init_21 (by decide +kernel) ?_
  refine xw_newI (N := 16) hx hb (hU _ uw_64) hK 0 rfl hP hD hS hA (by decide +kernel) (by decide +kernel) (by decide) (Nat.le_of_ble_eq_true rfl) (Nat.le_of_ble_eq_true rfl) d_FL_init_23 (fun q_3 H hP hD hS => ?_)
  have hP : va_P D vwCl [(h0, .inr (3, [.ref q_1, .ref q_2, .null, .int (nI 0)])), (q_1, .inl (cI, 16, .inl (fun _ => 0))), (q_2, .inl (cI, 16, .inl (fun _ => 0))), (q_3, .inl (cI, 16, .inl (fun _ => 0)))] H := hP
  have hD : va_D A [(h0, .inr (3, [.ref q_1, .ref q_2, .null, .int (nI 0)])), (q_1, .inl (cI, 16, .inl (fun _ => 0))), (q_2, .inl (cI, 16, .inl (fun _ => 0))), (q_3, .inl (cI, 16, .inl (fun _ => 0)))] := hD
  refine W.widen (k := 3) (n := 48) (Nat.le_of_ble_eq_true rfl) (Nat.le_of_ble_eq_true rfl) ?_
  refine va_putF (D := D) (ci := 3) (v := .ref q_3) (ty := (.array .int)) (C := R_FL) (T := T_FL) (N := 4) hx hb hU iw_FL ty_FL ty_FL_ok nm_FL hown hK hP hD hS 0 rfl rfl 2 (by decide) (hU _ uw_160) (fun _ h9 => h9) rfl hnm rfl (by decide +kernel) (by first | rfl | decide +kernel) (by first | rfl | decide +kernel) (Nat.le_of_ble_eq_true rfl) d_FL_init_25 (fun H locs hP hD hS => ?_)
  have hP : va_P D vwCl [(h0, .inr (3, [.ref q_1, .ref q_2, .ref q_3, .int (nI 0)])), (q_1, .inl (cI, 16, .inl (fun _ => 0))), (q_2, .inl (cI, 16, .inl (fun _ => 0))), (q_3, .inl (cI, 16, .inl (fun _ => 0)))] H := hP
  have hD : va_D A [(h0, .inr (3, [.ref q_1, .ref q_2, .ref q_3, .int (nI 0)])), (q_1, .inl (cI, 16, .inl (fun _ => 0))), (q_2, .inl (cI, 16, .inl (fun _ => 0))), (q_3, .inl (cI, 16, .inl (fun _ => 0)))] := hD
  have hP9 := xs_P_sub (w := [(h0, .inr (3, [.ref q_1, .ref q_2, .ref q_3, .int (nI 0)]))]) hP [0] rfl
  have hD9 := hD.sub (ws' := [(h0, .inr (3, [.ref q_1, .ref q_2, .ref q_3, .int (nI 0)]))]) [0] (by decide) rfl
  exact xw_vret (q_1, q_2, q_3) hx hb hr hlocks d_FL_init_28 (rfl) (trivial) hAe hP9 hD9 hS (Nat.le_of_ble_eq_true rfl) (Nat.le_of_ble_eq_true rfl)
set_option maxHeartbeats 4000000 in
set_option maxRecDepth 100000 in
/-- new Ways -/
theorem c_WA_init (l : Launch) (D : va_G) (cI cB cL : ClassId) (h0 : Nat)  : xG (σ := Unit) l y_WA_init w_WA_init ({ frames := 1, cells := 1, slots := 200, locals := 12  } : Room) D vwCl (xs_tys cI cB cL) [.ref h0] [(h0, .inr (8, [.null]))] (fun _ => True) (fun _ => none) (fun _ => []) := by
  refine xG.of b_WA_init 1 (none) (by decide +kernel) rfl (Nat.le_of_ble_eq_true rfl) ?_
  intro p e s m below meth c A ls hAe C0 hP hD hS hl
  obtain ⟨hx, hb, hr, hml, hown, hlocks, hts, hnm, hN, hK, hA⟩ := C0
  have hU : ∀ w ∈ xU, w.before #[.ref h0] s = true := fun w h => hts w (List.mem_cons_of_mem _ h)
  have hl : lv_has ls 1 [(0, .ref h0)] := hl
  refine lv_aload_n hx hb d_WA_init_0 rfl (lv_at hl 0 rfl) ?_
  refine W.objInit hx hb hown (hU _ uw_179) (hU _ uw_27) (hU _ uw_28) rfl (by rw [hml]; exact hl.1) rfl d_WA_init_1 (Nat.le_of_ble_eq_true rfl) (Nat.le_of_ble_eq_true rfl) ?_
  refine W.eq (g2 := F0 m 4 ls []) rfl ?_
  refine lv_aload_n hx hb d_WA_init_4 rfl (lv_at hl 0 rfl) ?_
  refine lv_sipush (v := nI 200) hx hb d_WA_init_5 (by decide +kernel) ?_
  refine xw_newB (N := 200) hx hb (hU _ uw_115) hK 1 rfl hP hD hS hA (by decide +kernel) (by decide +kernel) (by decide) (Nat.le_of_ble_eq_true rfl) (Nat.le_of_ble_eq_true rfl) d_WA_init_8 (fun q_1 H hP hD hS => ?_)
  have hP : va_P D vwCl [(h0, .inr (8, [.null])), (q_1, .inl (cB, 200, .inl (fun _ => 0)))] H := hP
  have hD : va_D A [(h0, .inr (8, [.null])), (q_1, .inl (cB, 200, .inl (fun _ => 0)))] := hD
  refine W.widen (k := 1) (n := 200) (Nat.le_of_ble_eq_true rfl) (Nat.le_of_ble_eq_true rfl) ?_
  refine va_putF (D := D) (ci := 8) (v := .ref q_1) (ty := (.array .boolean)) (C := R_WA) (T := T_WA) (N := 1) hx hb hU iw_WA ty_WA ty_WA_ok nm_WA hown hK hP hD hS 0 rfl rfl 0 (by decide) (hU _ uw_180) (fun _ h9 => h9) rfl hnm rfl (by decide +kernel) (by first | rfl | decide +kernel) (by first | rfl | decide +kernel) (Nat.le_of_ble_eq_true rfl) d_WA_init_10 (fun H locs hP hD hS => ?_)
  have hP : va_P D vwCl [(h0, .inr (8, [.ref q_1])), (q_1, .inl (cB, 200, .inl (fun _ => 0)))] H := hP
  have hD : va_D A [(h0, .inr (8, [.ref q_1])), (q_1, .inl (cB, 200, .inl (fun _ => 0)))] := hD
  have hP9 := xs_P_sub (w := []) hP [] rfl
  have hD9 := hD.sub (ws' := []) [] (by decide) rfl
  exact xw_vret () hx hb hr hlocks d_WA_init_13 (rfl) (trivial) hAe hP9 hD9 hS (Nat.le_of_ble_eq_true rfl) (Nat.le_of_ble_eq_true rfl)
set_option maxHeartbeats 4000000 in
set_option maxRecDepth 100000 in
/-- new Levels -/
theorem c_LE_init (l : Launch) (D : va_G) (cI cB cL : ClassId) (h0 : Nat)  : xG (σ := Nat × Nat × Nat × Nat) l y_LE_init w_LE_init ({ frames := 1, cells := 4, slots := 801, locals := 23  } : Room) D vwCl (xs_tys cI cB cL) [.ref h0] [(h0, .inr (7, [.null, .null, .null, .int (nI 0), .null]))] (fun (lo, lr, lb, lf) => True) (fun (lo, lr, lb, lf) => none) (fun (lo, lr, lb, lf) => [(h0, .inr (7, [.ref lo, .ref lr, .ref lb, .int (nI 0), .ref lf])), (lo, .inl (cI, 200, .inl (fun _ => (-1)))), (lb, .inl (cI, 201, .inl (fun _ => 0))), (lf, .inl (cB, 200, .inl (fun _ => 0)))]) := by
  refine xG.of b_LE_init 1 (none) (by decide +kernel) rfl (Nat.le_of_ble_eq_true rfl) ?_
  intro p e s m below meth c A ls hAe C0 hP hD hS hl
  obtain ⟨hx, hb, hr, hml, hown, hlocks, hts, hnm, hN, hK, hA⟩ := C0
  have hU : ∀ w ∈ xU, w.before #[.ref h0] s = true := fun w h => hts w (List.mem_cons_of_mem _ h)
  have hl : lv_has ls 1 [(0, .ref h0)] := hl
  refine lv_aload_n hx hb d_LE_init_0 rfl (lv_at hl 0 rfl) ?_
  refine W.objInit hx hb hown (hU _ uw_121) (hU _ uw_27) (hU _ uw_28) rfl (by rw [hml]; exact hl.1) rfl d_LE_init_1 (Nat.le_of_ble_eq_true rfl) (Nat.le_of_ble_eq_true rfl) ?_
  refine W.eq (g2 := F0 m 4 ls []) rfl ?_
  refine lv_aload_n hx hb d_LE_init_4 rfl (lv_at hl 0 rfl) ?_
  refine lv_sipush (v := nI 200) hx hb d_LE_init_5 (by decide +kernel) ?_
  refine xw_newI (N := 200) hx hb (hU _ uw_64) hK 0 rfl hP hD hS hA (by decide +kernel) (by decide +kernel) (by decide) (Nat.le_of_ble_eq_true rfl) (Nat.le_of_ble_eq_true rfl) d_LE_init_8 (fun q_1 H hP hD hS => ?_)
  have hP : va_P D vwCl [(h0, .inr (7, [.null, .null, .null, .int (nI 0), .null])), (q_1, .inl (cI, 200, .inl (fun _ => 0)))] H := hP
  have hD : va_D A [(h0, .inr (7, [.null, .null, .null, .int (nI 0), .null])), (q_1, .inl (cI, 200, .inl (fun _ => 0)))] := hD
  refine W.widen (k := 1) (n := 200) (Nat.le_of_ble_eq_true rfl) (Nat.le_of_ble_eq_true rfl) ?_
  refine va_putF (D := D) (ci := 7) (v := .ref q_1) (ty := (.array .int)) (C := R_LE) (T := T_LE) (N := 5) hx hb hU iw_LE ty_LE ty_LE_ok nm_LE hown hK hP hD hS 0 rfl rfl 0 (by decide) (hU _ uw_125) (fun _ h9 => h9) rfl hnm rfl (by decide +kernel) (by first | rfl | decide +kernel) (by first | rfl | decide +kernel) (Nat.le_of_ble_eq_true rfl) d_LE_init_10 (fun H locs hP hD hS => ?_)
  have hP : va_P D vwCl [(h0, .inr (7, [.ref q_1, .null, .null, .int (nI 0), .null])), (q_1, .inl (cI, 200, .inl (fun _ => 0)))] H := hP
  have hD : va_D A [(h0, .inr (7, [.ref q_1, .null, .null, .int (nI 0), .null])), (q_1, .inl (cI, 200, .inl (fun _ => 0)))] := hD
  refine lv_aload_n hx hb d_LE_init_13 rfl (lv_at hl 0 rfl) ?_
  refine lv_sipush (v := nI 200) hx hb d_LE_init_14 (by decide +kernel) ?_
  refine xw_newI (N := 200) hx hb (hU _ uw_64) hK 0 rfl hP hD hS hA (by decide +kernel) (by decide +kernel) (by decide) (Nat.le_of_ble_eq_true rfl) (Nat.le_of_ble_eq_true rfl) d_LE_init_17 (fun q_2 H hP hD hS => ?_)
  have hP : va_P D vwCl [(h0, .inr (7, [.ref q_1, .null, .null, .int (nI 0), .null])), (q_1, .inl (cI, 200, .inl (fun _ => 0))), (q_2, .inl (cI, 200, .inl (fun _ => 0)))] H := hP
  have hD : va_D A [(h0, .inr (7, [.ref q_1, .null, .null, .int (nI 0), .null])), (q_1, .inl (cI, 200, .inl (fun _ => 0))), (q_2, .inl (cI, 200, .inl (fun _ => 0)))] := hD
  refine W.widen (k := 2) (n := 400) (Nat.le_of_ble_eq_true rfl) (Nat.le_of_ble_eq_true rfl) ?_
  refine va_putF (D := D) (ci := 7) (v := .ref q_2) (ty := (.array .int)) (C := R_LE) (T := T_LE) (N := 5) hx hb hU iw_LE ty_LE ty_LE_ok nm_LE hown hK hP hD hS 0 rfl rfl 1 (by decide) (hU _ uw_128) (fun _ h9 => h9) rfl hnm rfl (by decide +kernel) (by first | rfl | decide +kernel) (by first | rfl | decide +kernel) (Nat.le_of_ble_eq_true rfl) d_LE_init_19 (fun H locs hP hD hS => ?_)
  have hP : va_P D vwCl [(h0, .inr (7, [.ref q_1, .ref q_2, .null, .int (nI 0), .null])), (q_1, .inl (cI, 200, .inl (fun _ => 0))), (q_2, .inl (cI, 200, .inl (fun _ => 0)))] H := hP
  have hD : va_D A [(h0, .inr (7, [.ref q_1, .ref q_2, .null, .int (nI 0), .null])), (q_1, .inl (cI, 200, .inl (fun _ => 0))), (q_2, .inl (cI, 200, .inl (fun _ => 0)))] := hD
  refine lv_aload_n hx hb d_LE_init_22 rfl (lv_at hl 0 rfl) ?_
  refine lv_sipush (v := nI 201) hx hb d_LE_init_23 (by decide +kernel) ?_
  refine xw_newI (N := 201) hx hb (hU _ uw_64) hK 0 rfl hP hD hS hA (by decide +kernel) (by decide +kernel) (by decide) (Nat.le_of_ble_eq_true rfl) (Nat.le_of_ble_eq_true rfl) d_LE_init_26 (fun q_3 H hP hD hS => ?_)
  have hP : va_P D vwCl [(h0, .inr (7, [.ref q_1, .ref q_2, .null, .int (nI 0), .null])), (q_1, .inl (cI, 200, .inl (fun _ => 0))), (q_2, .inl (cI, 200, .inl (fun _ => 0))), (q_3, .inl (cI, 201, .inl (fun _ => 0)))] H := hP
  have hD : va_D A [(h0, .inr (7, [.ref q_1, .ref q_2, .null, .int (nI 0), .null])), (q_1, .inl (cI, 200, .inl (fun _ => 0))), (q_2, .inl (cI, 200, .inl (fun _ => 0))), (q_3, .inl (cI, 201, .inl (fun _ => 0)))] := hD
  refine W.widen (k := 3) (n := 601) (Nat.le_of_ble_eq_true rfl) (Nat.le_of_ble_eq_true rfl) ?_
  refine va_putF (D := D) (ci := 7) (v := .ref q_3) (ty := (.array .int)) (C := R_LE) (T := T_LE) (N := 5) hx hb hU iw_LE ty_LE ty_LE_ok nm_LE hown hK hP hD hS 0 rfl rfl 2 (by decide) (hU _ uw_131) (fun _ h9 => h9) rfl hnm rfl (by decide +kernel) (by first | rfl | decide +kernel) (by first | rfl | decide +kernel) (Nat.le_of_ble_eq_true rfl) d_LE_init_28 (fun H locs hP hD hS => ?_)
  have hP : va_P D vwCl [(h0, .inr (7, [.ref q_1, .ref q_2, .ref q_3, .int (nI 0), .null])), (q_1, .inl (cI, 200, .inl (fun _ => 0))), (q_2, .inl (cI, 200, .inl (fun _ => 0))), (q_3, .inl (cI, 201, .inl (fun _ => 0)))] H := hP
  have hD : va_D A [(h0, .inr (7, [.ref q_1, .ref q_2, .ref q_3, .int (nI 0), .null])), (q_1, .inl (cI, 200, .inl (fun _ => 0))), (q_2, .inl (cI, 200, .inl (fun _ => 0))), (q_3, .inl (cI, 201, .inl (fun _ => 0)))] := hD
  refine lv_aload_n hx hb d_LE_init_31 rfl (lv_at hl 0 rfl) ?_
  refine lv_sipush (v := nI 200) hx hb d_LE_init_32 (by decide +kernel) ?_
  refine xw_newB (N := 200) hx hb (hU _ uw_115) hK 1 rfl hP hD hS hA (by decide +kernel) (by decide +kernel) (by decide) (Nat.le_of_ble_eq_true rfl) (Nat.le_of_ble_eq_true rfl) d_LE_init_35 (fun q_4 H hP hD hS => ?_)
  have hP : va_P D vwCl [(h0, .inr (7, [.ref q_1, .ref q_2, .ref q_3, .int (nI 0), .null])), (q_1, .inl (cI, 200, .inl (fun _ => 0))), (q_2, .inl (cI, 200, .inl (fun _ => 0))), (q_3, .inl (cI, 201, .inl (fun _ => 0))), (q_4, .inl (cB, 200, .inl (fun _ => 0)))] H := hP
  have hD : va_D A [(h0, .inr (7, [.ref q_1, .ref q_2, .ref q_3, .int (nI 0), .null])), (q_1, .inl (cI, 200, .inl (fun _ => 0))), (q_2, .inl (cI, 200, .inl (fun _ => 0))), (q_3, .inl (cI, 201, .inl (fun _ => 0))), (q_4, .inl (cB, 200, .inl (fun _ => 0)))] := hD
  refine W.widen (k := 4) (n := 801) (Nat.le_of_ble_eq_true rfl) (Nat.le_of_ble_eq_true rfl) ?_
  refine va_putF (D := D) (ci := 7) (v := .ref q_4) (ty := (.array .boolean)) (C := R_LE) (T := T_LE) (N := 5) hx hb hU iw_LE ty_LE ty_LE_ok nm_LE hown hK hP hD hS 0 rfl rfl 4 (by decide) (hU _ uw_138) (fun _ h9 => h9) rfl hnm rfl (by decide +kernel) (by first | rfl | decide +kernel) (by first | rfl | decide +kernel) (Nat.le_of_ble_eq_true rfl) d_LE_init_37 (fun H locs hP hD hS => ?_)
  have hP : va_P D vwCl [(h0, .inr (7, [.ref q_1, .ref q_2, .ref q_3, .int (nI 0), .ref q_4])), (q_1, .inl (cI, 200, .inl (fun _ => 0))), (q_2, .inl (cI, 200, .inl (fun _ => 0))), (q_3, .inl (cI, 201, .inl (fun _ => 0))), (q_4, .inl (cB, 200, .inl (fun _ => 0)))] H := hP
  have hD : va_D A [(h0, .inr (7, [.ref q_1, .ref q_2, .ref q_3, .int (nI 0), .ref q_4])), (q_1, .inl (cI, 200, .inl (fun _ => 0))), (q_2, .inl (cI, 200, .inl (fun _ => 0))), (q_3, .inl (cI, 201, .inl (fun _ => 0))), (q_4, .inl (cB, 200, .inl (fun _ => 0)))] := hD
  refine lv_aload_n hx hb d_LE_init_40 rfl (lv_at hl 0 rfl) ?_
  refine va_get (D := D) (ci := 7) (v := .ref q_1) (C := R_LE) (T := T_LE) (N := 5) hx hb hU iw_LE hown hK hP 0 rfl rfl 0 (by decide) (hU _ uw_125) (fun _ h9 => h9) rfl d_LE_init_41 ?_
  refine lv_iconst (v := (-1)) hx hb d_LE_init_44 (by decide +kernel) ?_
  refine xw_callS (wr := [(h0, .inr (7, [.ref q_1, .ref q_2, .ref q_3, .int (nI 0), .ref q_4])), (q_2, .inl (cI, 200, .inl (fun _ => 0))), (q_3, .inl (cI, 201, .inl (fun _ => 0))), (q_4, .inl (cB, 200, .inl (fun _ => 0)))]) [.ref q_1, .int (-1)] (c_fill l D cI cB cL q_1 200 (fun _ => 0) (-1) (by decide)) ⟨hx, hb, hml, hown, hU⟩ (va_cwS 2 hU (xs_goodS uw_122 uw_123 uw_8 uw_124) rfl rfl rfl (by decide +kernel) ⟨Nat.le_of_ble_eq_true rfl, Nat.le_of_ble_eq_true rfl⟩) rfl hl.1 rfl (Nat.le_of_ble_eq_true rfl) d_LE_init_45 ⟨Nat.le_of_ble_eq_true rfl, Nat.le_of_ble_eq_true rfl⟩ [1] [0, 2, 3, 4] rfl rfl (by decide) (by decide) (by decide) hN hK hP hD hS hA (fun u H locs hf hP hD hS => ?_)
  have hP : va_P D vwCl [(h0, .inr (7, [.ref q_1, .ref q_2, .ref q_3, .int (nI 0), .ref q_4])), (q_2, .inl (cI, 200, .inl (fun _ => 0))), (q_3, .inl (cI, 201, .inl (fun _ => 0))), (q_4, .inl (cB, 200, .inl (fun _ => 0))), (q_1, .inl (cI, 200, .inl (fun _ => ((-1)))))] H := hP
  have hD : va_D A [(h0, .inr (7, [.ref q_1, .ref q_2, .ref q_3, .int (nI 0), .ref q_4])), (q_2, .inl (cI, 200, .inl (fun _ => 0))), (q_3, .inl (cI, 201, .inl (fun _ => 0))), (q_4, .inl (cB, 200, .inl (fun _ => 0))), (q_1, .inl (cI, 200, .inl (fun _ => ((-1)))))] := hD
  refine W.widen (k := 4) (n := 801) (Nat.le_of_ble_eq_true rfl) (Nat.le_of_ble_eq_true rfl) ?_
  refine W.eq (g2 := F0 m 48 ls []) rfl ?_
  have hP9 := xs_P_sub (w := [(h0, .inr (7, [.ref q_1, .ref q_2, .ref q_3, .int (nI 0), .ref q_4])), (q_1, .inl (cI, 200, .inl (fun _ => ((-1))))), (q_3, .inl (cI, 201, .inl (fun _ => 0))), (q_4, .inl (cB, 200, .inl (fun _ => 0)))]) hP [0, 4, 2, 3] rfl
  have hD9 := hD.sub (ws' := [(h0, .inr (7, [.ref q_1, .ref q_2, .ref q_3, .int (nI 0), .ref q_4])), (q_1, .inl (cI, 200, .inl (fun _ => ((-1))))), (q_3, .inl (cI, 201, .inl (fun _ => 0))), (q_4, .inl (cB, 200, .inl (fun _ => 0)))]) [0, 4, 2, 3] (by decide) rfl
  exact xw_vret (q_1, q_2, q_3, q_4) hx hb hr hlocks d_LE_init_48 (rfl) (trivial) hAe hP9 hD9 hS (Nat.le_of_ble_eq_true rfl) (Nat.le_of_ble_eq_true rfl)
end
section
set_option maxHeartbeats 4000000 in
set_option maxRecDepth 100000 in
/-- new Queues -/
theorem c_QU_init (l : Launch) (D : va_G) (cI cB cL : ClassId) (h0 : Nat) (rm : Nat)  : xG (σ := Nat × Nat × Nat) l y_QU_init w_QU_init ({ frames := 1, cells := 19, slots := 176, locals := 12  } : Room) D vwCl (xs_tys cI cB cL) [.ref h0, .int (nI rm)] [(h0, .inr (5, [.int (nI 0), .null, .null, .null, .int (nI 0)]))] (fun (q1, q2, q3) => True) (fun (q1, q2, q3) => none) (fun (q1, q2, q3) => [(h0, .inr (5, [.int (nI rm), .ref q1, .ref q2, .ref q3, .int (nI 0)]))]) := by
  refine xG.of b_QU_init 2 (none) (by decide +kernel) rfl (Nat.le_of_ble_eq_true rfl) ?_
  intro p e s m below meth c A ls hAe C0 hP hD hS hl
  obtain ⟨hx, hb, hr, hml, hown, hlocks, hts, hnm, hN, hK, hA⟩ := C0
  have hU : ∀ w ∈ xU, w.before #[.ref h0, .int (nI rm)] s = true := fun w h => hts w (List.mem_cons_of_mem _ h)
  have hl : lv_has ls 2 [(0, .ref h0), (1, .int (nI rm))] := hl
  refine lv_aload_n hx hb d_QU_init_0 rfl (lv_at hl 0 rfl) ?_
  refine W.objInit hx hb hown (hU _ uw_244) (hU _ uw_27) (hU _ uw_28) rfl (by rw [hml]; exact hl.1) rfl d_QU_init_1 (Nat.le_of_ble_eq_true rfl) (Nat.le_of_ble_eq_true rfl) ?_
  refine W.eq (g2 := F0 m 4 ls []) rfl ?_
  refine lv_aload_n hx hb d_QU_init_4 rfl (lv_at hl 0 rfl) ?_
  refine lv_bipush (v := nI 16) hx hb d_QU_init_5 (by decide +kernel) ?_
  refine lv_bipush (v := nI 8) hx hb d_QU_init_7 (by decide +kernel) ?_
  refine xw_mna (N := 16) (K := 8) hx hb hown (hU _ uw_245) (hN _ nw_92) (hU _ uw_64) hP hD hS (by decide +kernel) (by decide +kernel) (by decide +kernel) (by decide +kernel) (by decide) (by decide) (Nat.le_of_ble_eq_true rfl) (Nat.le_of_ble_eq_true rfl) d_QU_init_9 (fun q_1 H hP hD hS => ?_)
  have hP : va_P D vwCl [(h0, .inr (5, [.int (nI 0), .null, .null, .null, .int (nI 0)]))] H := hP
  have hD : va_D A [(h0, .inr (5, [.int (nI 0), .null, .null, .null, .int (nI 0)]))] := hD
  refine W.widen (k := 17) (n := 144) (Nat.le_of_ble_eq_true rfl) (Nat.le_of_ble_eq_true rfl) ?_
  refine va_putF (D := D) (ci := 5) (v := .ref q_1) (ty := (.array (.array .int))) (C := R_QU) (T := T_QU) (N := 5) hx hb hU iw_QU ty_QU ty_QU_ok nm_QU hown hK hP hD hS 0 rfl rfl 1 (by decide) (hU _ uw_248) (fun _ h9 => h9) rfl hnm rfl (by decide +kernel) (by first | rfl | decide +kernel) (by first | rfl | decide +kernel) (Nat.le_of_ble_eq_true rfl) d_QU_init_13 (fun H locs hP hD hS => ?_)
  have hP : va_P D vwCl [(h0, .inr (5, [.int (nI 0), .ref q_1, .null, .null, .int (nI 0)]))] H := hP
  have hD : va_D A [(h0, .inr (5, [.int (nI 0), .ref q_1, .null, .null, .int (nI 0)]))] := hD
  refine lv_aload_n hx hb d_QU_init_16 rfl (lv_at hl 0 rfl) ?_
  refine lv_bipush (v := nI 16) hx hb d_QU_init_17 (by decide +kernel) ?_
  refine xw_newI (N := 16) hx hb (hU _ uw_64) hK 0 rfl hP hD hS hA (by decide +kernel) (by decide +kernel) (by decide) (Nat.le_of_ble_eq_true rfl) (Nat.le_of_ble_eq_true rfl) d_QU_init_19 (fun q_2 H hP hD hS => ?_)
  have hP : va_P D vwCl [(h0, .inr (5, [.int (nI 0), .ref q_1, .null, .null, .int (nI 0)])), (q_2, .inl (cI, 16, .inl (fun _ => 0)))] H := hP
  have hD : va_D A [(h0, .inr (5, [.int (nI 0), .ref q_1, .null, .null, .int (nI 0)])), (q_2, .inl (cI, 16, .inl (fun _ => 0)))] := hD
  refine W.widen (k := 18) (n := 160) (Nat.le_of_ble_eq_true rfl) (Nat.le_of_ble_eq_true rfl) ?_
  refine va_putF (D := D) (ci := 5) (v := .ref q_2) (ty := (.array .int)) (C := R_QU) (T := T_QU) (N := 5) hx hb hU iw_QU ty_QU ty_QU_ok nm_QU hown hK hP hD hS 0 rfl rfl 2 (by decide) (hU _ uw_249) (fun _ h9 => h9) rfl hnm rfl (by decide +kernel) (by first | rfl | decide +kernel) (by first | rfl | decide +kernel) (Nat.le_of_ble_eq_true rfl) d_QU_init_21 (fun H locs hP hD hS => ?_)
  have hP : va_P D vwCl [(h0, .inr (5, [.int (nI 0), .ref q_1, .ref q_2, .null, .int (nI 0)])), (q_2, .inl (cI, 16, .inl (fun _ => 0)))] H := hP
  have hD : va_D A [(h0, .inr (5, [.int (nI 0), .ref q_1, .ref q_2, .null, .int (nI 0)])), (q_2, .inl (cI, 16, .inl (fun _ => 0)))] := hD
  refine lv_aload_n hx hb d_QU_init_24 rfl (lv_at hl 0 rfl) ?_
  refine lv_bipush (v := nI 16) hx hb d_QU_init_25 (by decide +kernel) ?_
  refine xw_newI (N := 16) hx hb (hU _ uw_64) hK 0 rfl hP hD hS hA (by decide +kernel) (by decide +kernel) (by decide) (Nat.le_of_ble_eq_true rfl) (Nat.le_of_ble_eq_true rfl) d_QU_init_27 (fun q_3 H hP hD hS => ?_)
  have hP : va_P D vwCl [(h0, .inr (5, [.int (nI 0), .ref q_1, .ref q_2, .null, .int (nI 0)])), (q_2, .inl (cI, 16, .inl (fun _ => 0))), (q_3, .inl (cI, 16, .inl (fun _ => 0)))] H := hP
  have hD : va_D A [(h0, .inr (5, [.int (nI 0), .ref q_1, .ref q_2, .null, .int (nI 0)])), (q_2, .inl (cI, 16, .inl (fun _ => 0))), (q_3, .inl (cI, 16, .inl (fun _ => 0)))] := hD
  refine W.widen (k := 19) (n := 176) (Nat.le_of_ble_eq_true rfl) (Nat.le_of_ble_eq_true rfl) ?_
  refine va_putF (D := D) (ci := 5) (v := .ref q_3) (ty := (.array .int)) (C := R_QU) (T := T_QU) (N := 5) hx hb hU iw_QU ty_QU ty_QU_ok nm_QU hown hK hP hD hS 0 rfl rfl 3 (by decide) (hU _ uw_250) (fun _ h9 => h9) rfl hnm rfl (by decide +kernel) (by first | rfl | decide +kernel) (by first | rfl | decide +kernel) (Nat.le_of_ble_eq_true rfl) d_QU_init_29 (fun H locs hP hD hS => ?_)
  have hP : va_P D vwCl [(h0, .inr (5, [.int (nI 0), .ref q_1, .ref q_2, .ref q_3, .int (nI 0)])), (q_2, .inl (cI, 16, .inl (fun _ => 0))), (q_3, .inl (cI, 16, .inl (fun _ => 0)))] H := hP
  have hD : va_D A [(h0, .inr (5, [.int (nI 0), .ref q_1, .ref q_2, .ref q_3, .int (nI 0)])), (q_2, .inl (cI, 16, .inl (fun _ => 0))), (q_3, .inl (cI, 16, .inl (fun _ => 0)))] := hD
  refine lv_aload_n hx hb d_QU_init_32 rfl (lv_at hl 0 rfl) ?_
  refine lv_iload_n hx hb d_QU_init_33 rfl (lv_at hl 1 rfl) ?_
  refine va_putF (D := D) (ci := 5) (v := .int (nI rm)) (ty := .int) (C := R_QU) (T := T_QU) (N := 5) hx hb hU iw_QU ty_QU ty_QU_ok nm_QU hown hK hP hD hS 0 rfl rfl 0 (by decide) (hU _ uw_246) (fun _ h9 => h9) rfl hnm rfl (by decide +kernel) (by first | rfl | decide +kernel) (by first | rfl | decide +kernel) (Nat.le_of_ble_eq_true rfl) d_QU_init_34 (fun H locs hP hD hS => ?_)
  have hP : va_P D vwCl [(h0, .inr (5, [.int (nI rm), .ref q_1, .ref q_2, .ref q_3, .int (nI 0)])), (q_2, .inl (cI, 16, .inl (fun _ => 0))), (q_3, .inl (cI, 16, .inl (fun _ => 0)))] H := hP
  have hD : va_D A [(h0, .inr (5, [.int (nI rm), .ref q_1, .ref q_2, .ref q_3, .int (nI 0)])), (q_2, .inl (cI, 16, .inl (fun _ => 0))), (q_3, .inl (cI, 16, .inl (fun _ => 0)))] := hD
  have hP9 := xs_P_sub (w := [(h0, .inr (5, [.int (nI rm), .ref q_1, .ref q_2, .ref q_3, .int (nI 0)]))]) hP [0] rfl
  have hD9 := hD.sub (ws' := [(h0, .inr (5, [.int (nI rm), .ref q_1, .ref q_2, .ref q_3, .int (nI 0)]))]) [0] (by decide) rfl
  exact xw_vret (q_1, q_2, q_3) hx hb hr hlocks d_QU_init_37 (rfl) (trivial) hAe hP9 hD9 hS (Nat.le_of_ble_eq_true rfl) (Nat.le_of_ble_eq_true rfl)
set_option maxHeartbeats 4000000 in
set_option maxRecDepth 100000 in
/-- new Lists -/
theorem c_LI_init (l : Launch) (D : va_G) (cI cB cL : ClassId) (h0 : Nat)  : xG (σ := Unit) l y_LI_init w_LI_init ({ frames := 1, cells := 22, slots := 3296, locals := 12  } : Room) D vwCl (xs_tys cI cB cL) [.ref h0] [(h0, .inr (6, [.null, .null, .null, .null, .null, .null]))] (fun _ => True) (fun _ => none) (fun _ => []) := by
  refine xG.of b_LI_init 1 (none) (by decide +kernel) rfl (Nat.le_of_ble_eq_true rfl) ?_
  intro p e s m below meth c A ls hAe C0 hP hD hS hl
  obtain ⟨hx, hb, hr, hml, hown, hlocks, hts, hnm, hN, hK, hA⟩ := C0
  have hU : ∀ w ∈ xU, w.before #[.ref h0] s = true := fun w h => hts w (List.mem_cons_of_mem _ h)
  have hl : lv_has ls 1 [(0, .ref h0)] := hl
  refine lv_aload_n hx hb d_LI_init_0 rfl (lv_at hl 0 rfl) ?_
  refine W.objInit hx hb hown (hU _ uw_90) (hU _ uw_27) (hU _ uw_28) rfl (by rw [hml]; exact hl.1) rfl d_LI_init_1 (Nat.le_of_ble_eq_true rfl) (Nat.le_of_ble_eq_true rfl) ?_
  refine W.eq (g2 := F0 m 4 ls []) rfl ?_
  refine lv_aload_n hx hb d_LI_init_4 rfl (lv_at hl 0 rfl) ?_
  refine lv_bipush (v := nI 16) hx hb d_LI_init_5 (by decide +kernel) ?_
  refine lv_sipush (v := nI 200) hx hb d_LI_init_7 (by decide +kernel) ?_
  refine xw_mna (N := 16) (K := 200) hx hb hown (hU _ uw_91) (hN _ nw_92) (hU _ uw_64) hP hD hS (by decide +kernel) (by decide +kernel) (by decide +kernel) (by decide +kernel) (by decide) (by decide) (Nat.le_of_ble_eq_true rfl) (Nat.le_of_ble_eq_true rfl) d_LI_init_10 (fun q_1 H hP hD hS => ?_)
  have hP : va_P D vwCl [(h0, .inr (6, [.null, .null, .null, .null, .null, .null]))] H := hP
  have hD : va_D A [(h0, .inr (6, [.null, .null, .null, .null, .null, .null]))] := hD
  refine W.widen (k := 17) (n := 3216) (Nat.le_of_ble_eq_true rfl) (Nat.le_of_ble_eq_true rfl) ?_
  refine va_putF (D := D) (ci := 6) (v := .ref q_1) (ty := (.array (.array .int))) (C := R_LI) (T := T_LI) (N := 6) hx hb hU iw_LI ty_LI ty_LI_ok nm_LI hown hK hP hD hS 0 rfl rfl 0 (by decide) (hU _ uw_93) (fun _ h9 => h9) rfl hnm rfl (by decide +kernel) (by first | rfl | decide +kernel) (by first | rfl | decide +kernel) (Nat.le_of_ble_eq_true rfl) d_LI_init_14 (fun H locs hP hD hS => ?_)
  have hP : va_P D vwCl [(h0, .inr (6, [.ref q_1, .null, .null, .null, .null, .null]))] H := hP
  have hD : va_D A [(h0, .inr (6, [.ref q_1, .null, .null, .null, .null, .null]))] := hD
  refine lv_aload_n hx hb d_LI_init_17 rfl (lv_at hl 0 rfl) ?_
  refine lv_bipush (v := nI 16) hx hb d_LI_init_18 (by decide +kernel) ?_
  refine xw_newI (N := 16) hx hb (hU _ uw_64) hK 0 rfl hP hD hS hA (by decide +kernel) (by decide +kernel) (by decide) (Nat.le_of_ble_eq_true rfl) (Nat.le_of_ble_eq_true rfl) d_LI_init_20 (fun q_2 H hP hD hS => ?_)
  have hP : va_P D vwCl [(h0, .inr (6, [.ref q_1, .null, .null, .null, .null, .null])), (q_2, .inl (cI, 16, .inl (fun _ => 0)))] H := hP
  have hD : va_D A [(h0, .inr (6, [.ref q_1, .null, .null, .null, .null, .null])), (q_2, .inl (cI, 16, .inl (fun _ => 0)))] := hD
  refine W.widen (k := 18) (n := 3232) (Nat.le_of_ble_eq_true rfl) (Nat.le_of_ble_eq_true rfl) ?_
  refine va_putF (D := D) (ci := 6) (v := .ref q_2) (ty := (.array .int)) (C := R_LI) (T := T_LI) (N := 6) hx hb hU iw_LI ty_LI ty_LI_ok nm_LI hown hK hP hD hS 0 rfl rfl 1 (by decide) (hU _ uw_94) (fun _ h9 => h9) rfl hnm rfl (by decide +kernel) (by first | rfl | decide +kernel) (by first | rfl | decide +kernel) (Nat.le_of_ble_eq_true rfl) d_LI_init_22 (fun H locs hP hD hS => ?_)
  have hP : va_P D vwCl [(h0, .inr (6, [.ref q_1, .ref q_2, .null, .null, .null, .null])), (q_2, .inl (cI, 16, .inl (fun _ => 0)))] H := hP
  have hD : va_D A [(h0, .inr (6, [.ref q_1, .ref q_2, .null, .null, .null, .null])), (q_2, .inl (cI, 16, .inl (fun _ => 0)))] := hD
  refine lv_aload_n hx hb d_LI_init_25 rfl (lv_at hl 0 rfl) ?_
  refine lv_bipush (v := nI 16) hx hb d_LI_init_26 (by decide +kernel) ?_
  refine xw_newI (N := 16) hx hb (hU _ uw_64) hK 0 rfl hP hD hS hA (by decide +kernel) (by decide +kernel) (by decide) (Nat.le_of_ble_eq_true rfl) (Nat.le_of_ble_eq_true rfl) d_LI_init_28 (fun q_3 H hP hD hS => ?_)
  have hP : va_P D vwCl [(h0, .inr (6, [.ref q_1, .ref q_2, .null, .null, .null, .null])), (q_2, .inl (cI, 16, .inl (fun _ => 0))), (q_3, .inl (cI, 16, .inl (fun _ => 0)))] H := hP
  have hD : va_D A [(h0, .inr (6, [.ref q_1, .ref q_2, .null, .null, .null, .null])), (q_2, .inl (cI, 16, .inl (fun _ => 0))), (q_3, .inl (cI, 16, .inl (fun _ => 0)))] := hD
  refine W.widen (k := 19) (n := 3248) (Nat.le_of_ble_eq_true rfl) (Nat.le_of_ble_eq_true rfl) ?_
  refine va_putF (D := D) (ci := 6) (v := .ref q_3) (ty := (.array .int)) (C := R_LI) (T := T_LI) (N := 6) hx hb hU iw_LI ty_LI ty_LI_ok nm_LI hown hK hP hD hS 0 rfl rfl 2 (by decide) (hU _ uw_95) (fun _ h9 => h9) rfl hnm rfl (by decide +kernel) (by first | rfl | decide +kernel) (by first | rfl | decide +kernel) (Nat.le_of_ble_eq_true rfl) d_LI_init_30 (fun H locs hP hD hS => ?_)
  have hP : va_P D vwCl [(h0, .inr (6, [.ref q_1, .ref q_2, .ref q_3, .null, .null, .null])), (q_2, .inl (cI, 16, .inl (fun _ => 0))), (q_3, .inl (cI, 16, .inl (fun _ => 0)))] H := hP
  have hD : va_D A [(h0, .inr (6, [.ref q_1, .ref q_2, .ref q_3, .null, .null, .null])), (q_2, .inl (cI, 16, .inl (fun _ => 0))), (q_3, .inl (cI, 16, .inl (fun _ => 0)))] := hD
  refine lv_aload_n hx hb d_LI_init_33 rfl (lv_at hl 0 rfl) ?_
  refine lv_bipush (v := nI 16) hx hb d_LI_init_34 (by decide +kernel) ?_
  refine xw_newI (N := 16) hx hb (hU _ uw_64) hK 0 rfl hP hD hS hA (by decide +kernel) (by decide +kernel) (by decide) (Nat.le_of_ble_eq_true rfl) (Nat.le_of_ble_eq_true rfl) d_LI_init_36 (fun q_4 H hP hD hS => ?_)
  have hP : va_P D vwCl [(h0, .inr (6, [.ref q_1, .ref q_2, .ref q_3, .null, .null, .null])), (q_2, .inl (cI, 16, .inl (fun _ => 0))), (q_3, .inl (cI, 16, .inl (fun _ => 0))), (q_4, .inl (cI, 16, .inl (fun _ => 0)))] H := hP
  have hD : va_D A [(h0, .inr (6, [.ref q_1, .ref q_2, .ref q_3, .null, .null, .null])), (q_2, .inl (cI, 16, .inl (fun _ => 0))), (q_3, .inl (cI, 16, .inl (fun _ => 0))), (q_4, .inl (cI, 16, .inl (fun _ => 0)))] := hD
  refine W.widen (k := 20) (n := 3264) (Nat.le_of_ble_eq_true rfl) (Nat.le_of_ble_eq_true rfl) ?_
  refine va_putF (D := D) (ci := 6) (v := .ref q_4) (ty := (.array .int)) (C := R_LI) (T := T_LI) (N := 6) hx hb hU iw_LI ty_LI ty_LI_ok nm_LI hown hK hP hD hS 0 rfl rfl 3 (by decide) (hU _ uw_96) (fun _ h9 => h9) rfl hnm rfl (by decide +kernel) (by first | rfl | decide +kernel) (by first | rfl | decide +kernel) (Nat.le_of_ble_eq_true rfl) d_LI_init_38 (fun H locs hP hD hS => ?_)
  have hP : va_P D vwCl [(h0, .inr (6, [.ref q_1, .ref q_2, .ref q_3, .ref q_4, .null, .null])), (q_2, .inl (cI, 16, .inl (fun _ => 0))), (q_3, .inl (cI, 16, .inl (fun _ => 0))), (q_4, .inl (cI, 16, .inl (fun _ => 0)))] H := hP
  have hD : va_D A [(h0, .inr (6, [.ref q_1, .ref q_2, .ref q_3, .ref q_4, .null, .null])), (q_2, .inl (cI, 16, .inl (fun _ => 0))), (q_3, .inl (cI, 16, .inl (fun _ => 0))), (q_4, .inl (cI, 16, .inl (fun _ => 0)))] := hD
  refine lv_aload_n hx hb d_LI_init_41 rfl (lv_at hl 0 rfl) ?_
  refine lv_bipush (v := nI 16) hx hb d_LI_init_42 (by decide +kernel) ?_
  refine xw_newB (N := 16) hx hb (hU _ uw_115) hK 1 rfl hP hD hS hA (by decide +kernel) (by decide +kernel) (by decide) (Nat.le_of_ble_eq_true rfl) (Nat.le_of_ble_eq_true rfl) d_LI_init_44 (fun q_5 H hP hD hS => ?_)
  have hP : va_P D vwCl [(h0, .inr (6, [.ref q_1, .ref q_2, .ref q_3, .ref q_4, .null, .null])), (q_2, .inl (cI, 16, .inl (fun _ => 0))), (q_3, .inl (cI, 16, .inl (fun _ => 0))), (q_4, .inl (cI, 16, .inl (fun _ => 0))), (q_5, .inl (cB, 16, .inl (fun _ => 0)))] H := hP
  have hD : va_D A [(h0, .inr (6, [.ref q_1, .ref q_2, .ref q_3, .ref q_4, .null, .null])), (q_2, .inl (cI, 16, .inl (fun _ => 0))), (q_3, .inl (cI, 16, .inl (fun _ => 0))), (q_4, .inl (cI, 16, .inl (fun _ => 0))), (q_5, .inl (cB, 16, .inl (fun _ => 0)))] := hD
  refine W.widen (k := 21) (n := 3280) (Nat.le_of_ble_eq_true rfl) (Nat.le_of_ble_eq_true rfl) ?_
  refine va_putF (D := D) (ci := 6) (v := .ref q_5) (ty := (.array .boolean)) (C := R_LI) (T := T_LI) (N := 6) hx hb hU iw_LI ty_LI ty_LI_ok nm_LI hown hK hP hD hS 0 rfl rfl 4 (by decide) (hU _ uw_98) (fun _ h9 => h9) rfl hnm rfl (by decide +kernel) (by first | rfl | decide +kernel) (by first | rfl | decide +kernel) (Nat.le_of_ble_eq_true rfl) d_LI_init_46 (fun H locs hP hD hS => ?_)
  have hP : va_P D vwCl [(h0, .inr (6, [.ref q_1, .ref q_2, .ref q_3, .ref q_4, .ref q_5, .null])), (q_2, .inl (cI, 16, .inl (fun _ => 0))), (q_3, .inl (cI, 16, .inl (fun _ => 0))), (q_4, .inl (cI, 16, .inl (fun _ => 0))), (q_5, .inl (cB, 16, .inl (fun _ => 0)))] H := hP
  have hD : va_D A [(h0, .inr (6, [.ref q_1, .ref q_2, .ref q_3, .ref q_4, .ref q_5, .null])), (q_2, .inl (cI, 16, .inl (fun _ => 0))), (q_3, .inl (cI, 16, .inl (fun _ => 0))), (q_4, .inl (cI, 16, .inl (fun _ => 0))), (q_5, .inl (cB, 16, .inl (fun _ => 0)))] := hD
  refine lv_aload_n hx hb d_LI_init_49 rfl (lv_at hl 0 rfl) ?_
  refine lv_bipush (v := nI 16) hx hb d_LI_init_50 (by decide +kernel) ?_
  refine xw_newI (N := 16) hx hb (hU _ uw_64) hK 0 rfl hP hD hS hA (by decide +kernel) (by decide +kernel) (by decide) (Nat.le_of_ble_eq_true rfl) (Nat.le_of_ble_eq_true rfl) d_LI_init_52 (fun q_6 H hP hD hS => ?_)
  have hP : va_P D vwCl [(h0, .inr (6, [.ref q_1, .ref q_2, .ref q_3, .ref q_4, .ref q_5, .null])), (q_2, .inl (cI, 16, .inl (fun _ => 0))), (q_3, .inl (cI, 16, .inl (fun _ => 0))), (q_4, .inl (cI, 16, .inl (fun _ => 0))), (q_5, .inl (cB, 16, .inl (fun _ => 0))), (q_6, .inl (cI, 16, .inl (fun _ => 0)))] H := hP
  have hD : va_D A [(h0, .inr (6, [.ref q_1, .ref q_2, .ref q_3, .ref q_4, .ref q_5, .null])), (q_2, .inl (cI, 16, .inl (fun _ => 0))), (q_3, .inl (cI, 16, .inl (fun _ => 0))), (q_4, .inl (cI, 16, .inl (fun _ => 0))), (q_5, .inl (cB, 16, .inl (fun _ => 0))), (q_6, .inl (cI, 16, .inl (fun _ => 0)))] := hD
  refine W.widen (k := 22) (n := 3296) (Nat.le_of_ble_eq_true rfl) (Nat.le_of_ble_eq_true rfl) ?_
  refine va_putF (D := D) (ci := 6) (v := .ref q_6) (ty := (.array .int)) (C := R_LI) (T := T_LI) (N := 6) hx hb hU iw_LI ty_LI ty_LI_ok nm_LI hown hK hP hD hS 0 rfl rfl 5 (by decide) (hU _ uw_100) (fun _ h9 => h9) rfl hnm rfl (by decide +kernel) (by first | rfl | decide +kernel) (by first | rfl | decide +kernel) (Nat.le_of_ble_eq_true rfl) d_LI_init_54 (fun H locs hP hD hS => ?_)
  have hP : va_P D vwCl [(h0, .inr (6, [.ref q_1, .ref q_2, .ref q_3, .ref q_4, .ref q_5, .ref q_6])), (q_2, .inl (cI, 16, .inl (fun _ => 0))), (q_3, .inl (cI, 16, .inl (fun _ => 0))), (q_4, .inl (cI, 16, .inl (fun _ => 0))), (q_5, .inl (cB, 16, .inl (fun _ => 0))), (q_6, .inl (cI, 16, .inl (fun _ => 0)))] H := hP
  have hD : va_D A [(h0, .inr (6, [.ref q_1, .ref q_2, .ref q_3, .ref q_4, .ref q_5, .ref q_6])), (q_2, .inl (cI, 16, .inl (fun _ => 0))), (q_3, .inl (cI, 16, .inl (fun _ => 0))), (q_4, .inl (cI, 16, .inl (fun _ => 0))), (q_5, .inl (cB, 16, .inl (fun _ => 0))), (q_6, .inl (cI, 16, .inl (fun _ => 0)))] := hD
  have hP9 := xs_P_sub (w := []) hP [] rfl
  have hD9 := hD.sub (ws' := []) [] (by decide) rfl
  exact xw_vret () hx hb hr hlocks d_LI_init_57 (rfl) (trivial) hAe hP9 hD9 hS (Nat.le_of_ble_eq_true rfl) (Nat.le_of_ble_eq_true rfl)
set_option maxHeartbeats 4000000 in
set_option maxRecDepth 100000 in
/-- new Crew -/
theorem c_CR_init (l : Launch) (D : va_G) (cI cB cL : ClassId) (h0 : Nat) (wk : Nat) (hw0 : 0 < wk) (hw : wk ≤ 16) : xG (σ := Nat × Nat × Nat × Nat × Nat) l y_CR_init w_CR_init ({ frames := 1, cells := 5, slots := 264, locals := 22  } : Room) D vwCl (xs_tys cI cB cL) [.ref h0, .int (nI wk)] [(h0, .inr (4, [.int (nI 0), .null, .null, .null, .null, .null, .int (nI 0), .int (nI 0)]))] (fun (cf, cl, ct, ck, cs) => True) (fun (cf, cl, ct, ck, cs) => none) (fun (cf, cl, ct, ck, cs) => [(h0, .inr (4, [.int (nI wk), .ref cf, .ref cl, .ref ct, .ref ck, .ref cs, .int (nI wk), .int (nI 0)])), (cl, .inl (cB, 16, .inl (fun _ => nI 1))), (ct, .inl (cI, 16, .inl (fun _ => 0))), (ck, .inl (cI, 16, .inl (fun _ => 0))), (cs, .inl (cI, 16, .inl (fun _ => 0)))]) := by
  refine xG.of b_CR_init 3 (none) (by decide +kernel) rfl (Nat.le_of_ble_eq_true rfl) ?_
  intro p e s m below meth c A ls hAe C0 hP hD hS hl
  obtain ⟨hx, hb, hr, hml, hown, hlocks, hts, hnm, hN, hK, hA⟩ := C0
  have hU : ∀ w ∈ xU, w.before #[.ref h0, .int (nI wk)] s = true := fun w h => hts w (List.mem_cons_of_mem _ h)
  have hl : lv_has ls 3 [(0, .ref h0), (1, .int (nI wk))] := hl
  refine lv_aload_n hx hb d_CR_init_0 rfl (lv_at hl 0 rfl) ?_
  refine W.objInit hx hb hown (hU _ uw_189) (hU _ uw_27) (hU _ uw_28) rfl (by rw [hml]; exact hl.1) rfl d_CR_init_1 (Nat.le_of_ble_eq_true rfl) (Nat.le_of_ble_eq_true rfl) ?_
  refine W.eq (g2 := F0 m 4 ls []) rfl ?_
  refine lv_aload_n hx hb d_CR_init_4 rfl (lv_at hl 0 rfl) ?_
  refine lv_sipush (v := nI 200) hx hb d_CR_init_5 (by decide +kernel) ?_
  refine xw_newI (N := 200) hx hb (hU _ uw_64) hK 0 rfl hP hD hS hA (by decide +kernel) (by decide +kernel) (by decide) (Nat.le_of_ble_eq_true rfl) (Nat.le_of_ble_eq_true rfl) d_CR_init_8 (fun q_1 H hP hD hS => ?_)
  have hP : va_P D vwCl [(h0, .inr (4, [.int (nI 0), .null, .null, .null, .null, .null, .int (nI 0), .int (nI 0)])), (q_1, .inl (cI, 200, .inl (fun _ => 0)))] H := hP
  have hD : va_D A [(h0, .inr (4, [.int (nI 0), .null, .null, .null, .null, .null, .int (nI 0), .int (nI 0)])), (q_1, .inl (cI, 200, .inl (fun _ => 0)))] := hD
  refine W.widen (k := 1) (n := 200) (Nat.le_of_ble_eq_true rfl) (Nat.le_of_ble_eq_true rfl) ?_
  refine va_putF (D := D) (ci := 4) (v := .ref q_1) (ty := (.array .int)) (C := R_CR) (T := T_CR) (N := 8) hx hb hU iw_CR ty_CR ty_CR_ok nm_CR hown hK hP hD hS 0 rfl rfl 1 (by decide) (hU _ uw_205) (fun _ h9 => h9) rfl hnm rfl (by decide +kernel) (by first | rfl | decide +kernel) (by first | rfl | decide +kernel) (Nat.le_of_ble_eq_true rfl) d_CR_init_10 (fun H locs hP hD hS => ?_)
  have hP : va_P D vwCl [(h0, .inr (4, [.int (nI 0), .ref q_1, .null, .null, .null, .null, .int (nI 0), .int (nI 0)])), (q_1, .inl (cI, 200, .inl (fun _ => 0)))] H := hP
  have hD : va_D A [(h0, .inr (4, [.int (nI 0), .ref q_1, .null, .null, .null, .null, .int (nI 0), .int (nI 0)])), (q_1, .inl (cI, 200, .inl (fun _ => 0)))] := hD
  refine lv_aload_n hx hb d_CR_init_13 rfl (lv_at hl 0 rfl) ?_
  refine lv_bipush (v := nI 16) hx hb d_CR_init_14 (by decide +kernel) ?_
  refine xw_newB (N := 16) hx hb (hU _ uw_115) hK 1 rfl hP hD hS hA (by decide +kernel) (by decide +kernel) (by decide) (Nat.le_of_ble_eq_true rfl) (Nat.le_of_ble_eq_true rfl) d_CR_init_16 (fun q_2 H hP hD hS => ?_)
  have hP : va_P D vwCl [(h0, .inr (4, [.int (nI 0), .ref q_1, .null, .null, .null, .null, .int (nI 0), .int (nI 0)])), (q_1, .inl (cI, 200, .inl (fun _ => 0))), (q_2, .inl (cB, 16, .inl (fun _ => 0)))] H := hP
  have hD : va_D A [(h0, .inr (4, [.int (nI 0), .ref q_1, .null, .null, .null, .null, .int (nI 0), .int (nI 0)])), (q_1, .inl (cI, 200, .inl (fun _ => 0))), (q_2, .inl (cB, 16, .inl (fun _ => 0)))] := hD
  refine W.widen (k := 2) (n := 216) (Nat.le_of_ble_eq_true rfl) (Nat.le_of_ble_eq_true rfl) ?_
  refine va_putF (D := D) (ci := 4) (v := .ref q_2) (ty := (.array .boolean)) (C := R_CR) (T := T_CR) (N := 8) hx hb hU iw_CR ty_CR ty_CR_ok nm_CR hown hK hP hD hS 0 rfl rfl 2 (by decide) (hU _ uw_206) (fun _ h9 => h9) rfl hnm rfl (by decide +kernel) (by first | rfl | decide +kernel) (by first | rfl | decide +kernel) (Nat.le_of_ble_eq_true rfl) d_CR_init_18 (fun H locs hP hD hS => ?_)
  have hP : va_P D vwCl [(h0, .inr (4, [.int (nI 0), .ref q_1, .ref q_2, .null, .null, .null, .int (nI 0), .int (nI 0)])), (q_1, .inl (cI, 200, .inl (fun _ => 0))), (q_2, .inl (cB, 16, .inl (fun _ => 0)))] H := hP
  have hD : va_D A [(h0, .inr (4, [.int (nI 0), .ref q_1, .ref q_2, .null, .null, .null, .int (nI 0), .int (nI 0)])), (q_1, .inl (cI, 200, .inl (fun _ => 0))), (q_2, .inl (cB, 16, .inl (fun _ => 0)))] := hD
  refine lv_aload_n hx hb d_CR_init_21 rfl (lv_at hl 0 rfl) ?_
  refine lv_bipush (v := nI 16) hx hb d_CR_init_22 (by decide +kernel) ?_
  refine xw_newI (N := 16) hx hb (hU _ uw_64) hK 0 rfl hP hD hS hA (by decide +kernel) (by decide +kernel) (by decide) (Nat.le_of_ble_eq_true rfl) (Nat.le_of_ble_eq_true rfl) d_CR_init_24 (fun q_3 H hP hD hS => ?_)
  have hP : va_P D vwCl [(h0, .inr (4, [.int (nI 0), .ref q_1, .ref q_2, .null, .null, .null, .int (nI 0), .int (nI 0)])), (q_1, .inl (cI, 200, .inl (fun _ => 0))), (q_2, .inl (cB, 16, .inl (fun _ => 0))), (q_3, .inl (cI, 16, .inl (fun _ => 0)))] H := hP
  have hD : va_D A [(h0, .inr (4, [.int (nI 0), .ref q_1, .ref q_2, .null, .null, .null, .int (nI 0), .int (nI 0)])), (q_1, .inl (cI, 200, .inl (fun _ => 0))), (q_2, .inl (cB, 16, .inl (fun _ => 0))), (q_3, .inl (cI, 16, .inl (fun _ => 0)))] := hD
  refine W.widen (k := 3) (n := 232) (Nat.le_of_ble_eq_true rfl) (Nat.le_of_ble_eq_true rfl) ?_
  refine va_putF (D := D) (ci := 4) (v := .ref q_3) (ty := (.array .int)) (C := R_CR) (T := T_CR) (N := 8) hx hb hU iw_CR ty_CR ty_CR_ok nm_CR hown hK hP hD hS 0 rfl rfl 3 (by decide) (hU _ uw_208) (fun _ h9 => h9) rfl hnm rfl (by decide +kernel) (by first | rfl | decide +kernel) (by first | rfl | decide +kernel) (Nat.le_of_ble_eq_true rfl) d_CR_init_26 (fun H locs hP hD hS => ?_)
  have hP : va_P D vwCl [(h0, .inr (4, [.int (nI 0), .ref q_1, .ref q_2, .ref q_3, .null, .null, .int (nI 0), .int (nI 0)])), (q_1, .inl (cI, 200, .inl (fun _ => 0))), (q_2, .inl (cB, 16, .inl (fun _ => 0))), (q_3, .inl (cI, 16, .inl (fun _ => 0)))] H := hP
  have hD : va_D A [(h0, .inr (4, [.int (nI 0), .ref q_1, .ref q_2, .ref q_3, .null, .null, .int (nI 0), .int (nI 0)])), (q_1, .inl (cI, 200, .inl (fun _ => 0))), (q_2, .inl (cB, 16, .inl (fun _ => 0))), (q_3, .inl (cI, 16, .inl (fun _ => 0)))] := hD
  refine lv_aload_n hx hb d_CR_init_29 rfl (lv_at hl 0 rfl) ?_
  refine lv_bipush (v := nI 16) hx hb d_CR_init_30 (by decide +kernel) ?_
  refine xw_newI (N := 16) hx hb (hU _ uw_64) hK 0 rfl hP hD hS hA (by decide +kernel) (by decide +kernel) (by decide) (Nat.le_of_ble_eq_true rfl) (Nat.le_of_ble_eq_true rfl) d_CR_init_32 (fun q_4 H hP hD hS => ?_)
  have hP : va_P D vwCl [(h0, .inr (4, [.int (nI 0), .ref q_1, .ref q_2, .ref q_3, .null, .null, .int (nI 0), .int (nI 0)])), (q_1, .inl (cI, 200, .inl (fun _ => 0))), (q_2, .inl (cB, 16, .inl (fun _ => 0))), (q_3, .inl (cI, 16, .inl (fun _ => 0))), (q_4, .inl (cI, 16, .inl (fun _ => 0)))] H := hP
  have hD : va_D A [(h0, .inr (4, [.int (nI 0), .ref q_1, .ref q_2, .ref q_3, .null, .null, .int (nI 0), .int (nI 0)])), (q_1, .inl (cI, 200, .inl (fun _ => 0))), (q_2, .inl (cB, 16, .inl (fun _ => 0))), (q_3, .inl (cI, 16, .inl (fun _ => 0))), (q_4, .inl (cI, 16, .inl (fun _ => 0)))] := hD
  refine W.widen (k := 4) (n := 248) (Nat.le_of_ble_eq_true rfl) (Nat.le_of_ble_eq_true rfl) ?_
  refine va_putF (D := D) (ci := 4) (v := .ref q_4) (ty := (.array .int)) (C := R_CR) (T := T_CR) (N := 8) hx hb hU iw_CR ty_CR ty_CR_ok nm_CR hown hK hP hD hS 0 rfl rfl 4 (by decide) (hU _ uw_210) (fun _ h9 => h9) rfl hnm rfl (by decide +kernel) (by first | rfl | decide +kernel) (by first | rfl | decide +kernel) (Nat.le_of_ble_eq_true rfl) d_CR_init_34 (fun H locs hP hD hS => ?_)
  have hP : va_P D vwCl [(h0, .inr (4, [.int (nI 0), .ref q_1, .ref q_2, .ref q_3, .ref q_4, .null, .int (nI 0), .int (nI 0)])), (q_1, .inl (cI, 200, .inl (fun _ => 0))), (q_2, .inl (cB, 16, .inl (fun _ => 0))), (q_3, .inl (cI, 16, .inl (fun _ => 0))), (q_4, .inl (cI, 16, .inl (fun _ => 0)))] H := hP
  have hD : va_D A [(h0, .inr (4, [.int (nI 0), .ref q_1, .ref q_2, .ref q_3, .ref q_4, .null, .int (nI 0), .int (nI 0)])), (q_1, .inl (cI, 200, .inl (fun _ => 0))), (q_2, .inl (cB, 16, .inl (fun _ => 0))), (q_3, .inl (cI, 16, .inl (fun _ => 0))), (q_4, .inl (cI, 16, .inl (fun _ => 0)))] := hD
  refine lv_aload_n hx hb d_CR_init_37 rfl (lv_at hl 0 rfl) ?_
  refine lv_bipush (v := nI 16) hx hb d_CR_init_38 (by decide +kernel) ?_
  refine xw_newI (N := 16) hx hb (hU _ uw_64) hK 0 rfl hP hD hS hA (by decide +kernel) (by decide +kernel) (by decide) (Nat.le_of_ble_eq_true rfl) (Nat.le_of_ble_eq_true rfl) d_CR_init_40 (fun q_5 H hP hD hS => ?_)
  have hP : va_P D vwCl [(h0, .inr (4, [.int (nI 0), .ref q_1, .ref q_2, .ref q_3, .ref q_4, .null, .int (nI 0), .int (nI 0)])), (q_1, .inl (cI, 200, .inl (fun _ => 0))), (q_2, .inl (cB, 16, .inl (fun _ => 0))), (q_3, .inl (cI, 16, .inl (fun _ => 0))), (q_4, .inl (cI, 16, .inl (fun _ => 0))), (q_5, .inl (cI, 16, .inl (fun _ => 0)))] H := hP
  have hD : va_D A [(h0, .inr (4, [.int (nI 0), .ref q_1, .ref q_2, .ref q_3, .ref q_4, .null, .int (nI 0), .int (nI 0)])), (q_1, .inl (cI, 200, .inl (fun _ => 0))), (q_2, .inl (cB, 16, .inl (fun _ => 0))), (q_3, .inl (cI, 16, .inl (fun _ => 0))), (q_4, .inl (cI, 16, .inl (fun _ => 0))), (q_5, .inl (cI, 16, .inl (fun _ => 0)))] := hD
  refine W.widen (k := 5) (n := 264) (Nat.le_of_ble_eq_true rfl) (Nat.le_of_ble_eq_true rfl) ?_
  refine va_putF (D := D) (ci := 4) (v := .ref q_5) (ty := (.array .int)) (C := R_CR) (T := T_CR) (N := 8) hx hb hU iw_CR ty_CR ty_CR_ok nm_CR hown hK hP hD hS 0 rfl rfl 5 (by decide) (hU _ uw_213) (fun _ h9 => h9) rfl hnm rfl (by decide +kernel) (by first | rfl | decide +kernel) (by first | rfl | decide +kernel) (Nat.le_of_ble_eq_true rfl) d_CR_init_42 (fun H locs hP hD hS => ?_)
  have hP : va_P D vwCl [(h0, .inr (4, [.int (nI 0), .ref q_1, .ref q_2, .ref q_3, .ref q_4, .ref q_5, .int (nI 0), .int (nI 0)])), (q_1, .inl (cI, 200, .inl (fun _ => 0))), (q_2, .inl (cB, 16, .inl (fun _ => 0))), (q_3, .inl (cI, 16, .inl (fun _ => 0))), (q_4, .inl (cI, 16, .inl (fun _ => 0))), (q_5, .inl (cI, 16, .inl (fun _ => 0)))] H := hP
  have hD : va_D A [(h0, .inr (4, [.int (nI 0), .ref q_1, .ref q_2, .ref q_3, .ref q_4, .ref q_5, .int (nI 0), .int (nI 0)])), (q_1, .inl (cI, 200, .inl (fun _ => 0))), (q_2, .inl (cB, 16, .inl (fun _ => 0))), (q_3, .inl (cI, 16, .inl (fun _ => 0))), (q_4, .inl (cI, 16, .inl (fun _ => 0))), (q_5, .inl (cI, 16, .inl (fun _ => 0)))] := hD
  refine lv_aload_n hx hb d_CR_init_45 rfl (lv_at hl 0 rfl) ?_
  refine lv_iload_n hx hb d_CR_init_46 rfl (lv_at hl 1 rfl) ?_
  refine va_putF (D := D) (ci := 4) (v := .int (nI wk)) (ty := .int) (C := R_CR) (T := T_CR) (N := 8) hx hb hU iw_CR ty_CR ty_CR_ok nm_CR hown hK hP hD hS 0 rfl rfl 0 (by decide) (hU _ uw_202) (fun _ h9 => h9) rfl hnm rfl (by decide +kernel) (by first | rfl | decide +kernel) (by first | rfl | decide +kernel) (Nat.le_of_ble_eq_true rfl) d_CR_init_47 (fun H locs hP hD hS => ?_)
  have hP : va_P D vwCl [(h0, .inr (4, [.int (nI wk), .ref q_1, .ref q_2, .ref q_3, .ref q_4, .ref q_5, .int (nI 0), .int (nI 0)])), (q_1, .inl (cI, 200, .inl (fun _ => 0))), (q_2, .inl (cB, 16, .inl (fun _ => 0))), (q_3, .inl (cI, 16, .inl (fun _ => 0))), (q_4, .inl (cI, 16, .inl (fun _ => 0))), (q_5, .inl (cI, 16, .inl (fun _ => 0)))] H := hP
  have hD : va_D A [(h0, .inr (4, [.int (nI wk), .ref q_1, .ref q_2, .ref q_3, .ref q_4, .ref q_5, .int (nI 0), .int (nI 0)])), (q_1, .inl (cI, 200, .inl (fun _ => 0))), (q_2, .inl (cB, 16, .inl (fun _ => 0))), (q_3, .inl (cI, 16, .inl (fun _ => 0))), (q_4, .inl (cI, 16, .inl (fun _ => 0))), (q_5, .inl (cI, 16, .inl (fun _ => 0)))] := hD
  refine lv_aload_n hx hb d_CR_init_50 rfl (lv_at hl 0 rfl) ?_
  refine lv_iload_n hx hb d_CR_init_51 rfl (lv_at hl 1 rfl) ?_
  refine va_put (D := D) (ci := 4) (v := .int (nI wk)) (ty := .int) (C := R_CR) (T := T_CR) (N := 8) hx hb hU iw_CR ty_CR ty_CR_ok nm_CR hown hK hP hD hS 0 rfl rfl 6 (by decide) (hU _ uw_216) (fun _ h9 => h9) rfl (by decide +kernel) (by first | rfl | decide +kernel) (by first | rfl | decide +kernel) (Nat.le_of_ble_eq_true rfl) d_CR_init_52 (fun H locs hP hD hS => ?_)
  have hP : va_P D vwCl [(h0, .inr (4, [.int (nI wk), .ref q_1, .ref q_2, .ref q_3, .ref q_4, .ref q_5, .int (nI wk), .int (nI 0)])), (q_1, .inl (cI, 200, .inl (fun _ => 0))), (q_2, .inl (cB, 16, .inl (fun _ => 0))), (q_3, .inl (cI, 16, .inl (fun _ => 0))), (q_4, .inl (cI, 16, .inl (fun _ => 0))), (q_5, .inl (cI, 16, .inl (fun _ => 0)))] H := hP
  have hD : va_D A [(h0, .inr (4, [.int (nI wk), .ref q_1, .ref q_2, .ref q_3, .ref q_4, .ref q_5, .int (nI wk), .int (nI 0)])), (q_1, .inl (cI, 200, .inl (fun _ => 0))), (q_2, .inl (cB, 16, .inl (fun _ => 0))), (q_3, .inl (cI, 16, .inl (fun _ => 0))), (q_4, .inl (cI, 16, .inl (fun _ => 0))), (q_5, .inl (cI, 16, .inl (fun _ => 0)))] := hD
  refine lv_aload_n hx hb d_CR_init_55 rfl (lv_at hl 0 rfl) ?_
  refine va_get (D := D) (ci := 4) (v := .ref q_2) (C := R_CR) (T := T_CR) (N := 8) hx hb hU iw_CR hown hK hP 0 rfl rfl 2 (by decide) (hU _ uw_206) (fun _ h9 => h9) rfl d_CR_init_56 ?_
  refine lv_iconst (v := nI 1) hx hb d_CR_init_59 (by decide +kernel) ?_
  refine xw_callSN (wr := [(h0, .inr (4, [.int (nI wk), .ref q_1, .ref q_2, .ref q_3, .ref q_4, .ref q_5, .int (nI wk), .int (nI 0)])), (q_1, .inl (cI, 200, .inl (fun _ => 0))), (q_3, .inl (cI, 16, .inl (fun _ => 0))), (q_4, .inl (cI, 16, .inl (fun _ => 0))), (q_5, .inl (cI, 16, .inl (fun _ => 0)))]) [.ref q_2, .int (nI 1)] (c_fillFlags l D cI cB cL q_2 16 (fun _ => 0) (nI 1) (by decide) (by first | exact Or.inl rfl | exact Or.inr rfl)) ⟨hx, hb, hml, hown, hU⟩ ⟨va_cnB 2 hU (xs_good uw_192) rfl rfl rfl (hN _ nw_190) (hU _ uw_1) (by decide +kernel) ⟨Nat.le_of_ble_eq_true rfl, Nat.le_of_ble_eq_true rfl⟩, hU _ uw_191, trivial⟩ rfl hl.1 rfl (Nat.le_of_ble_eq_true rfl) d_CR_init_60 ⟨Nat.le_of_ble_eq_true rfl, Nat.le_of_ble_eq_true rfl⟩ [2] [0, 1, 3, 4, 5] rfl rfl (by decide) (by decide) (by decide) hN hK hP hD hS hA (fun u H locs hf hP hD hS => ?_)
  have hP : va_P D vwCl [(h0, .inr (4, [.int (nI wk), .ref q_1, .ref q_2, .ref q_3, .ref q_4, .ref q_5, .int (nI wk), .int (nI 0)])), (q_1, .inl (cI, 200, .inl (fun _ => 0))), (q_3, .inl (cI, 16, .inl (fun _ => 0))), (q_4, .inl (cI, 16, .inl (fun _ => 0))), (q_5, .inl (cI, 16, .inl (fun _ => 0))), (q_2, .inl (cB, 16, .inl (fun _ => (nI 1))))] H := hP
  have hD : va_D A [(h0, .inr (4, [.int (nI wk), .ref q_1, .ref q_2, .ref q_3, .ref q_4, .ref q_5, .int (nI wk), .int (nI 0)])), (q_1, .inl (cI, 200, .inl (fun _ => 0))), (q_3, .inl (cI, 16, .inl (fun _ => 0))), (q_4, .inl (cI, 16, .inl (fun _ => 0))), (q_5, .inl (cI, 16, .inl (fun _ => 0))), (q_2, .inl (cB, 16, .inl (fun _ => (nI 1))))] := hD
  refine W.widen (k := 5) (n := 264) (Nat.le_of_ble_eq_true rfl) (Nat.le_of_ble_eq_true rfl) ?_
  refine W.eq (g2 := F0 m 63 ls []) rfl ?_
  refine lv_iconst (v := nI 0) hx hb d_CR_init_63 (by decide +kernel) ?_
  refine lv_istore_n (lv' := [(2, .int (nI 0)), (0, .ref h0), (1, .int (nI wk))]) hx hb d_CR_init_64 rfl hl (by decide) rfl (fun ls hl => ?_)
  refine W.widen (k := 5) (n := 264) (Nat.le_of_ble_eq_true rfl) (Nat.le_of_ble_eq_true rfl) ?_
  have lp_65 : ∀ (fu : Nat) (i : Nat) (f9 : Nat → Int32) (H : Heap) (locs : List Loc) (ls : Array Slot), (i + fu = 200) → va_P D vwCl [(h0, .inr (4, [.int (nI wk), .ref q_1, .ref q_2, .ref q_3, .ref q_4, .ref q_5, .int (nI wk), .int (nI 0)])), (q_1, .inl (cI, 200, .inl f9)), (q_3, .inl (cI, 16, .inl (fun _ => 0))), (q_4, .inl (cI, 16, .inl (fun _ => 0))), (q_5, .inl (cI, 16, .inl (fun _ => 0))), (q_2, .inl (cB, 16, .inl (fun _ => (nI 1))))] H → va_D A [(h0, .inr (4, [.int (nI wk), .ref q_1, .ref q_2, .ref q_3, .ref q_4, .ref q_5, .int (nI wk), .int (nI 0)])), (q_1, .inl (cI, 200, .inl f9)), (q_3, .inl (cI, 16, .inl (fun _ => 0))), (q_4, .inl (cI, 16, .inl (fun _ => 0))), (q_5, .inl (cI, 16, .inl (fun _ => 0))), (q_2, .inl (cB, 16, .inl (fun _ => (nI 1))))] → va_S A s.heap H locs → lv_has ls 3 [(2, .int (nI i)), (0, .ref h0), (1, .int (nI wk))] → W p l e (headSpec w_CR_init ({ frames := 1, cells := 5, slots := 264, locals := 22  } : Room)).room s m #[.ref h0, .int (nI wk)] below meth c H locs 5 264 (xZ (σ := Nat × Nat × Nat × Nat × Nat) below #[.ref h0, .int (nI wk)] s D vwCl [(h0, .inr (4, [.int (nI 0), .null, .null, .null, .null, .null, .int (nI 0), .int (nI 0)]))] s.heap.size ({ frames := 1, cells := 5, slots := 264, locals := 22  } : Room).cells ({ frames := 1, cells := 5, slots := 264, locals := 22  } : Room).slots (fun (cf, cl, ct, ck, cs) => True) (fun (cf, cl, ct, ck, cs) => none) (fun (cf, cl, ct, ck, cs) => [(h0, .inr (4, [.int (nI wk), .ref cf, .ref cl, .ref ct, .ref ck, .ref cs, .int (nI wk), .int (nI 0)])), (cl, .inl (cB, 16, .inl (fun _ => nI 1))), (ct, .inl (cI, 16, .inl (fun _ => 0))), (ck, .inl (cI, 16, .inl (fun _ => 0))), (cs, .inl (cI, 16, .inl (fun _ => 0)))])) (F0 m 65 ls []) := by
    intro fu
    induction fu with
    | zero =>
      intro i f9 H locs ls hi hP hD hS hl
      refine lv_iload_n hx hb d_CR_init_65 rfl (lv_at hl 0 rfl) ?_
      refine lv_sipush (v := nI 200) hx hb d_CR_init_66 (by decide +kernel) ?_
      refine lv_icmp_ge (tgt := 92) hx hb d_CR_init_69 (by decide) (fun c_69 => ?_) (fun c_69 => ?_)
      · have hP9 := xs_P_sub (w := [(h0, .inr (4, [.int (nI wk), .ref q_1, .ref q_2, .ref q_3, .ref q_4, .ref q_5, .int (nI wk), .int (nI 0)])), (q_2, .inl (cB, 16, .inl (fun _ => (nI 1)))), (q_3, .inl (cI, 16, .inl (fun _ => 0))), (q_4, .inl (cI, 16, .inl (fun _ => 0))), (q_5, .inl (cI, 16, .inl (fun _ => 0)))]) hP [0, 5, 2, 3, 4] rfl
        have hD9 := hD.sub (ws' := [(h0, .inr (4, [.int (nI wk), .ref q_1, .ref q_2, .ref q_3, .ref q_4, .ref q_5, .int (nI wk), .int (nI 0)])), (q_2, .inl (cB, 16, .inl (fun _ => (nI 1)))), (q_3, .inl (cI, 16, .inl (fun _ => 0))), (q_4, .inl (cI, 16, .inl (fun _ => 0))), (q_5, .inl (cI, 16, .inl (fun _ => 0)))]) [0, 5, 2, 3, 4] (by decide) rfl
        exact xw_vret (q_1, q_2, q_3, q_4, q_5) hx hb hr hlocks d_CR_init_92 (rfl) (trivial) hAe hP9 hD9 hS (Nat.le_of_ble_eq_true rfl) (Nat.le_of_ble_eq_true rfl)
      · exact absurd (nI_le (a := 200) (b := i) (by omega) (by omega)) c_69
    | succ fu ih =>
      intro i f9 H locs ls hi hP hD hS hl
      refine lv_iload_n hx hb d_CR_init_65 rfl (lv_at hl 0 rfl) ?_
      refine lv_sipush (v := nI 200) hx hb d_CR_init_66 (by decide +kernel) ?_
      refine lv_icmp_ge (tgt := 92) hx hb d_CR_init_69 (by decide) (fun c_69 => ?_) (fun c_69 => ?_)
      · exact absurd c_69 (nI_ge (by omega) (by omega))
      · refine lv_aload_n hx hb d_CR_init_72 rfl (lv_at hl 1 rfl) ?_
        refine va_get (D := D) (ci := 4) (v := .ref q_1) (C := R_CR) (T := T_CR) (N := 8) hx hb hU iw_CR hown hK hP 0 rfl rfl 1 (by decide) (hU _ uw_205) (fun _ h9 => h9) rfl d_CR_init_73 ?_
        refine lv_iload_n hx hb d_CR_init_76 rfl (lv_at hl 0 rfl) ?_
        refine lv_iload_n hx hb d_CR_init_77 rfl (lv_at hl 2 rfl) ?_
        refine lv_iload_n hx hb d_CR_init_78 rfl (lv_at hl 0 rfl) ?_
        refine xw_callSN (wr := [(h0, .inr (4, [.int (nI wk), .ref q_1, .ref q_2, .ref q_3, .ref q_4, .ref q_5, .int (nI wk), .int (nI 0)])), (q_1, .inl (cI, 200, .inl f9)), (q_3, .inl (cI, 16, .inl (fun _ => 0))), (q_4, .inl (cI, 16, .inl (fun _ => 0))), (q_5, .inl (cI, 16, .inl (fun _ => 0))), (q_2, .inl (cB, 16, .inl (fun _ => (nI 1))))]) [.int (nI i)] (c_numberBehind l D cI cB cL (nI i)) ⟨hx, hb, hml, hown, hU⟩ ⟨va_cnB 1 hU (xs_good uw_195) rfl rfl rfl (hN _ nw_193) (hU _ uw_1) (by decide +kernel) ⟨Nat.le_of_ble_eq_true rfl, Nat.le_of_ble_eq_true rfl⟩, hU _ uw_194, trivial⟩ rfl hl.1 rfl (Nat.le_of_ble_eq_true rfl) d_CR_init_79 ⟨Nat.le_of_ble_eq_true rfl, Nat.le_of_ble_eq_true rfl⟩ [] [0, 1, 2, 3, 4, 5] rfl rfl (by decide) (by decide) (by decide) hN hK hP hD hS hA (fun u H locs hf hP hD hS => ?_)
        have hP : va_P D vwCl [(h0, .inr (4, [.int (nI wk), .ref q_1, .ref q_2, .ref q_3, .ref q_4, .ref q_5, .int (nI wk), .int (nI 0)])), (q_1, .inl (cI, 200, .inl f9)), (q_3, .inl (cI, 16, .inl (fun _ => 0))), (q_4, .inl (cI, 16, .inl (fun _ => 0))), (q_5, .inl (cI, 16, .inl (fun _ => 0))), (q_2, .inl (cB, 16, .inl (fun _ => (nI 1))))] H := hP
        have hD : va_D A [(h0, .inr (4, [.int (nI wk), .ref q_1, .ref q_2, .ref q_3, .ref q_4, .ref q_5, .int (nI wk), .int (nI 0)])), (q_1, .inl (cI, 200, .inl f9)), (q_3, .inl (cI, 16, .inl (fun _ => 0))), (q_4, .inl (cI, 16, .inl (fun _ => 0))), (q_5, .inl (cI, 16, .inl (fun _ => 0))), (q_2, .inl (cB, 16, .inl (fun _ => (nI 1))))] := hD
        refine W.widen (k := 5) (n := 264) (Nat.le_of_ble_eq_true rfl) (Nat.le_of_ble_eq_true rfl) ?_
        refine W.eq (g2 := F0 m 82 ls [.int ((nI 1103515245 * (nI i) + nI 12345) &&& nI 2147483647), .int (nI wk), .int (nI i), .ref q_1]) rfl ?_
        refine xw_callSN (wr := [(h0, .inr (4, [.int (nI wk), .ref q_1, .ref q_2, .ref q_3, .ref q_4, .ref q_5, .int (nI wk), .int (nI 0)])), (q_1, .inl (cI, 200, .inl f9)), (q_3, .inl (cI, 16, .inl (fun _ => 0))), (q_4, .inl (cI, 16, .inl (fun _ => 0))), (q_5, .inl (cI, 16, .inl (fun _ => 0))), (q_2, .inl (cB, 16, .inl (fun _ => (nI 1))))]) [.int (nI wk), .int ((nI 1103515245 * (nI i) + nI 12345) &&& nI 2147483647)] (c_oneOf l D cI cB cL wk ((nI 1103515245 * (nI i) + nI 12345) &&& nI 2147483647) (by omega) (by omega)) ⟨hx, hb, hml, hown, hU⟩ ⟨va_cnB 2 hU (xs_good uw_200) rfl rfl rfl (hN _ nw_198) (hU _ uw_1) (by decide +kernel) ⟨Nat.le_of_ble_eq_true rfl, Nat.le_of_ble_eq_true rfl⟩, hU _ uw_199, trivial⟩ rfl hl.1 rfl (Nat.le_of_ble_eq_true rfl) d_CR_init_82 ⟨Nat.le_of_ble_eq_true rfl, Nat.le_of_ble_eq_true rfl⟩ [] [0, 1, 2, 3, 4, 5] rfl rfl (by decide) (by decide) (by decide) hN hK hP hD hS hA (fun u H locs hf hP hD hS => ?_)
        obtain ⟨v_6, rfl⟩ : ∃ z, z = u := ⟨_, rfl⟩
        have hP : va_P D vwCl [(h0, .inr (4, [.int (nI wk), .ref q_1, .ref q_2, .ref q_3, .ref q_4, .ref q_5, .int (nI wk), .int (nI 0)])), (q_1, .inl (cI, 200, .inl f9)), (q_3, .inl (cI, 16, .inl (fun _ => 0))), (q_4, .inl (cI, 16, .inl (fun _ => 0))), (q_5, .inl (cI, 16, .inl (fun _ => 0))), (q_2, .inl (cB, 16, .inl (fun _ => (nI 1))))] H := hP
        have hD : va_D A [(h0, .inr (4, [.int (nI wk), .ref q_1, .ref q_2, .ref q_3, .ref q_4, .ref q_5, .int (nI wk), .int (nI 0)])), (q_1, .inl (cI, 200, .inl f9)), (q_3, .inl (cI, 16, .inl (fun _ => 0))), (q_4, .inl (cI, 16, .inl (fun _ => 0))), (q_5, .inl (cI, 16, .inl (fun _ => 0))), (q_2, .inl (cB, 16, .inl (fun _ => (nI 1))))] := hD
        refine W.widen (k := 5) (n := 264) (Nat.le_of_ble_eq_true rfl) (Nat.le_of_ble_eq_true rfl) ?_
        refine W.eq (g2 := F0 m 85 ls [.int v_6, .int (nI i), .ref q_1]) rfl ?_
        refine xw_ist hx hb hK hP hD hS 1 0 rfl rfl (by omega) (by decide) d_CR_init_85 (fun H locs hP hD hS => ?_)
        have hP : va_P D vwCl [(h0, .inr (4, [.int (nI wk), .ref q_1, .ref q_2, .ref q_3, .ref q_4, .ref q_5, .int (nI wk), .int (nI 0)])), (q_1, .inl (cI, 200, .inl (upd f9 i v_6))), (q_3, .inl (cI, 16, .inl (fun _ => 0))), (q_4, .inl (cI, 16, .inl (fun _ => 0))), (q_5, .inl (cI, 16, .inl (fun _ => 0))), (q_2, .inl (cB, 16, .inl (fun _ => (nI 1))))] H := hP
        have hD : va_D A [(h0, .inr (4, [.int (nI wk), .ref q_1, .ref q_2, .ref q_3, .ref q_4, .ref q_5, .int (nI wk), .int (nI 0)])), (q_1, .inl (cI, 200, .inl (upd f9 i v_6))), (q_3, .inl (cI, 16, .inl (fun _ => 0))), (q_4, .inl (cI, 16, .inl (fun _ => 0))), (q_5, .inl (cI, 16, .inl (fun _ => 0))), (q_2, .inl (cB, 16, .inl (fun _ => (nI 1))))] := hD
        refine lv_iinc (v := nI (i + 1)) (lv' := [(2, .int (nI (i + 1))), (0, .ref h0), (1, .int (nI wk))]) hx hb d_CR_init_86 hl (k := 0) rfl (xs_inc i 1) (by decide) rfl (fun ls hl => ?_)
        refine lv_goto (tgt := 65) hx hb d_CR_init_89 (by decide) ?_
        exact ih (i + 1) (upd f9 i v_6) _ _ _ (by omega) (xs_P_sub hP [0, 1, 2, 3, 4, 5] rfl) (hD.sub [0, 1, 2, 3, 4, 5] (by decide) rfl) hS (lv_sub hl [0, 1, 2] rfl)
  exact lp_65 (200) 0 (fun _ => 0) _ _ _ (by omega) hP hD hS (lv_sub hl [0, 1, 2] rfl)
end
section
set_option maxHeartbeats 4000000 in
set_option maxRecDepth 100000 in
/-- new Search -/
theorem c_SE_init (l : Launch) (D : va_G) (cI cB cL : ClassId) (h0 : Nat) (wk : Nat) (rm : Nat) (hw0 : 0 < wk) (hw : wk ≤ 16) : xG (σ := Nat × Nat × Nat × Nat × Nat × Nat × Nat × Nat × Nat × Nat × Nat × Nat × Nat × Nat × Nat × Nat × Nat × Nat × Nat × Nat × Nat × Nat × Nat × Nat × Nat × Nat × Nat × Nat × Nat × Nat) l y_SE_init w_SE_init ({ frames := 2, cells := 69, slots := 5899, locals := 44  } : Room) D vwCl (xs_tys cI cB cL) [.ref h0, .int (nI wk), .int (nI rm)] [(h0, .inr (9, [.null, .null, .null, .null, .null, .null, .null, .null, .null, .null, .int (nI 0)]))] (fun (sn, sp, sc, sq, sl, sv, sg, sw, sk, sb, nb, nt, p1, p2, p3, cf, cl, ct, ck, cs, qr, qf, qh, lo, lr, lb, lf, g1, g2, g3) => True) (fun (sn, sp, sc, sq, sl, sv, sg, sw, sk, sb, nb, nt, p1, p2, p3, cf, cl, ct, ck, cs, qr, qf, qh, lo, lr, lb, lf, g1, g2, g3) => none) (fun (sn, sp, sc, sq, sl, sv, sg, sw, sk, sb, nb, nt, p1, p2, p3, cf, cl, ct, ck, cs, qr, qf, qh, lo, lr, lb, lf, g1, g2, g3) => [(h0, .inr (9, [.ref sn, .ref sp, .ref sc, .ref sq, .ref sl, .ref sv, .ref sg, .ref sw, .ref sk, .ref sb, .int (nI 0)])), (sn, .inr (1, [.int (nI 0), .int (nI 0), .ref nb, .ref nt])), (sp, .inr (2, [.ref p1, .ref p2, .ref p3, .int (nI 0)])), (p1, .inl (cI, 20, .inl (fun _ => 0))), (p2, .inl (cI, 20, .inl (fun _ => 0))), (p3, .inl (cI, 20, .inl (fun _ => 0))), (sc, .inr (4, [.int (nI wk), .ref cf, .ref cl, .ref ct, .ref ck, .ref cs, .int (nI wk), .int (nI 0)])), (cl, .inl (cB, 16, .inl (fun _ => nI 1))), (ct, .inl (cI, 16, .inl (fun _ => 0))), (ck, .inl (cI, 16, .inl (fun _ => 0))), (cs, .inl (cI, 16, .inl (fun _ => 0))), (sq, .inr (5, [.int (nI rm), .ref qr, .ref qf, .ref qh, .int (nI 0)])), (sv, .inr (7, [.ref lo, .ref lr, .ref lb, .int (nI 0), .ref lf])), (lo, .inl (cI, 200, .inl (fun _ => (-1)))), (lb, .inl (cI, 201, .inl (fun _ => 0))), (lf, .inl (cB, 200, .inl (fun _ => 0))), (sg, .inr (3, [.ref g1, .ref g2, .ref g3, .int (nI 0)])), (sk, .inl (cI, 200, .inl (fun _ => 0)))]) := by
  refine xG.of b_SE_init 3 (none) (by decide +kernel) rfl (Nat.le_of_ble_eq_true rfl) ?_
  intro p e s m below meth c A ls hAe C0 hP hD hS hl
  obtain ⟨hx, hb, hr, hml, hown, hlocks, hts, hnm, hN, hK, hA⟩ := C0
  have hU : ∀ w ∈ xU, w.before #[.ref h0, .int (nI wk), .int (nI rm)] s = true := fun w h => hts w (List.mem_cons_of_mem _ h)
  have hl : lv_has ls 3 [(0, .ref h0), (1, .int (nI wk)), (2, .int (nI rm))] := hl
  refine lv_aload_n hx hb d_SE_init_0 rfl (lv_at hl 0 rfl) ?_
  refine W.objInit hx hb hown (hU _ uw_37) (hU _ uw_27) (hU _ uw_28) rfl (by rw [hml]; exact hl.1) rfl d_SE_init_1 (Nat.le_of_ble_eq_true rfl) (Nat.le_of_ble_eq_true rfl) ?_
  refine W.eq (g2 := F0 m 4 ls []) rfl ?_
  refine lv_aload_n hx hb d_SE_init_4 rfl (lv_at hl 0 rfl) ?_
  refine va_new (ci := 1) (fs := [.int (nI 0), .int (nI 0), .null, .null]) (C := R_NET) (T := T_NET) (N := 4) hx hb hU iw_NET ty_NET ty_NET_ok hown (hU _ uw_38) (hU _ uw_39) (hU _ uw_4) hK hP hD hS hA rfl (fun j hj => by rcases (show j = 0 ∨ j = 1 ∨ j = 2 ∨ j = 3 by omega) with rfl | rfl | rfl | rfl <;> rfl) (Nat.le_of_ble_eq_true rfl) (Nat.le_of_ble_eq_true rfl) d_SE_init_5 (fun q_1 H hP hD hS => ?_)
  have hP : va_P D vwCl [(h0, .inr (9, [.null, .null, .null, .null, .null, .null, .null, .null, .null, .null, .int (nI 0)])), (q_1, .inr (1, [.int (nI 0), .int (nI 0), .null, .null]))] H := hP
  have hD : va_D A [(h0, .inr (9, [.null, .null, .null, .null, .null, .null, .null, .null, .null, .null, .int (nI 0)])), (q_1, .inr (1, [.int (nI 0), .int (nI 0), .null, .null]))] := hD
  refine W.widen (k := 1) (n := 4) (Nat.le_of_ble_eq_true rfl) (Nat.le_of_ble_eq_true rfl) ?_
  refine lv_dup hx hb d_SE_init_8 rfl ?_
  refine xw_callIN (wr := [(h0, .inr (9, [.null, .null, .null, .null, .null, .null, .null, .null, .null, .null, .int (nI 0)]))]) [] (c_NET_init l D cI cB cL q_1) ⟨hx, hb, hml, hown, hU⟩ ⟨va_cnB 0 hU (xs_good uw_42) rfl rfl rfl (hN _ nw_40) (hU _ uw_4) (by decide +kernel) ⟨Nat.le_of_ble_eq_true rfl, Nat.le_of_ble_eq_true rfl⟩, rfl, hU _ uw_41⟩ rfl hl.1 rfl (Nat.le_of_ble_eq_true rfl) d_SE_init_9 ⟨Nat.le_of_ble_eq_true rfl, Nat.le_of_ble_eq_true rfl⟩ [1] [0] rfl rfl (by decide) (by decide) (by decide) hN hK hP hD hS hA (fun u H locs hf hP hD hS => ?_)
  obtain ⟨q1_2, q2_3⟩ := u
  have hP : va_P D vwCl [(h0, .inr (9, [.null, .null, .null, .null, .null, .null, .null, .null, .null, .null, .int (nI 0)])), (q_1, .inr (1, [.int (nI 0), .int (nI 0), .ref q1_2, .ref q2_3]))] H := hP
  have hD : va_D A [(h0, .inr (9, [.null, .null, .null, .null, .null, .null, .null, .null, .null, .null, .int (nI 0)])), (q_1, .inr (1, [.int (nI 0), .int (nI 0), .ref q1_2, .ref q2_3]))] := hD
  refine W.widen (k := 3) (n := 805) (Nat.le_of_ble_eq_true rfl) (Nat.le_of_ble_eq_true rfl) ?_
  refine W.eq (g2 := F0 m 12 ls [.ref q_1, .ref h0]) rfl ?_
  refine va_putF (D := D) (ci := 9) (v := .ref q_1) (ty := (.object "ExploreShares$Net")) (C := R_SE) (T := T_SE) (N := 11) hx hb hU iw_SE ty_SE ty_SE_ok nm_SE hown hK hP hD hS 0 rfl rfl 0 (by decide) (hU _ uw_265) (fun _ h9 => h9) rfl hnm rfl (by decide +kernel) (by first | rfl | decide +kernel) (by first | rfl | decide +kernel) (Nat.le_of_ble_eq_true rfl) d_SE_init_12 (fun H locs hP hD hS => ?_)
  have hP : va_P D vwCl [(h0, .inr (9, [.ref q_1, .null, .null, .null, .null, .null, .null, .null, .null, .null, .int (nI 0)])), (q_1, .inr (1, [.int (nI 0), .int (nI 0), .ref q1_2, .ref q2_3]))] H := hP
  have hD : va_D A [(h0, .inr (9, [.ref q_1, .null, .null, .null, .null, .null, .null, .null, .null, .null, .int (nI 0)])), (q_1, .inr (1, [.int (nI 0), .int (nI 0), .ref q1_2, .ref q2_3]))] := hD
  refine lv_aload_n hx hb d_SE_init_15 rfl (lv_at hl 0 rfl) ?_
  refine va_new (ci := 2) (fs := [.null, .null, .null, .int (nI 0)]) (C := R_FP) (T := T_FP) (N := 4) hx hb hU iw_FP ty_FP ty_FP_ok hown (hU _ uw_65) (hU _ uw_66) (hU _ uw_5) hK hP hD hS hA rfl (fun j hj => by rcases (show j = 0 ∨ j = 1 ∨ j = 2 ∨ j = 3 by omega) with rfl | rfl | rfl | rfl <;> rfl) (Nat.le_of_ble_eq_true rfl) (Nat.le_of_ble_eq_true rfl) d_SE_init_16 (fun q_4 H hP hD hS => ?_)
  have hP : va_P D vwCl [(h0, .inr (9, [.ref q_1, .null, .null, .null, .null, .null, .null, .null, .null, .null, .int (nI 0)])), (q_1, .inr (1, [.int (nI 0), .int (nI 0), .ref q1_2, .ref q2_3])), (q_4, .inr (2, [.null, .null, .null, .int (nI 0)]))] H := hP
  have hD : va_D A [(h0, .inr (9, [.ref q_1, .null, .null, .null, .null, .null, .null, .null, .null, .null, .int (nI 0)])), (q_1, .inr (1, [.int (nI 0), .int (nI 0), .ref q1_2, .ref q2_3])), (q_4, .inr (2, [.null, .null, .null, .int (nI 0)]))] := hD
  refine W.widen (k := 4) (n := 809) (Nat.le_of_ble_eq_true rfl) (Nat.le_of_ble_eq_true rfl) ?_
  refine lv_dup hx hb d_SE_init_19 rfl ?_
  refine xw_callIN (wr := [(h0, .inr (9, [.ref q_1, .null, .null, .null, .null, .null, .null, .null, .null, .null, .int (nI 0)])), (q_1, .inr (1, [.int (nI 0), .int (nI 0), .ref q1_2, .ref q2_3]))]) [] (c_FP_init l D cI cB cL q_4) ⟨hx, hb, hml, hown, hU⟩ ⟨va_cnB 0 hU (xs_good uw_69) rfl rfl rfl (hN _ nw_67) (hU _ uw_5) (by decide +kernel) ⟨Nat.le_of_ble_eq_true rfl, Nat.le_of_ble_eq_true rfl⟩, rfl, hU _ uw_68⟩ rfl hl.1 rfl (Nat.le_of_ble_eq_true rfl) d_SE_init_20 ⟨Nat.le_of_ble_eq_true rfl, Nat.le_of_ble_eq_true rfl⟩ [2] [0, 1] rfl rfl (by decide) (by decide) (by decide) hN hK hP hD hS hA (fun u H locs hf hP hD hS => ?_)
  obtain ⟨q1_5, q2_6, q3_7⟩ := u
  have hP : va_P D vwCl [(h0, .inr (9, [.ref q_1, .null, .null, .null, .null, .null, .null, .null, .null, .null, .int (nI 0)])), (q_1, .inr (1, [.int (nI 0), .int (nI 0), .ref q1_2, .ref q2_3])), (q_4, .inr (2, [.ref q1_5, .ref q2_6, .ref q3_7, .int (nI 0)])), (q1_5, .inl (cI, 20, .inl (fun _ => 0))), (q2_6, .inl (cI, 20, .inl (fun _ => 0))), (q3_7, .inl (cI, 20, .inl (fun _ => 0)))] H := hP
  have hD : va_D A [(h0, .inr (9, [.ref q_1, .null, .null, .null, .null, .null, .null, .null, .null, .null, .int (nI 0)])), (q_1, .inr (1, [.int (nI 0), .int (nI 0), .ref q1_2, .ref q2_3])), (q_4, .inr (2, [.ref q1_5, .ref q2_6, .ref q3_7, .int (nI 0)])), (q1_5, .inl (cI, 20, .inl (fun _ => 0))), (q2_6, .inl (cI, 20, .inl (fun _ => 0))), (q3_7, .inl (cI, 20, .inl (fun _ => 0)))] := hD
  refine W.widen (k := 7) (n := 869) (Nat.le_of_ble_eq_true rfl) (Nat.le_of_ble_eq_true rfl) ?_
  refine W.eq (g2 := F0 m 23 ls [.ref q_4, .ref h0]) rfl ?_
  refine va_putF (D := D) (ci := 9) (v := .ref q_4) (ty := (.object "ExploreShares$FailPlan")) (C := R_SE) (T := T_SE) (N := 11) hx hb hU iw_SE ty_SE ty_SE_ok nm_SE hown hK hP hD hS 0 rfl rfl 1 (by decide) (hU _ uw_267) (fun _ h9 => h9) rfl hnm rfl (by decide +kernel) (by first | rfl | decide +kernel) (by first | rfl | decide +kernel) (Nat.le_of_ble_eq_true rfl) d_SE_init_23 (fun H locs hP hD hS => ?_)
  have hP : va_P D vwCl [(h0, .inr (9, [.ref q_1, .ref q_4, .null, .null, .null, .null, .null, .null, .null, .null, .int (nI 0)])), (q_1, .inr (1, [.int (nI 0), .int (nI 0), .ref q1_2, .ref q2_3])), (q_4, .inr (2, [.ref q1_5, .ref q2_6, .ref q3_7, .int (nI 0)])), (q1_5, .inl (cI, 20, .inl (fun _ => 0))), (q2_6, .inl (cI, 20, .inl (fun _ => 0))), (q3_7, .inl (cI, 20, .inl (fun _ => 0)))] H := hP
  have hD : va_D A [(h0, .inr (9, [.ref q_1, .ref q_4, .null, .null, .null, .null, .null, .null, .null, .null, .int (nI 0)])), (q_1, .inr (1, [.int (nI 0), .int (nI 0), .ref q1_2, .ref q2_3])), (q_4, .inr (2, [.ref q1_5, .ref q2_6, .ref q3_7, .int (nI 0)])), (q1_5, .inl (cI, 20, .inl (fun _ => 0))), (q2_6, .inl (cI, 20, .inl (fun _ => 0))), (q3_7, .inl (cI, 20, .inl (fun _ => 0)))] := hD
  refine lv_aload_n hx hb d_SE_init_26 rfl (lv_at hl 0 rfl) ?_
  refine va_new (ci := 6) (fs := [.null, .null, .null, .null, .null, .null]) (C := R_LI) (T := T_LI) (N := 6) hx hb hU iw_LI ty_LI ty_LI_ok hown (hU _ uw_85) (hU _ uw_86) (hU _ uw_6) hK hP hD hS hA rfl (fun j hj => by rcases (show j = 0 ∨ j = 1 ∨ j = 2 ∨ j = 3 ∨ j = 4 ∨ j = 5 by omega) with rfl | rfl | rfl | rfl | rfl | rfl <;> rfl) (Nat.le_of_ble_eq_true rfl) (Nat.le_of_ble_eq_true rfl) d_SE_init_27 (fun q_8 H hP hD hS => ?_)
  have hP : va_P D vwCl [(h0, .inr (9, [.ref q_1, .ref q_4, .null, .null, .null, .null, .null, .null, .null, .null, .int (nI 0)])), (q_1, .inr (1, [.int (nI 0), .int (nI 0), .ref q1_2, .ref q2_3])), (q_4, .inr (2, [.ref q1_5, .ref q2_6, .ref q3_7, .int (nI 0)])), (q1_5, .inl (cI, 20, .inl (fun _ => 0))), (q2_6, .inl (cI, 20, .inl (fun _ => 0))), (q3_7, .inl (cI, 20, .inl (fun _ => 0))), (q_8, .inr (6, [.null, .null, .null, .null, .null, .null]))] H := hP
  have hD : va_D A [(h0, .inr (9, [.ref q_1, .ref q_4, .null, .null, .null, .null, .null, .null, .null, .null, .int (nI 0)])), (q_1, .inr (1, [.int (nI 0), .int (nI 0), .ref q1_2, .ref q2_3])), (q_4, .inr (2, [.ref q1_5, .ref q2_6, .ref q3_7, .int (nI 0)])), (q1_5, .inl (cI, 20, .inl (fun _ => 0))), (q2_6, .inl (cI, 20, .inl (fun _ => 0))), (q3_7, .inl (cI, 20, .inl (fun _ => 0))), (q_8, .inr (6, [.null, .null, .null, .null, .null, .null]))] := hD
  refine W.widen (k := 8) (n := 875) (Nat.le_of_ble_eq_true rfl) (Nat.le_of_ble_eq_true rfl) ?_
  refine lv_dup hx hb d_SE_init_30 rfl ?_
  refine xw_callIN (wr := [(h0, .inr (9, [.ref q_1, .ref q_4, .null, .null, .null, .null, .null, .null, .null, .null, .int (nI 0)])), (q_1, .inr (1, [.int (nI 0), .int (nI 0), .ref q1_2, .ref q2_3])), (q_4, .inr (2, [.ref q1_5, .ref q2_6, .ref q3_7, .int (nI 0)])), (q1_5, .inl (cI, 20, .inl (fun _ => 0))), (q2_6, .inl (cI, 20, .inl (fun _ => 0))), (q3_7, .inl (cI, 20, .inl (fun _ => 0)))]) [] (c_LI_init l D cI cB cL q_8) ⟨hx, hb, hml, hown, hU⟩ ⟨va_cnB 0 hU (xs_good uw_89) rfl rfl rfl (hN _ nw_87) (hU _ uw_6) (by decide +kernel) ⟨Nat.le_of_ble_eq_true rfl, Nat.le_of_ble_eq_true rfl⟩, rfl, hU _ uw_88⟩ rfl hl.1 rfl (Nat.le_of_ble_eq_true rfl) d_SE_init_31 ⟨Nat.le_of_ble_eq_true rfl, Nat.le_of_ble_eq_true rfl⟩ [6] [0, 1, 2, 3, 4, 5] rfl rfl (by decide) (by decide) (by decide) hN hK hP hD hS hA (fun u H locs hf hP hD hS => ?_)
  have hP : va_P D vwCl [(h0, .inr (9, [.ref q_1, .ref q_4, .null, .null, .null, .null, .null, .null, .null, .null, .int (nI 0)])), (q_1, .inr (1, [.int (nI 0), .int (nI 0), .ref q1_2, .ref q2_3])), (q_4, .inr (2, [.ref q1_5, .ref q2_6, .ref q3_7, .int (nI 0)])), (q1_5, .inl (cI, 20, .inl (fun _ => 0))), (q2_6, .inl (cI, 20, .inl (fun _ => 0))), (q3_7, .inl (cI, 20, .inl (fun _ => 0)))] H := hP
  have hD : va_D A [(h0, .inr (9, [.ref q_1, .ref q_4, .null, .null, .null, .null, .null, .null, .null, .null, .int (nI 0)])), (q_1, .inr (1, [.int (nI 0), .int (nI 0), .ref q1_2, .ref q2_3])), (q_4, .inr (2, [.ref q1_5, .ref q2_6, .ref q3_7, .int (nI 0)])), (q1_5, .inl (cI, 20, .inl (fun _ => 0))), (q2_6, .inl (cI, 20, .inl (fun _ => 0))), (q3_7, .inl (cI, 20, .inl (fun _ => 0)))] := hD
  refine W.widen (k := 30) (n := 4171) (Nat.le_of_ble_eq_true rfl) (Nat.le_of_ble_eq_true rfl) ?_
  refine W.eq (g2 := F0 m 34 ls [.ref q_8, .ref h0]) rfl ?_
  refine va_putF (D := D) (ci := 9) (v := .ref q_8) (ty := (.object "ExploreShares$Lists")) (C := R_SE) (T := T_SE) (N := 11) hx hb hU iw_SE ty_SE ty_SE_ok nm_SE hown hK hP hD hS 0 rfl rfl 4 (by decide) (hU _ uw_273) (fun _ h9 => h9) rfl hnm rfl (by decide +kernel) (by first | rfl | decide +kernel) (by first | rfl | decide +kernel) (Nat.le_of_ble_eq_true rfl) d_SE_init_34 (fun H locs hP hD hS => ?_)
  have hP : va_P D vwCl [(h0, .inr (9, [.ref q_1, .ref q_4, .null, .null, .ref q_8, .null, .null, .null, .null, .null, .int (nI 0)])), (q_1, .inr (1, [.int (nI 0), .int (nI 0), .ref q1_2, .ref q2_3])), (q_4, .inr (2, [.ref q1_5, .ref q2_6, .ref q3_7, .int (nI 0)])), (q1_5, .inl (cI, 20, .inl (fun _ => 0))), (q2_6, .inl (cI, 20, .inl (fun _ => 0))), (q3_7, .inl (cI, 20, .inl (fun _ => 0)))] H := hP
  have hD : va_D A [(h0, .inr (9, [.ref q_1, .ref q_4, .null, .null, .ref q_8, .null, .null, .null, .null, .null, .int (nI 0)])), (q_1, .inr (1, [.int (nI 0), .int (nI 0), .ref q1_2, .ref q2_3])), (q_4, .inr (2, [.ref q1_5, .ref q2_6, .ref q3_7, .int (nI 0)])), (q1_5, .inl (cI, 20, .inl (fun _ => 0))), (q2_6, .inl (cI, 20, .inl (fun _ => 0))), (q3_7, .inl (cI, 20, .inl (fun _ => 0)))] := hD
  refine lv_aload_n hx hb d_SE_init_37 rfl (lv_at hl 0 rfl) ?_
  refine va_new (ci := 7) (fs := [.null, .null, .null, .int (nI 0), .null]) (C := R_LE) (T := T_LE) (N := 5) hx hb hU iw_LE ty_LE ty_LE_ok hown (hU _ uw_116) (hU _ uw_117) (hU _ uw_7) hK hP hD hS hA rfl (fun j hj => by rcases (show j = 0 ∨ j = 1 ∨ j = 2 ∨ j = 3 ∨ j = 4 by omega) with rfl | rfl | rfl | rfl | rfl <;> rfl) (Nat.le_of_ble_eq_true rfl) (Nat.le_of_ble_eq_true rfl) d_SE_init_38 (fun q_9 H hP hD hS => ?_)
  have hP : va_P D vwCl [(h0, .inr (9, [.ref q_1, .ref q_4, .null, .null, .ref q_8, .null, .null, .null, .null, .null, .int (nI 0)])), (q_1, .inr (1, [.int (nI 0), .int (nI 0), .ref q1_2, .ref q2_3])), (q_4, .inr (2, [.ref q1_5, .ref q2_6, .ref q3_7, .int (nI 0)])), (q1_5, .inl (cI, 20, .inl (fun _ => 0))), (q2_6, .inl (cI, 20, .inl (fun _ => 0))), (q3_7, .inl (cI, 20, .inl (fun _ => 0))), (q_9, .inr (7, [.null, .null, .null, .int (nI 0), .null]))] H := hP
  have hD : va_D A [(h0, .inr (9, [.ref q_1, .ref q_4, .null, .null, .ref q_8, .null, .null, .null, .null, .null, .int (nI 0)])), (q_1, .inr (1, [.int (nI 0), .int (nI 0), .ref q1_2, .ref q2_3])), (q_4, .inr (2, [.ref q1_5, .ref q2_6, .ref q3_7, .int (nI 0)])), (q1_5, .inl (cI, 20, .inl (fun _ => 0))), (q2_6, .inl (cI, 20, .inl (fun _ => 0))), (q3_7, .inl (cI, 20, .inl (fun _ => 0))), (q_9, .inr (7, [.null, .null, .null, .int (nI 0), .null]))] := hD
  refine W.widen (k := 31) (n := 4176) (Nat.le_of_ble_eq_true rfl) (Nat.le_of_ble_eq_true rfl) ?_
  refine lv_dup hx hb d_SE_init_41 rfl ?_
  refine xw_callI (wr := [(h0, .inr (9, [.ref q_1, .ref q_4, .null, .null, .ref q_8, .null, .null, .null, .null, .null, .int (nI 0)])), (q_1, .inr (1, [.int (nI 0), .int (nI 0), .ref q1_2, .ref q2_3])), (q_4, .inr (2, [.ref q1_5, .ref q2_6, .ref q3_7, .int (nI 0)])), (q1_5, .inl (cI, 20, .inl (fun _ => 0))), (q2_6, .inl (cI, 20, .inl (fun _ => 0))), (q3_7, .inl (cI, 20, .inl (fun _ => 0)))]) [] (c_LE_init l D cI cB cL q_9) ⟨hx, hb, hml, hown, hU⟩ (cwI 0 hU (xs_good uw_120) rfl rfl rfl (hU _ uw_7) (hU _ uw_118) (hU _ uw_119) rfl (by decide +kernel) ⟨Nat.le_of_ble_eq_true rfl, Nat.le_of_ble_eq_true rfl⟩) rfl hl.1 rfl (Nat.le_of_ble_eq_true rfl) d_SE_init_42 ⟨Nat.le_of_ble_eq_true rfl, Nat.le_of_ble_eq_true rfl⟩ [6] [0, 1, 2, 3, 4, 5] rfl rfl (by decide) (by decide) (by decide) hN hK hP hD hS hA (fun u H locs hf hP hD hS => ?_)
  obtain ⟨lo_10, lr_11, lb_12, lf_13⟩ := u
  have hP : va_P D vwCl [(h0, .inr (9, [.ref q_1, .ref q_4, .null, .null, .ref q_8, .null, .null, .null, .null, .null, .int (nI 0)])), (q_1, .inr (1, [.int (nI 0), .int (nI 0), .ref q1_2, .ref q2_3])), (q_4, .inr (2, [.ref q1_5, .ref q2_6, .ref q3_7, .int (nI 0)])), (q1_5, .inl (cI, 20, .inl (fun _ => 0))), (q2_6, .inl (cI, 20, .inl (fun _ => 0))), (q3_7, .inl (cI, 20, .inl (fun _ => 0))), (q_9, .inr (7, [.ref lo_10, .ref lr_11, .ref lb_12, .int (nI 0), .ref lf_13])), (lo_10, .inl (cI, 200, .inl (fun _ => (-1)))), (lb_12, .inl (cI, 201, .inl (fun _ => 0))), (lf_13, .inl (cB, 200, .inl (fun _ => 0)))] H := hP
  have hD : va_D A [(h0, .inr (9, [.ref q_1, .ref q_4, .null, .null, .ref q_8, .null, .null, .null, .null, .null, .int (nI 0)])), (q_1, .inr (1, [.int (nI 0), .int (nI 0), .ref q1_2, .ref q2_3])), (q_4, .inr (2, [.ref q1_5, .ref q2_6, .ref q3_7, .int (nI 0)])), (q1_5, .inl (cI, 20, .inl (fun _ => 0))), (q2_6, .inl (cI, 20, .inl (fun _ => 0))), (q3_7, .inl (cI, 20, .inl (fun _ => 0))), (q_9, .inr (7, [.ref lo_10, .ref lr_11, .ref lb_12, .int (nI 0), .ref lf_13])), (lo_10, .inl (cI, 200, .inl (fun _ => (-1)))), (lb_12, .inl (cI, 201, .inl (fun _ => 0))), (lf_13, .inl (cB, 200, .inl (fun _ => 0)))] := hD
  refine W.widen (k := 35) (n := 4977) (Nat.le_of_ble_eq_true rfl) (Nat.le_of_ble_eq_true rfl) ?_
  refine W.eq (g2 := F0 m 45 ls [.ref q_9, .ref h0]) rfl ?_
  refine va_putF (D := D) (ci := 9) (v := .ref q_9) (ty := (.object "ExploreShares$Levels")) (C := R_SE) (T := T_SE) (N := 11) hx hb hU iw_SE ty_SE ty_SE_ok nm_SE hown hK hP hD hS 0 rfl rfl 5 (by decide) (hU _ uw_274) (fun _ h9 => h9) rfl hnm rfl (by decide +kernel) (by first | rfl | decide +kernel) (by first | rfl | decide +kernel) (Nat.le_of_ble_eq_true rfl) d_SE_init_45 (fun H locs hP hD hS => ?_)
  have hP : va_P D vwCl [(h0, .inr (9, [.ref q_1, .ref q_4, .null, .null, .ref q_8, .ref q_9, .null, .null, .null, .null, .int (nI 0)])), (q_1, .inr (1, [.int (nI 0), .int (nI 0), .ref q1_2, .ref q2_3])), (q_4, .inr (2, [.ref q1_5, .ref q2_6, .ref q3_7, .int (nI 0)])), (q1_5, .inl (cI, 20, .inl (fun _ => 0))), (q2_6, .inl (cI, 20, .inl (fun _ => 0))), (q3_7, .inl (cI, 20, .inl (fun _ => 0))), (q_9, .inr (7, [.ref lo_10, .ref lr_11, .ref lb_12, .int (nI 0), .ref lf_13])), (lo_10, .inl (cI, 200, .inl (fun _ => (-1)))), (lb_12, .inl (cI, 201, .inl (fun _ => 0))), (lf_13, .inl (cB, 200, .inl (fun _ => 0)))] H := hP
  have hD : va_D A [(h0, .inr (9, [.ref q_1, .ref q_4, .null, .null, .ref q_8, .ref q_9, .null, .null, .null, .null, .int (nI 0)])), (q_1, .inr (1, [.int (nI 0), .int (nI 0), .ref q1_2, .ref q2_3])), (q_4, .inr (2, [.ref q1_5, .ref q2_6, .ref q3_7, .int (nI 0)])), (q1_5, .inl (cI, 20, .inl (fun _ => 0))), (q2_6, .inl (cI, 20, .inl (fun _ => 0))), (q3_7, .inl (cI, 20, .inl (fun _ => 0))), (q_9, .inr (7, [.ref lo_10, .ref lr_11, .ref lb_12, .int (nI 0), .ref lf_13])), (lo_10, .inl (cI, 200, .inl (fun _ => (-1)))), (lb_12, .inl (cI, 201, .inl (fun _ => 0))), (lf_13, .inl (cB, 200, .inl (fun _ => 0)))] := hD
  refine lv_aload_n hx hb d_SE_init_48 rfl (lv_at hl 0 rfl) ?_
  refine va_new (ci := 3) (fs := [.null, .null, .null, .int (nI 0)]) (C := R_FL) (T := T_FL) (N := 4) hx hb hU iw_FL ty_FL ty_FL_ok hown (hU _ uw_150) (hU _ uw_151) (hU _ uw_9) hK hP hD hS hA rfl (fun j hj => by rcases (show j = 0 ∨ j = 1 ∨ j = 2 ∨ j = 3 by omega) with rfl | rfl | rfl | rfl <;> rfl) (Nat.le_of_ble_eq_true rfl) (Nat.le_of_ble_eq_true rfl) d_SE_init_49 (fun q_14 H hP hD hS => ?_)
  have hP : va_P D vwCl [(h0, .inr (9, [.ref q_1, .ref q_4, .null, .null, .ref q_8, .ref q_9, .null, .null, .null, .null, .int (nI 0)])), (q_1, .inr (1, [.int (nI 0), .int (nI 0), .ref q1_2, .ref q2_3])), (q_4, .inr (2, [.ref q1_5, .ref q2_6, .ref q3_7, .int (nI 0)])), (q1_5, .inl (cI, 20, .inl (fun _ => 0))), (q2_6, .inl (cI, 20, .inl (fun _ => 0))), (q3_7, .inl (cI, 20, .inl (fun _ => 0))), (q_9, .inr (7, [.ref lo_10, .ref lr_11, .ref lb_12, .int (nI 0), .ref lf_13])), (lo_10, .inl (cI, 200, .inl (fun _ => (-1)))), (lb_12, .inl (cI, 201, .inl (fun _ => 0))), (lf_13, .inl (cB, 200, .inl (fun _ => 0))), (q_14, .inr (3, [.null, .null, .null, .int (nI 0)]))] H := hP
  have hD : va_D A [(h0, .inr (9, [.ref q_1, .ref q_4, .null, .null, .ref q_8, .ref q_9, .null, .null, .null, .null, .int (nI 0)])), (q_1, .inr (1, [.int (nI 0), .int (nI 0), .ref q1_2, .ref q2_3])), (q_4, .inr (2, [.ref q1_5, .ref q2_6, .ref q3_7, .int (nI 0)])), (q1_5, .inl (cI, 20, .inl (fun _ => 0))), (q2_6, .inl (cI, 20, .inl (fun _ => 0))), (q3_7, .inl (cI, 20, .inl (fun _ => 0))), (q_9, .inr (7, [.ref lo_10, .ref lr_11, .ref lb_12, .int (nI 0), .ref lf_13])), (lo_10, .inl (cI, 200, .inl (fun _ => (-1)))), (lb_12, .inl (cI, 201, .inl (fun _ => 0))), (lf_13, .inl (cB, 200, .inl (fun _ => 0))), (q_14, .inr (3, [.null, .null, .null, .int (nI 0)]))] := hD
  refine W.widen (k := 36) (n := 4981) (Nat.le_of_ble_eq_true rfl) (Nat.le_of_ble_eq_true rfl) ?_
  refine lv_dup hx hb d_SE_init_52 rfl ?_
  refine xw_callIN (wr := [(h0, .inr (9, [.ref q_1, .ref q_4, .null, .null, .ref q_8, .ref q_9, .null, .null, .null, .null, .int (nI 0)])), (q_1, .inr (1, [.int (nI 0), .int (nI 0), .ref q1_2, .ref q2_3])), (q_4, .inr (2, [.ref q1_5, .ref q2_6, .ref q3_7, .int (nI 0)])), (q1_5, .inl (cI, 20, .inl (fun _ => 0))), (q2_6, .inl (cI, 20, .inl (fun _ => 0))), (q3_7, .inl (cI, 20, .inl (fun _ => 0))), (q_9, .inr (7, [.ref lo_10, .ref lr_11, .ref lb_12, .int (nI 0), .ref lf_13])), (lo_10, .inl (cI, 200, .inl (fun _ => (-1)))), (lb_12, .inl (cI, 201, .inl (fun _ => 0))), (lf_13, .inl (cB, 200, .inl (fun _ => 0)))]) [] (c_FL_init l D cI cB cL q_14) ⟨hx, hb, hml, hown, hU⟩ ⟨va_cnB 0 hU (xs_good uw_154) rfl rfl rfl (hN _ nw_152) (hU _ uw_9) (by decide +kernel) ⟨Nat.le_of_ble_eq_true rfl, Nat.le_of_ble_eq_true rfl⟩, rfl, hU _ uw_153⟩ rfl hl.1 rfl (Nat.le_of_ble_eq_true rfl) d_SE_init_53 ⟨Nat.le_of_ble_eq_true rfl, Nat.le_of_ble_eq_true rfl⟩ [10] [0, 1, 2, 3, 4, 5, 6, 7, 8, 9] rfl rfl (by decide) (by decide) (by decide) hN hK hP hD hS hA (fun u H locs hf hP hD hS => ?_)
  obtain ⟨q1_15, q2_16, q3_17⟩ := u
  have hP : va_P D vwCl [(h0, .inr (9, [.ref q_1, .ref q_4, .null, .null, .ref q_8, .ref q_9, .null, .null, .null, .null, .int (nI 0)])), (q_1, .inr (1, [.int (nI 0), .int (nI 0), .ref q1_2, .ref q2_3])), (q_4, .inr (2, [.ref q1_5, .ref q2_6, .ref q3_7, .int (nI 0)])), (q1_5, .inl (cI, 20, .inl (fun _ => 0))), (q2_6, .inl (cI, 20, .inl (fun _ => 0))), (q3_7, .inl (cI, 20, .inl (fun _ => 0))), (q_9, .inr (7, [.ref lo_10, .ref lr_11, .ref lb_12, .int (nI 0), .ref lf_13])), (lo_10, .inl (cI, 200, .inl (fun _ => (-1)))), (lb_12, .inl (cI, 201, .inl (fun _ => 0))), (lf_13, .inl (cB, 200, .inl (fun _ => 0))), (q_14, .inr (3, [.ref q1_15, .ref q2_16, .ref q3_17, .int (nI 0)]))] H := hP
  have hD : va_D A [(h0, .inr (9, [.ref q_1, .ref q_4, .null, .null, .ref q_8, .ref q_9, .null, .null, .null, .null, .int (nI 0)])), (q_1, .inr (1, [.int (nI 0), .int (nI 0), .ref q1_2, .ref q2_3])), (q_4, .inr (2, [.ref q1_5, .ref q2_6, .ref q3_7, .int (nI 0)])), (q1_5, .inl (cI, 20, .inl (fun _ => 0))), (q2_6, .inl (cI, 20, .inl (fun _ => 0))), (q3_7, .inl (cI, 20, .inl (fun _ => 0))), (q_9, .inr (7, [.ref lo_10, .ref lr_11, .ref lb_12, .int (nI 0), .ref lf_13])), (lo_10, .inl (cI, 200, .inl (fun _ => (-1)))), (lb_12, .inl (cI, 201, .inl (fun _ => 0))), (lf_13, .inl (cB, 200, .inl (fun _ => 0))), (q_14, .inr (3, [.ref q1_15, .ref q2_16, .ref q3_17, .int (nI 0)]))] := hD
  refine W.widen (k := 39) (n := 5029) (Nat.le_of_ble_eq_true rfl) (Nat.le_of_ble_eq_true rfl) ?_
  refine W.eq (g2 := F0 m 56 ls [.ref q_14, .ref h0]) rfl ?_
  refine va_putF (D := D) (ci := 9) (v := .ref q_14) (ty := (.object "ExploreShares$FailLog")) (C := R_SE) (T := T_SE) (N := 11) hx hb hU iw_SE ty_SE ty_SE_ok nm_SE hown hK hP hD hS 0 rfl rfl 6 (by decide) (hU _ uw_276) (fun _ h9 => h9) rfl hnm rfl (by decide +kernel) (by first | rfl | decide +kernel) (by first | rfl | decide +kernel) (Nat.le_of_ble_eq_true rfl) d_SE_init_56 (fun H locs hP hD hS => ?_)
  have hP : va_P D vwCl [(h0, .inr (9, [.ref q_1, .ref q_4, .null, .null, .ref q_8, .ref q_9, .ref q_14, .null, .null, .null, .int (nI 0)])), (q_1, .inr (1, [.int (nI 0), .int (nI 0), .ref q1_2, .ref q2_3])), (q_4, .inr (2, [.ref q1_5, .ref q2_6, .ref q3_7, .int (nI 0)])), (q1_5, .inl (cI, 20, .inl (fun _ => 0))), (q2_6, .inl (cI, 20, .inl (fun _ => 0))), (q3_7, .inl (cI, 20, .inl (fun _ => 0))), (q_9, .inr (7, [.ref lo_10, .ref lr_11, .ref lb_12, .int (nI 0), .ref lf_13])), (lo_10, .inl (cI, 200, .inl (fun _ => (-1)))), (lb_12, .inl (cI, 201, .inl (fun _ => 0))), (lf_13, .inl (cB, 200, .inl (fun _ => 0))), (q_14, .inr (3, [.ref q1_15, .ref q2_16, .ref q3_17, .int (nI 0)]))] H := hP
  have hD : va_D A [(h0, .inr (9, [.ref q_1, .ref q_4, .null, .null, .ref q_8, .ref q_9, .ref q_14, .null, .null, .null, .int (nI 0)])), (q_1, .inr (1, [.int (nI 0), .int (nI 0), .ref q1_2, .ref q2_3])), (q_4, .inr (2, [.ref q1_5, .ref q2_6, .ref q3_7, .int (nI 0)])), (q1_5, .inl (cI, 20, .inl (fun _ => 0))), (q2_6, .inl (cI, 20, .inl (fun _ => 0))), (q3_7, .inl (cI, 20, .inl (fun _ => 0))), (q_9, .inr (7, [.ref lo_10, .ref lr_11, .ref lb_12, .int (nI 0), .ref lf_13])), (lo_10, .inl (cI, 200, .inl (fun _ => (-1)))), (lb_12, .inl (cI, 201, .inl (fun _ => 0))), (lf_13, .inl (cB, 200, .inl (fun _ => 0))), (q_14, .inr (3, [.ref q1_15, .ref q2_16, .ref q3_17, .int (nI 0)]))] := hD
  refine lv_aload_n hx hb d_SE_init_59 rfl (lv_at hl 0 rfl) ?_
  refine va_new (ci := 8) (fs := [.null]) (C := R_WA) (T := T_WA) (N := 1) hx hb hU iw_WA ty_WA ty_WA_ok hown (hU _ uw_174) (hU _ uw_175) (hU _ uw_10) hK hP hD hS hA rfl (fun j hj => by rcases (show j = 0 by omega) with rfl <;> rfl) (Nat.le_of_ble_eq_true rfl) (Nat.le_of_ble_eq_true rfl) d_SE_init_60 (fun q_18 H hP hD hS => ?_)
  have hP : va_P D vwCl [(h0, .inr (9, [.ref q_1, .ref q_4, .null, .null, .ref q_8, .ref q_9, .ref q_14, .null, .null, .null, .int (nI 0)])), (q_1, .inr (1, [.int (nI 0), .int (nI 0), .ref q1_2, .ref q2_3])), (q_4, .inr (2, [.ref q1_5, .ref q2_6, .ref q3_7, .int (nI 0)])), (q1_5, .inl (cI, 20, .inl (fun _ => 0))), (q2_6, .inl (cI, 20, .inl (fun _ => 0))), (q3_7, .inl (cI, 20, .inl (fun _ => 0))), (q_9, .inr (7, [.ref lo_10, .ref lr_11, .ref lb_12, .int (nI 0), .ref lf_13])), (lo_10, .inl (cI, 200, .inl (fun _ => (-1)))), (lb_12, .inl (cI, 201, .inl (fun _ => 0))), (lf_13, .inl (cB, 200, .inl (fun _ => 0))), (q_14, .inr (3, [.ref q1_15, .ref q2_16, .ref q3_17, .int (nI 0)])), (q_18, .inr (8, [.null]))] H := hP
  have hD : va_D A [(h0, .inr (9, [.ref q_1, .ref q_4, .null, .null, .ref q_8, .ref q_9, .ref q_14, .null, .null, .null, .int (nI 0)])), (q_1, .inr (1, [.int (nI 0), .int (nI 0), .ref q1_2, .ref q2_3])), (q_4, .inr (2, [.ref q1_5, .ref q2_6, .ref q3_7, .int (nI 0)])), (q1_5, .inl (cI, 20, .inl (fun _ => 0))), (q2_6, .inl (cI, 20, .inl (fun _ => 0))), (q3_7, .inl (cI, 20, .inl (fun _ => 0))), (q_9, .inr (7, [.ref lo_10, .ref lr_11, .ref lb_12, .int (nI 0), .ref lf_13])), (lo_10, .inl (cI, 200, .inl (fun _ => (-1)))), (lb_12, .inl (cI, 201, .inl (fun _ => 0))), (lf_13, .inl (cB, 200, .inl (fun _ => 0))), (q_14, .inr (3, [.ref q1_15, .ref q2_16, .ref q3_17, .int (nI 0)])), (q_18, .inr (8, [.null]))] := hD
  refine W.widen (k := 40) (n := 5030) (Nat.le_of_ble_eq_true rfl) (Nat.le_of_ble_eq_true rfl) ?_
  refine lv_dup hx hb d_SE_init_63 rfl ?_
  refine xw_callIN (wr := [(h0, .inr (9, [.ref q_1, .ref q_4, .null, .null, .ref q_8, .ref q_9, .ref q_14, .null, .null, .null, .int (nI 0)])), (q_1, .inr (1, [.int (nI 0), .int (nI 0), .ref q1_2, .ref q2_3])), (q_4, .inr (2, [.ref q1_5, .ref q2_6, .ref q3_7, .int (nI 0)])), (q1_5, .inl (cI, 20, .inl (fun _ => 0))), (q2_6, .inl (cI, 20, .inl (fun _ => 0))), (q3_7, .inl (cI, 20, .inl (fun _ => 0))), (q_9, .inr (7, [.ref lo_10, .ref lr_11, .ref lb_12, .int (nI 0), .ref lf_13])), (lo_10, .inl (cI, 200, .inl (fun _ => (-1)))), (lb_12, .inl (cI, 201, .inl (fun _ => 0))), (lf_13, .inl (cB, 200, .inl (fun _ => 0))), (q_14, .inr (3, [.ref q1_15, .ref q2_16, .ref q3_17, .int (nI 0)]))]) [] (c_WA_init l D cI cB cL q_18) ⟨hx, hb, hml, hown, hU⟩ ⟨va_cnB 0 hU (xs_good uw_178) rfl rfl rfl (hN _ nw_176) (hU _ uw_10) (by decide +kernel) ⟨Nat.le_of_ble_eq_true rfl, Nat.le_of_ble_eq_true rfl⟩, rfl, hU _ uw_177⟩ rfl hl.1 rfl (Nat.le_of_ble_eq_true rfl) d_SE_init_64 ⟨Nat.le_of_ble_eq_true rfl, Nat.le_of_ble_eq_true rfl⟩ [11] [0, 1, 2, 3, 4, 5, 6, 7, 8, 9, 10] rfl rfl (by decide) (by decide) (by decide) hN hK hP hD hS hA (fun u H locs hf hP hD hS => ?_)
  have hP : va_P D vwCl [(h0, .inr (9, [.ref q_1, .ref q_4, .null, .null, .ref q_8, .ref q_9, .ref q_14, .null, .null, .null, .int (nI 0)])), (q_1, .inr (1, [.int (nI 0), .int (nI 0), .ref q1_2, .ref q2_3])), (q_4, .inr (2, [.ref q1_5, .ref q2_6, .ref q3_7, .int (nI 0)])), (q1_5, .inl (cI, 20, .inl (fun _ => 0))), (q2_6, .inl (cI, 20, .inl (fun _ => 0))), (q3_7, .inl (cI, 20, .inl (fun _ => 0))), (q_9, .inr (7, [.ref lo_10, .ref lr_11, .ref lb_12, .int (nI 0), .ref lf_13])), (lo_10, .inl (cI, 200, .inl (fun _ => (-1)))), (lb_12, .inl (cI, 201, .inl (fun _ => 0))), (lf_13, .inl (cB, 200, .inl (fun _ => 0))), (q_14, .inr (3, [.ref q1_15, .ref q2_16, .ref q3_17, .int (nI 0)]))] H := hP
  have hD : va_D A [(h0, .inr (9, [.ref q_1, .ref q_4, .null, .null, .ref q_8, .ref q_9, .ref q_14, .null, .null, .null, .int (nI 0)])), (q_1, .inr (1, [.int (nI 0), .int (nI 0), .ref q1_2, .ref q2_3])), (q_4, .inr (2, [.ref q1_5, .ref q2_6, .ref q3_7, .int (nI 0)])), (q1_5, .inl (cI, 20, .inl (fun _ => 0))), (q2_6, .inl (cI, 20, .inl (fun _ => 0))), (q3_7, .inl (cI, 20, .inl (fun _ => 0))), (q_9, .inr (7, [.ref lo_10, .ref lr_11, .ref lb_12, .int (nI 0), .ref lf_13])), (lo_10, .inl (cI, 200, .inl (fun _ => (-1)))), (lb_12, .inl (cI, 201, .inl (fun _ => 0))), (lf_13, .inl (cB, 200, .inl (fun _ => 0))), (q_14, .inr (3, [.ref q1_15, .ref q2_16, .ref q3_17, .int (nI 0)]))] := hD
  refine W.widen (k := 41) (n := 5230) (Nat.le_of_ble_eq_true rfl) (Nat.le_of_ble_eq_true rfl) ?_
  refine W.eq (g2 := F0 m 67 ls [.ref q_18, .ref h0]) rfl ?_
  refine va_putF (D := D) (ci := 9) (v := .ref q_18) (ty := (.object "ExploreShares$Ways")) (C := R_SE) (T := T_SE) (N := 11) hx hb hU iw_SE ty_SE ty_SE_ok nm_SE hown hK hP hD hS 0 rfl rfl 7 (by decide) (hU _ uw_278) (fun _ h9 => h9) rfl hnm rfl (by decide +kernel) (by first | rfl | decide +kernel) (by first | rfl | decide +kernel) (Nat.le_of_ble_eq_true rfl) d_SE_init_67 (fun H locs hP hD hS => ?_)
  have hP : va_P D vwCl [(h0, .inr (9, [.ref q_1, .ref q_4, .null, .null, .ref q_8, .ref q_9, .ref q_14, .ref q_18, .null, .null, .int (nI 0)])), (q_1, .inr (1, [.int (nI 0), .int (nI 0), .ref q1_2, .ref q2_3])), (q_4, .inr (2, [.ref q1_5, .ref q2_6, .ref q3_7, .int (nI 0)])), (q1_5, .inl (cI, 20, .inl (fun _ => 0))), (q2_6, .inl (cI, 20, .inl (fun _ => 0))), (q3_7, .inl (cI, 20, .inl (fun _ => 0))), (q_9, .inr (7, [.ref lo_10, .ref lr_11, .ref lb_12, .int (nI 0), .ref lf_13])), (lo_10, .inl (cI, 200, .inl (fun _ => (-1)))), (lb_12, .inl (cI, 201, .inl (fun _ => 0))), (lf_13, .inl (cB, 200, .inl (fun _ => 0))), (q_14, .inr (3, [.ref q1_15, .ref q2_16, .ref q3_17, .int (nI 0)]))] H := hP
  have hD : va_D A [(h0, .inr (9, [.ref q_1, .ref q_4, .null, .null, .ref q_8, .ref q_9, .ref q_14, .ref q_18, .null, .null, .int (nI 0)])), (q_1, .inr (1, [.int (nI 0), .int (nI 0), .ref q1_2, .ref q2_3])), (q_4, .inr (2, [.ref q1_5, .ref q2_6, .ref q3_7, .int (nI 0)])), (q1_5, .inl (cI, 20, .inl (fun _ => 0))), (q2_6, .inl (cI, 20, .inl (fun _ => 0))), (q3_7, .inl (cI, 20, .inl (fun _ => 0))), (q_9, .inr (7, [.ref lo_10, .ref lr_11, .ref lb_12, .int (nI 0), .ref lf_13])), (lo_10, .inl (cI, 200, .inl (fun _ => (-1)))), (lb_12, .inl (cI, 201, .inl (fun _ => 0))), (lf_13, .inl (cB, 200, .inl (fun _ => 0))), (q_14, .inr (3, [.ref q1_15, .ref q2_16, .ref q3_17, .int (nI 0)]))] := hD
  refine lv_aload_n hx hb d_SE_init_70 rfl (lv_at hl 0 rfl) ?_
  refine lv_sipush (v := nI 200) hx hb d_SE_init_71 (by decide +kernel) ?_
  refine xw_newI (N := 200) hx hb (hU _ uw_64) hK 0 rfl hP hD hS hA (by decide +kernel) (by decide +kernel) (by decide) (Nat.le_of_ble_eq_true rfl) (Nat.le_of_ble_eq_true rfl) d_SE_init_74 (fun q_19 H hP hD hS => ?_)
  have hP : va_P D vwCl [(h0, .inr (9, [.ref q_1, .ref q_4, .null, .null, .ref q_8, .ref q_9, .ref q_14, .ref q_18, .null, .null, .int (nI 0)])), (q_1, .inr (1, [.int (nI 0), .int (nI 0), .ref q1_2, .ref q2_3])), (q_4, .inr (2, [.ref q1_5, .ref q2_6, .ref q3_7, .int (nI 0)])), (q1_5, .inl (cI, 20, .inl (fun _ => 0))), (q2_6, .inl (cI, 20, .inl (fun _ => 0))), (q3_7, .inl (cI, 20, .inl (fun _ => 0))), (q_9, .inr (7, [.ref lo_10, .ref lr_11, .ref lb_12, .int (nI 0), .ref lf_13])), (lo_10, .inl (cI, 200, .inl (fun _ => (-1)))), (lb_12, .inl (cI, 201, .inl (fun _ => 0))), (lf_13, .inl (cB, 200, .inl (fun _ => 0))), (q_14, .inr (3, [.ref q1_15, .ref q2_16, .ref q3_17, .int (nI 0)])), (q_19, .inl (cI, 200, .inl (fun _ => 0)))] H := hP
  have hD : va_D A [(h0, .inr (9, [.ref q_1, .ref q_4, .null, .null, .ref q_8, .ref q_9, .ref q_14, .ref q_18, .null, .null, .int (nI 0)])), (q_1, .inr (1, [.int (nI 0), .int (nI 0), .ref q1_2, .ref q2_3])), (q_4, .inr (2, [.ref q1_5, .ref q2_6, .ref q3_7, .int (nI 0)])), (q1_5, .inl (cI, 20, .inl (fun _ => 0))), (q2_6, .inl (cI, 20, .inl (fun _ => 0))), (q3_7, .inl (cI, 20, .inl (fun _ => 0))), (q_9, .inr (7, [.ref lo_10, .ref lr_11, .ref lb_12, .int (nI 0), .ref lf_13])), (lo_10, .inl (cI, 200, .inl (fun _ => (-1)))), (lb_12, .inl (cI, 201, .inl (fun _ => 0))), (lf_13, .inl (cB, 200, .inl (fun _ => 0))), (q_14, .inr (3, [.ref q1_15, .ref q2_16, .ref q3_17, .int (nI 0)])), (q_19, .inl (cI, 200, .inl (fun _ => 0)))] := hD
  refine W.widen (k := 42) (n := 5430) (Nat.le_of_ble_eq_true rfl) (Nat.le_of_ble_eq_true rfl) ?_
  refine va_putF (D := D) (ci := 9) (v := .ref q_19) (ty := (.array .int)) (C := R_SE) (T := T_SE) (N := 11) hx hb hU iw_SE ty_SE ty_SE_ok nm_SE hown hK hP hD hS 0 rfl rfl 8 (by decide) (hU _ uw_280) (fun _ h9 => h9) rfl hnm rfl (by decide +kernel) (by first | rfl | decide +kernel) (by first | rfl | decide +kernel) (Nat.le_of_ble_eq_true rfl) d_SE_init_76 (fun H locs hP hD hS => ?_)
  have hP : va_P D vwCl [(h0, .inr (9, [.ref q_1, .ref q_4, .null, .null, .ref q_8, .ref q_9, .ref q_14, .ref q_18, .ref q_19, .null, .int (nI 0)])), (q_1, .inr (1, [.int (nI 0), .int (nI 0), .ref q1_2, .ref q2_3])), (q_4, .inr (2, [.ref q1_5, .ref q2_6, .ref q3_7, .int (nI 0)])), (q1_5, .inl (cI, 20, .inl (fun _ => 0))), (q2_6, .inl (cI, 20, .inl (fun _ => 0))), (q3_7, .inl (cI, 20, .inl (fun _ => 0))), (q_9, .inr (7, [.ref lo_10, .ref lr_11, .ref lb_12, .int (nI 0), .ref lf_13])), (lo_10, .inl (cI, 200, .inl (fun _ => (-1)))), (lb_12, .inl (cI, 201, .inl (fun _ => 0))), (lf_13, .inl (cB, 200, .inl (fun _ => 0))), (q_14, .inr (3, [.ref q1_15, .ref q2_16, .ref q3_17, .int (nI 0)])), (q_19, .inl (cI, 200, .inl (fun _ => 0)))] H := hP
  have hD : va_D A [(h0, .inr (9, [.ref q_1, .ref q_4, .null, .null, .ref q_8, .ref q_9, .ref q_14, .ref q_18, .ref q_19, .null, .int (nI 0)])), (q_1, .inr (1, [.int (nI 0), .int (nI 0), .ref q1_2, .ref q2_3])), (q_4, .inr (2, [.ref q1_5, .ref q2_6, .ref q3_7, .int (nI 0)])), (q1_5, .inl (cI, 20, .inl (fun _ => 0))), (q2_6, .inl (cI, 20, .inl (fun _ => 0))), (q3_7, .inl (cI, 20, .inl (fun _ => 0))), (q_9, .inr (7, [.ref lo_10, .ref lr_11, .ref lb_12, .int (nI 0), .ref lf_13])), (lo_10, .inl (cI, 200, .inl (fun _ => (-1)))), (lb_12, .inl (cI, 201, .inl (fun _ => 0))), (lf_13, .inl (cB, 200, .inl (fun _ => 0))), (q_14, .inr (3, [.ref q1_15, .ref q2_16, .ref q3_17, .int (nI 0)])), (q_19, .inl (cI, 200, .inl (fun _ => 0)))] := hD
  refine lv_aload_n hx hb d_SE_init_79 rfl (lv_at hl 0 rfl) ?_
  refine lv_bipush (v := nI 16) hx hb d_SE_init_80 (by decide +kernel) ?_
  refine xw_newI (N := 16) hx hb (hU _ uw_64) hK 0 rfl hP hD hS hA (by decide +kernel) (by decide +kernel) (by decide) (Nat.le_of_ble_eq_true rfl) (Nat.le_of_ble_eq_true rfl) d_SE_init_82 (fun q_20 H hP hD hS => ?_)
  have hP : va_P D vwCl [(h0, .inr (9, [.ref q_1, .ref q_4, .null, .null, .ref q_8, .ref q_9, .ref q_14, .ref q_18, .ref q_19, .null, .int (nI 0)])), (q_1, .inr (1, [.int (nI 0), .int (nI 0), .ref q1_2, .ref q2_3])), (q_4, .inr (2, [.ref q1_5, .ref q2_6, .ref q3_7, .int (nI 0)])), (q1_5, .inl (cI, 20, .inl (fun _ => 0))), (q2_6, .inl (cI, 20, .inl (fun _ => 0))), (q3_7, .inl (cI, 20, .inl (fun _ => 0))), (q_9, .inr (7, [.ref lo_10, .ref lr_11, .ref lb_12, .int (nI 0), .ref lf_13])), (lo_10, .inl (cI, 200, .inl (fun _ => (-1)))), (lb_12, .inl (cI, 201, .inl (fun _ => 0))), (lf_13, .inl (cB, 200, .inl (fun _ => 0))), (q_14, .inr (3, [.ref q1_15, .ref q2_16, .ref q3_17, .int (nI 0)])), (q_19, .inl (cI, 200, .inl (fun _ => 0))), (q_20, .inl (cI, 16, .inl (fun _ => 0)))] H := hP
  have hD : va_D A [(h0, .inr (9, [.ref q_1, .ref q_4, .null, .null, .ref q_8, .ref q_9, .ref q_14, .ref q_18, .ref q_19, .null, .int (nI 0)])), (q_1, .inr (1, [.int (nI 0), .int (nI 0), .ref q1_2, .ref q2_3])), (q_4, .inr (2, [.ref q1_5, .ref q2_6, .ref q3_7, .int (nI 0)])), (q1_5, .inl (cI, 20, .inl (fun _ => 0))), (q2_6, .inl (cI, 20, .inl (fun _ => 0))), (q3_7, .inl (cI, 20, .inl (fun _ => 0))), (q_9, .inr (7, [.ref lo_10, .ref lr_11, .ref lb_12, .int (nI 0), .ref lf_13])), (lo_10, .inl (cI, 200, .inl (fun _ => (-1)))), (lb_12, .inl (cI, 201, .inl (fun _ => 0))), (lf_13, .inl (cB, 200, .inl (fun _ => 0))), (q_14, .inr (3, [.ref q1_15, .ref q2_16, .ref q3_17, .int (nI 0)])), (q_19, .inl (cI, 200, .inl (fun _ => 0))), (q_20, .inl (cI, 16, .inl (fun _ => 0)))] := hD
  refine W.widen (k := 43) (n := 5446) (Nat.le_of_ble_eq_true rfl) (Nat.le_of_ble_eq_true rfl) ?_
  refine va_putF (D := D) (ci := 9) (v := .ref q_20) (ty := (.array .int)) (C := R_SE) (T := T_SE) (N := 11) hx hb hU iw_SE ty_SE ty_SE_ok nm_SE hown hK hP hD hS 0 rfl rfl 9 (by decide) (hU _ uw_282) (fun _ h9 => h9) rfl hnm rfl (by decide +kernel) (by first | rfl | decide +kernel) (by first | rfl | decide +kernel) (Nat.le_of_ble_eq_true rfl) d_SE_init_84 (fun H locs hP hD hS => ?_)
  have hP : va_P D vwCl [(h0, .inr (9, [.ref q_1, .ref q_4, .null, .null, .ref q_8, .ref q_9, .ref q_14, .ref q_18, .ref q_19, .ref q_20, .int (nI 0)])), (q_1, .inr (1, [.int (nI 0), .int (nI 0), .ref q1_2, .ref q2_3])), (q_4, .inr (2, [.ref q1_5, .ref q2_6, .ref q3_7, .int (nI 0)])), (q1_5, .inl (cI, 20, .inl (fun _ => 0))), (q2_6, .inl (cI, 20, .inl (fun _ => 0))), (q3_7, .inl (cI, 20, .inl (fun _ => 0))), (q_9, .inr (7, [.ref lo_10, .ref lr_11, .ref lb_12, .int (nI 0), .ref lf_13])), (lo_10, .inl (cI, 200, .inl (fun _ => (-1)))), (lb_12, .inl (cI, 201, .inl (fun _ => 0))), (lf_13, .inl (cB, 200, .inl (fun _ => 0))), (q_14, .inr (3, [.ref q1_15, .ref q2_16, .ref q3_17, .int (nI 0)])), (q_19, .inl (cI, 200, .inl (fun _ => 0))), (q_20, .inl (cI, 16, .inl (fun _ => 0)))] H := hP
  have hD : va_D A [(h0, .inr (9, [.ref q_1, .ref q_4, .null, .null, .ref q_8, .ref q_9, .ref q_14, .ref q_18, .ref q_19, .ref q_20, .int (nI 0)])), (q_1, .inr (1, [.int (nI 0), .int (nI 0), .ref q1_2, .ref q2_3])), (q_4, .inr (2, [.ref q1_5, .ref q2_6, .ref q3_7, .int (nI 0)])), (q1_5, .inl (cI, 20, .inl (fun _ => 0))), (q2_6, .inl (cI, 20, .inl (fun _ => 0))), (q3_7, .inl (cI, 20, .inl (fun _ => 0))), (q_9, .inr (7, [.ref lo_10, .ref lr_11, .ref lb_12, .int (nI 0), .ref lf_13])), (lo_10, .inl (cI, 200, .inl (fun _ => (-1)))), (lb_12, .inl (cI, 201, .inl (fun _ => 0))), (lf_13, .inl (cB, 200, .inl (fun _ => 0))), (q_14, .inr (3, [.ref q1_15, .ref q2_16, .ref q3_17, .int (nI 0)])), (q_19, .inl (cI, 200, .inl (fun _ => 0))), (q_20, .inl (cI, 16, .inl (fun _ => 0)))] := hD
  refine lv_aload_n hx hb d_SE_init_87 rfl (lv_at hl 0 rfl) ?_
  refine va_new (ci := 4) (fs := [.int (nI 0), .null, .null, .null, .null, .null, .int (nI 0), .int (nI 0)]) (C := R_CR) (T := T_CR) (N := 8) hx hb hU iw_CR ty_CR ty_CR_ok hown (hU _ uw_184) (hU _ uw_185) (hU _ uw_11) hK hP hD hS hA rfl (fun j hj => by rcases (show j = 0 ∨ j = 1 ∨ j = 2 ∨ j = 3 ∨ j = 4 ∨ j = 5 ∨ j = 6 ∨ j = 7 by omega) with rfl | rfl | rfl | rfl | rfl | rfl | rfl | rfl <;> rfl) (Nat.le_of_ble_eq_true rfl) (Nat.le_of_ble_eq_true rfl) d_SE_init_88 (fun q_21 H hP hD hS => ?_)
  have hP : va_P D vwCl [(h0, .inr (9, [.ref q_1, .ref q_4, .null, .null, .ref q_8, .ref q_9, .ref q_14, .ref q_18, .ref q_19, .ref q_20, .int (nI 0)])), (q_1, .inr (1, [.int (nI 0), .int (nI 0), .ref q1_2, .ref q2_3])), (q_4, .inr (2, [.ref q1_5, .ref q2_6, .ref q3_7, .int (nI 0)])), (q1_5, .inl (cI, 20, .inl (fun _ => 0))), (q2_6, .inl (cI, 20, .inl (fun _ => 0))), (q3_7, .inl (cI, 20, .inl (fun _ => 0))), (q_9, .inr (7, [.ref lo_10, .ref lr_11, .ref lb_12, .int (nI 0), .ref lf_13])), (lo_10, .inl (cI, 200, .inl (fun _ => (-1)))), (lb_12, .inl (cI, 201, .inl (fun _ => 0))), (lf_13, .inl (cB, 200, .inl (fun _ => 0))), (q_14, .inr (3, [.ref q1_15, .ref q2_16, .ref q3_17, .int (nI 0)])), (q_19, .inl (cI, 200, .inl (fun _ => 0))), (q_20, .inl (cI, 16, .inl (fun _ => 0))), (q_21, .inr (4, [.int (nI 0), .null, .null, .null, .null, .null, .int (nI 0), .int (nI 0)]))] H := hP
  have hD : va_D A [(h0, .inr (9, [.ref q_1, .ref q_4, .null, .null, .ref q_8, .ref q_9, .ref q_14, .ref q_18, .ref q_19, .ref q_20, .int (nI 0)])), (q_1, .inr (1, [.int (nI 0), .int (nI 0), .ref q1_2, .ref q2_3])), (q_4, .inr (2, [.ref q1_5, .ref q2_6, .ref q3_7, .int (nI 0)])), (q1_5, .inl (cI, 20, .inl (fun _ => 0))), (q2_6, .inl (cI, 20, .inl (fun _ => 0))), (q3_7, .inl (cI, 20, .inl (fun _ => 0))), (q_9, .inr (7, [.ref lo_10, .ref lr_11, .ref lb_12, .int (nI 0), .ref lf_13])), (lo_10, .inl (cI, 200, .inl (fun _ => (-1)))), (lb_12, .inl (cI, 201, .inl (fun _ => 0))), (lf_13, .inl (cB, 200, .inl (fun _ => 0))), (q_14, .inr (3, [.ref q1_15, .ref q2_16, .ref q3_17, .int (nI 0)])), (q_19, .inl (cI, 200, .inl (fun _ => 0))), (q_20, .inl (cI, 16, .inl (fun _ => 0))), (q_21, .inr (4, [.int (nI 0), .null, .null, .null, .null, .null, .int (nI 0), .int (nI 0)]))] := hD
  refine W.widen (k := 44) (n := 5454) (Nat.le_of_ble_eq_true rfl) (Nat.le_of_ble_eq_true rfl) ?_
  refine lv_dup hx hb d_SE_init_91 rfl ?_
  refine lv_iload_n hx hb d_SE_init_92 rfl (lv_at hl 1 rfl) ?_
  refine xw_callI (wr := [(h0, .inr (9, [.ref q_1, .ref q_4, .null, .null, .ref q_8, .ref q_9, .ref q_14, .ref q_18, .ref q_19, .ref q_20, .int (nI 0)])), (q_1, .inr (1, [.int (nI 0), .int (nI 0), .ref q1_2, .ref q2_3])), (q_4, .inr (2, [.ref q1_5, .ref q2_6, .ref q3_7, .int (nI 0)])), (q1_5, .inl (cI, 20, .inl (fun _ => 0))), (q2_6, .inl (cI, 20, .inl (fun _ => 0))), (q3_7, .inl (cI, 20, .inl (fun _ => 0))), (q_9, .inr (7, [.ref lo_10, .ref lr_11, .ref lb_12, .int (nI 0), .ref lf_13])), (lo_10, .inl (cI, 200, .inl (fun _ => (-1)))), (lb_12, .inl (cI, 201, .inl (fun _ => 0))), (lf_13, .inl (cB, 200, .inl (fun _ => 0))), (q_14, .inr (3, [.ref q1_15, .ref q2_16, .ref q3_17, .int (nI 0)])), (q_19, .inl (cI, 200, .inl (fun _ => 0))), (q_20, .inl (cI, 16, .inl (fun _ => 0)))]) [.int (nI wk)] (c_CR_init l D cI cB cL q_21 wk (by omega) (by omega)) ⟨hx, hb, hml, hown, hU⟩ (cwI 1 hU (xs_good uw_188) rfl rfl rfl (hU _ uw_11) (hU _ uw_186) (hU _ uw_187) rfl (by decide +kernel) ⟨Nat.le_of_ble_eq_true rfl, Nat.le_of_ble_eq_true rfl⟩) rfl hl.1 rfl (Nat.le_of_ble_eq_true rfl) d_SE_init_93 ⟨Nat.le_of_ble_eq_true rfl, Nat.le_of_ble_eq_true rfl⟩ [13] [0, 1, 2, 3, 4, 5, 6, 7, 8, 9, 10, 11, 12] rfl rfl (by decide) (by decide) (by decide) hN hK hP hD hS hA (fun u H locs hf hP hD hS => ?_)
  obtain ⟨cf_22, cl_23, ct_24, ck_25, cs_26⟩ := u
  have hP : va_P D vwCl [(h0, .inr (9, [.ref q_1, .ref q_4, .null, .null, .ref q_8, .ref q_9, .ref q_14, .ref q_18, .ref q_19, .ref q_20, .int (nI 0)])), (q_1, .inr (1, [.int (nI 0), .int (nI 0), .ref q1_2, .ref q2_3])), (q_4, .inr (2, [.ref q1_5, .ref q2_6, .ref q3_7, .int (nI 0)])), (q1_5, .inl (cI, 20, .inl (fun _ => 0))), (q2_6, .inl (cI, 20, .inl (fun _ => 0))), (q3_7, .inl (cI, 20, .inl (fun _ => 0))), (q_9, .inr (7, [.ref lo_10, .ref lr_11, .ref lb_12, .int (nI 0), .ref lf_13])), (lo_10, .inl (cI, 200, .inl (fun _ => (-1)))), (lb_12, .inl (cI, 201, .inl (fun _ => 0))), (lf_13, .inl (cB, 200, .inl (fun _ => 0))), (q_14, .inr (3, [.ref q1_15, .ref q2_16, .ref q3_17, .int (nI 0)])), (q_19, .inl (cI, 200, .inl (fun _ => 0))), (q_20, .inl (cI, 16, .inl (fun _ => 0))), (q_21, .inr (4, [.int (nI wk), .ref cf_22, .ref cl_23, .ref ct_24, .ref ck_25, .ref cs_26, .int (nI wk), .int (nI 0)])), (cl_23, .inl (cB, 16, .inl (fun _ => nI 1))), (ct_24, .inl (cI, 16, .inl (fun _ => 0))), (ck_25, .inl (cI, 16, .inl (fun _ => 0))), (cs_26, .inl (cI, 16, .inl (fun _ => 0)))] H := hP
  have hD : va_D A [(h0, .inr (9, [.ref q_1, .ref q_4, .null, .null, .ref q_8, .ref q_9, .ref q_14, .ref q_18, .ref q_19, .ref q_20, .int (nI 0)])), (q_1, .inr (1, [.int (nI 0), .int (nI 0), .ref q1_2, .ref q2_3])), (q_4, .inr (2, [.ref q1_5, .ref q2_6, .ref q3_7, .int (nI 0)])), (q1_5, .inl (cI, 20, .inl (fun _ => 0))), (q2_6, .inl (cI, 20, .inl (fun _ => 0))), (q3_7, .inl (cI, 20, .inl (fun _ => 0))), (q_9, .inr (7, [.ref lo_10, .ref lr_11, .ref lb_12, .int (nI 0), .ref lf_13])), (lo_10, .inl (cI, 200, .inl (fun _ => (-1)))), (lb_12, .inl (cI, 201, .inl (fun _ => 0))), (lf_13, .inl (cB, 200, .inl (fun _ => 0))), (q_14, .inr (3, [.ref q1_15, .ref q2_16, .ref q3_17, .int (nI 0)])), (q_19, .inl (cI, 200, .inl (fun _ => 0))), (q_20, .inl (cI, 16, .inl (fun _ => 0))), (q_21, .inr (4, [.int (nI wk), .ref cf_22, .ref cl_23, .ref ct_24, .ref ck_25, .ref cs_26, .int (nI wk), .int (nI 0)])), (cl_23, .inl (cB, 16, .inl (fun _ => nI 1))), (ct_24, .inl (cI, 16, .inl (fun _ => 0))), (ck_25, .inl (cI, 16, .inl (fun _ => 0))), (cs_26, .inl (cI, 16, .inl (fun _ => 0)))] := hD
  refine W.widen (k := 49) (n := 5718) (Nat.le_of_ble_eq_true rfl) (Nat.le_of_ble_eq_true rfl) ?_
  refine W.eq (g2 := F0 m 96 ls [.ref q_21, .ref h0]) rfl ?_
  refine va_putF (D := D) (ci := 9) (v := .ref q_21) (ty := (.object "ExploreShares$Crew")) (C := R_SE) (T := T_SE) (N := 11) hx hb hU iw_SE ty_SE ty_SE_ok nm_SE hown hK hP hD hS 0 rfl rfl 2 (by decide) (hU _ uw_270) (fun _ h9 => h9) rfl hnm rfl (by decide +kernel) (by first | rfl | decide +kernel) (by first | rfl | decide +kernel) (Nat.le_of_ble_eq_true rfl) d_SE_init_96 (fun H locs hP hD hS => ?_)
  have hP : va_P D vwCl [(h0, .inr (9, [.ref q_1, .ref q_4, .ref q_21, .null, .ref q_8, .ref q_9, .ref q_14, .ref q_18, .ref q_19, .ref q_20, .int (nI 0)])), (q_1, .inr (1, [.int (nI 0), .int (nI 0), .ref q1_2, .ref q2_3])), (q_4, .inr (2, [.ref q1_5, .ref q2_6, .ref q3_7, .int (nI 0)])), (q1_5, .inl (cI, 20, .inl (fun _ => 0))), (q2_6, .inl (cI, 20, .inl (fun _ => 0))), (q3_7, .inl (cI, 20, .inl (fun _ => 0))), (q_9, .inr (7, [.ref lo_10, .ref lr_11, .ref lb_12, .int (nI 0), .ref lf_13])), (lo_10, .inl (cI, 200, .inl (fun _ => (-1)))), (lb_12, .inl (cI, 201, .inl (fun _ => 0))), (lf_13, .inl (cB, 200, .inl (fun _ => 0))), (q_14, .inr (3, [.ref q1_15, .ref q2_16, .ref q3_17, .int (nI 0)])), (q_19, .inl (cI, 200, .inl (fun _ => 0))), (q_20, .inl (cI, 16, .inl (fun _ => 0))), (q_21, .inr (4, [.int (nI wk), .ref cf_22, .ref cl_23, .ref ct_24, .ref ck_25, .ref cs_26, .int (nI wk), .int (nI 0)])), (cl_23, .inl (cB, 16, .inl (fun _ => nI 1))), (ct_24, .inl (cI, 16, .inl (fun _ => 0))), (ck_25, .inl (cI, 16, .inl (fun _ => 0))), (cs_26, .inl (cI, 16, .inl (fun _ => 0)))] H := hP
  have hD : va_D A [(h0, .inr (9, [.ref q_1, .ref q_4, .ref q_21, .null, .ref q_8, .ref q_9, .ref q_14, .ref q_18, .ref q_19, .ref q_20, .int (nI 0)])), (q_1, .inr (1, [.int (nI 0), .int (nI 0), .ref q1_2, .ref q2_3])), (q_4, .inr (2, [.ref q1_5, .ref q2_6, .ref q3_7, .int (nI 0)])), (q1_5, .inl (cI, 20, .inl (fun _ => 0))), (q2_6, .inl (cI, 20, .inl (fun _ => 0))), (q3_7, .inl (cI, 20, .inl (fun _ => 0))), (q_9, .inr (7, [.ref lo_10, .ref lr_11, .ref lb_12, .int (nI 0), .ref lf_13])), (lo_10, .inl (cI, 200, .inl (fun _ => (-1)))), (lb_12, .inl (cI, 201, .inl (fun _ => 0))), (lf_13, .inl (cB, 200, .inl (fun _ => 0))), (q_14, .inr (3, [.ref q1_15, .ref q2_16, .ref q3_17, .int (nI 0)])), (q_19, .inl (cI, 200, .inl (fun _ => 0))), (q_20, .inl (cI, 16, .inl (fun _ => 0))), (q_21, .inr (4, [.int (nI wk), .ref cf_22, .ref cl_23, .ref ct_24, .ref ck_25, .ref cs_26, .int (nI wk), .int (nI 0)])), (cl_23, .inl (cB, 16, .inl (fun _ => nI 1))), (ct_24, .inl (cI, 16, .inl (fun _ => 0))), (ck_25, .inl (cI, 16, .inl (fun _ => 0))), (cs_26, .inl (cI, 16, .inl (fun _ => 0)))] := hD
  refine lv_aload_n hx hb d_SE_init_99 rfl (lv_at hl 0 rfl) ?_
  refine va_new (ci := 5) (fs := [.int (nI 0), .null, .null, .null, .int (nI 0)]) (C := R_QU) (T := T_QU) (N := 5) hx hb hU iw_QU ty_QU ty_QU_ok hown (hU _ uw_239) (hU _ uw_240) (hU _ uw_12) hK hP hD hS hA rfl (fun j hj => by rcases (show j = 0 ∨ j = 1 ∨ j = 2 ∨ j = 3 ∨ j = 4 by omega) with rfl | rfl | rfl | rfl | rfl <;> rfl) (Nat.le_of_ble_eq_true rfl) (Nat.le_of_ble_eq_true rfl) d_SE_init_100 (fun q_27 H hP hD hS => ?_)
  have hP : va_P D vwCl [(h0, .inr (9, [.ref q_1, .ref q_4, .ref q_21, .null, .ref q_8, .ref q_9, .ref q_14, .ref q_18, .ref q_19, .ref q_20, .int (nI 0)])), (q_1, .inr (1, [.int (nI 0), .int (nI 0), .ref q1_2, .ref q2_3])), (q_4, .inr (2, [.ref q1_5, .ref q2_6, .ref q3_7, .int (nI 0)])), (q1_5, .inl (cI, 20, .inl (fun _ => 0))), (q2_6, .inl (cI, 20, .inl (fun _ => 0))), (q3_7, .inl (cI, 20, .inl (fun _ => 0))), (q_9, .inr (7, [.ref lo_10, .ref lr_11, .ref lb_12, .int (nI 0), .ref lf_13])), (lo_10, .inl (cI, 200, .inl (fun _ => (-1)))), (lb_12, .inl (cI, 201, .inl (fun _ => 0))), (lf_13, .inl (cB, 200, .inl (fun _ => 0))), (q_14, .inr (3, [.ref q1_15, .ref q2_16, .ref q3_17, .int (nI 0)])), (q_19, .inl (cI, 200, .inl (fun _ => 0))), (q_20, .inl (cI, 16, .inl (fun _ => 0))), (q_21, .inr (4, [.int (nI wk), .ref cf_22, .ref cl_23, .ref ct_24, .ref ck_25, .ref cs_26, .int (nI wk), .int (nI 0)])), (cl_23, .inl (cB, 16, .inl (fun _ => nI 1))), (ct_24, .inl (cI, 16, .inl (fun _ => 0))), (ck_25, .inl (cI, 16, .inl (fun _ => 0))), (cs_26, .inl (cI, 16, .inl (fun _ => 0))), (q_27, .inr (5, [.int (nI 0), .null, .null, .null, .int (nI 0)]))] H := hP
  have hD : va_D A [(h0, .inr (9, [.ref q_1, .ref q_4, .ref q_21, .null, .ref q_8, .ref q_9, .ref q_14, .ref q_18, .ref q_19, .ref q_20, .int (nI 0)])), (q_1, .inr (1, [.int (nI 0), .int (nI 0), .ref q1_2, .ref q2_3])), (q_4, .inr (2, [.ref q1_5, .ref q2_6, .ref q3_7, .int (nI 0)])), (q1_5, .inl (cI, 20, .inl (fun _ => 0))), (q2_6, .inl (cI, 20, .inl (fun _ => 0))), (q3_7, .inl (cI, 20, .inl (fun _ => 0))), (q_9, .inr (7, [.ref lo_10, .ref lr_11, .ref lb_12, .int (nI 0), .ref lf_13])), (lo_10, .inl (cI, 200, .inl (fun _ => (-1)))), (lb_12, .inl (cI, 201, .inl (fun _ => 0))), (lf_13, .inl (cB, 200, .inl (fun _ => 0))), (q_14, .inr (3, [.ref q1_15, .ref q2_16, .ref q3_17, .int (nI 0)])), (q_19, .inl (cI, 200, .inl (fun _ => 0))), (q_20, .inl (cI, 16, .inl (fun _ => 0))), (q_21, .inr (4, [.int (nI wk), .ref cf_22, .ref cl_23, .ref ct_24, .ref ck_25, .ref cs_26, .int (nI wk), .int (nI 0)])), (cl_23, .inl (cB, 16, .inl (fun _ => nI 1))), (ct_24, .inl (cI, 16, .inl (fun _ => 0))), (ck_25, .inl (cI, 16, .inl (fun _ => 0))), (cs_26, .inl (cI, 16, .inl (fun _ => 0))), (q_27, .inr (5, [.int (nI 0), .null, .null, .null, .int (nI 0)]))] := hD
  refine W.widen (k := 50) (n := 5723) (Nat.le_of_ble_eq_true rfl) (Nat.le_of_ble_eq_true rfl) ?_
  refine lv_dup hx hb d_SE_init_103 rfl ?_
  refine lv_iload_n hx hb d_SE_init_104 rfl (lv_at hl 2 rfl) ?_
  refine xw_callI (wr := [(h0, .inr (9, [.ref q_1, .ref q_4, .ref q_21, .null, .ref q_8, .ref q_9, .ref q_14, .ref q_18, .ref q_19, .ref q_20, .int (nI 0)])), (q_1, .inr (1, [.int (nI 0), .int (nI 0), .ref q1_2, .ref q2_3])), (q_4, .inr (2, [.ref q1_5, .ref q2_6, .ref q3_7, .int (nI 0)])), (q1_5, .inl (cI, 20, .inl (fun _ => 0))), (q2_6, .inl (cI, 20, .inl (fun _ => 0))), (q3_7, .inl (cI, 20, .inl (fun _ => 0))), (q_9, .inr (7, [.ref lo_10, .ref lr_11, .ref lb_12, .int (nI 0), .ref lf_13])), (lo_10, .inl (cI, 200, .inl (fun _ => (-1)))), (lb_12, .inl (cI, 201, .inl (fun _ => 0))), (lf_13, .inl (cB, 200, .inl (fun _ => 0))), (q_14, .inr (3, [.ref q1_15, .ref q2_16, .ref q3_17, .int (nI 0)])), (q_19, .inl (cI, 200, .inl (fun _ => 0))), (q_20, .inl (cI, 16, .inl (fun _ => 0))), (q_21, .inr (4, [.int (nI wk), .ref cf_22, .ref cl_23, .ref ct_24, .ref ck_25, .ref cs_26, .int (nI wk), .int (nI 0)])), (cl_23, .inl (cB, 16, .inl (fun _ => nI 1))), (ct_24, .inl (cI, 16, .inl (fun _ => 0))), (ck_25, .inl (cI, 16, .inl (fun _ => 0))), (cs_26, .inl (cI, 16, .inl (fun _ => 0)))]) [.int (nI rm)] (c_QU_init l D cI cB cL q_27 rm) ⟨hx, hb, hml, hown, hU⟩ (cwI 1 hU (xs_good uw_243) rfl rfl rfl (hU _ uw_12) (hU _ uw_241) (hU _ uw_242) rfl (by decide +kernel) ⟨Nat.le_of_ble_eq_true rfl, Nat.le_of_ble_eq_true rfl⟩) rfl hl.1 rfl (Nat.le_of_ble_eq_true rfl) d_SE_init_105 ⟨Nat.le_of_ble_eq_true rfl, Nat.le_of_ble_eq_true rfl⟩ [18] [0, 1, 2, 3, 4, 5, 6, 7, 8, 9, 10, 11, 12, 13, 14, 15, 16, 17] rfl rfl (by decide) (by decide) (by decide) hN hK hP hD hS hA (fun u H locs hf hP hD hS => ?_)
  obtain ⟨q1_28, q2_29, q3_30⟩ := u
  have hP : va_P D vwCl [(h0, .inr (9, [.ref q_1, .ref q_4, .ref q_21, .null, .ref q_8, .ref q_9, .ref q_14, .ref q_18, .ref q_19, .ref q_20, .int (nI 0)])), (q_1, .inr (1, [.int (nI 0), .int (nI 0), .ref q1_2, .ref q2_3])), (q_4, .inr (2, [.ref q1_5, .ref q2_6, .ref q3_7, .int (nI 0)])), (q1_5, .inl (cI, 20, .inl (fun _ => 0))), (q2_6, .inl (cI, 20, .inl (fun _ => 0))), (q3_7, .inl (cI, 20, .inl (fun _ => 0))), (q_9, .inr (7, [.ref lo_10, .ref lr_11, .ref lb_12, .int (nI 0), .ref lf_13])), (lo_10, .inl (cI, 200, .inl (fun _ => (-1)))), (lb_12, .inl (cI, 201, .inl (fun _ => 0))), (lf_13, .inl (cB, 200, .inl (fun _ => 0))), (q_14, .inr (3, [.ref q1_15, .ref q2_16, .ref q3_17, .int (nI 0)])), (q_19, .inl (cI, 200, .inl (fun _ => 0))), (q_20, .inl (cI, 16, .inl (fun _ => 0))), (q_21, .inr (4, [.int (nI wk), .ref cf_22, .ref cl_23, .ref ct_24, .ref ck_25, .ref cs_26, .int (nI wk), .int (nI 0)])), (cl_23, .inl (cB, 16, .inl (fun _ => nI 1))), (ct_24, .inl (cI, 16, .inl (fun _ => 0))), (ck_25, .inl (cI, 16, .inl (fun _ => 0))), (cs_26, .inl (cI, 16, .inl (fun _ => 0))), (q_27, .inr (5, [.int (nI rm), .ref q1_28, .ref q2_29, .ref q3_30, .int (nI 0)]))] H := hP
  have hD : va_D A [(h0, .inr (9, [.ref q_1, .ref q_4, .ref q_21, .null, .ref q_8, .ref q_9, .ref q_14, .ref q_18, .ref q_19, .ref q_20, .int (nI 0)])), (q_1, .inr (1, [.int (nI 0), .int (nI 0), .ref q1_2, .ref q2_3])), (q_4, .inr (2, [.ref q1_5, .ref q2_6, .ref q3_7, .int (nI 0)])), (q1_5, .inl (cI, 20, .inl (fun _ => 0))), (q2_6, .inl (cI, 20, .inl (fun _ => 0))), (q3_7, .inl (cI, 20, .inl (fun _ => 0))), (q_9, .inr (7, [.ref lo_10, .ref lr_11, .ref lb_12, .int (nI 0), .ref lf_13])), (lo_10, .inl (cI, 200, .inl (fun _ => (-1)))), (lb_12, .inl (cI, 201, .inl (fun _ => 0))), (lf_13, .inl (cB, 200, .inl (fun _ => 0))), (q_14, .inr (3, [.ref q1_15, .ref q2_16, .ref q3_17, .int (nI 0)])), (q_19, .inl (cI, 200, .inl (fun _ => 0))), (q_20, .inl (cI, 16, .inl (fun _ => 0))), (q_21, .inr (4, [.int (nI wk), .ref cf_22, .ref cl_23, .ref ct_24, .ref ck_25, .ref cs_26, .int (nI wk), .int (nI 0)])), (cl_23, .inl (cB, 16, .inl (fun _ => nI 1))), (ct_24, .inl (cI, 16, .inl (fun _ => 0))), (ck_25, .inl (cI, 16, .inl (fun _ => 0))), (cs_26, .inl (cI, 16, .inl (fun _ => 0))), (q_27, .inr (5, [.int (nI rm), .ref q1_28, .ref q2_29, .ref q3_30, .int (nI 0)]))] := hD
  refine W.widen (k := 69) (n := 5899) (Nat.le_of_ble_eq_true rfl) (Nat.le_of_ble_eq_true rfl) ?_
  refine W.eq (g2 := F0 m 108 ls [.ref q_27, .ref h0]) rfl ?_
  refine va_putF (D := D) (ci := 9) (v := .ref q_27) (ty := (.object "ExploreShares$Queues")) (C := R_SE) (T := T_SE) (N := 11) hx hb hU iw_SE ty_SE ty_SE_ok nm_SE hown hK hP hD hS 0 rfl rfl 3 (by decide) (hU _ uw_271) (fun _ h9 => h9) rfl hnm rfl (by decide +kernel) (by first | rfl | decide +kernel) (by first | rfl | decide +kernel) (Nat.le_of_ble_eq_true rfl) d_SE_init_108 (fun H locs hP hD hS => ?_)
  have hP : va_P D vwCl [(h0, .inr (9, [.ref q_1, .ref q_4, .ref q_21, .ref q_27, .ref q_8, .ref q_9, .ref q_14, .ref q_18, .ref q_19, .ref q_20, .int (nI 0)])), (q_1, .inr (1, [.int (nI 0), .int (nI 0), .ref q1_2, .ref q2_3])), (q_4, .inr (2, [.ref q1_5, .ref q2_6, .ref q3_7, .int (nI 0)])), (q1_5, .inl (cI, 20, .inl (fun _ => 0))), (q2_6, .inl (cI, 20, .inl (fun _ => 0))), (q3_7, .inl (cI, 20, .inl (fun _ => 0))), (q_9, .inr (7, [.ref lo_10, .ref lr_11, .ref lb_12, .int (nI 0), .ref lf_13])), (lo_10, .inl (cI, 200, .inl (fun _ => (-1)))), (lb_12, .inl (cI, 201, .inl (fun _ => 0))), (lf_13, .inl (cB, 200, .inl (fun _ => 0))), (q_14, .inr (3, [.ref q1_15, .ref q2_16, .ref q3_17, .int (nI 0)])), (q_19, .inl (cI, 200, .inl (fun _ => 0))), (q_20, .inl (cI, 16, .inl (fun _ => 0))), (q_21, .inr (4, [.int (nI wk), .ref cf_22, .ref cl_23, .ref ct_24, .ref ck_25, .ref cs_26, .int (nI wk), .int (nI 0)])), (cl_23, .inl (cB, 16, .inl (fun _ => nI 1))), (ct_24, .inl (cI, 16, .inl (fun _ => 0))), (ck_25, .inl (cI, 16, .inl (fun _ => 0))), (cs_26, .inl (cI, 16, .inl (fun _ => 0))), (q_27, .inr (5, [.int (nI rm), .ref q1_28, .ref q2_29, .ref q3_30, .int (nI 0)]))] H := hP
  have hD : va_D A [(h0, .inr (9, [.ref q_1, .ref q_4, .ref q_21, .ref q_27, .ref q_8, .ref q_9, .ref q_14, .ref q_18, .ref q_19, .ref q_20, .int (nI 0)])), (q_1, .inr (1, [.int (nI 0), .int (nI 0), .ref q1_2, .ref q2_3])), (q_4, .inr (2, [.ref q1_5, .ref q2_6, .ref q3_7, .int (nI 0)])), (q1_5, .inl (cI, 20, .inl (fun _ => 0))), (q2_6, .inl (cI, 20, .inl (fun _ => 0))), (q3_7, .inl (cI, 20, .inl (fun _ => 0))), (q_9, .inr (7, [.ref lo_10, .ref lr_11, .ref lb_12, .int (nI 0), .ref lf_13])), (lo_10, .inl (cI, 200, .inl (fun _ => (-1)))), (lb_12, .inl (cI, 201, .inl (fun _ => 0))), (lf_13, .inl (cB, 200, .inl (fun _ => 0))), (q_14, .inr (3, [.ref q1_15, .ref q2_16, .ref q3_17, .int (nI 0)])), (q_19, .inl (cI, 200, .inl (fun _ => 0))), (q_20, .inl (cI, 16, .inl (fun _ => 0))), (q_21, .inr (4, [.int (nI wk), .ref cf_22, .ref cl_23, .ref ct_24, .ref ck_25, .ref cs_26, .int (nI wk), .int (nI 0)])), (cl_23, .inl (cB, 16, .inl (fun _ => nI 1))), (ct_24, .inl (cI, 16, .inl (fun _ => 0))), (ck_25, .inl (cI, 16, .inl (fun _ => 0))), (cs_26, .inl (cI, 16, .inl (fun _ => 0))), (q_27, .inr (5, [.int (nI rm), .ref q1_28, .ref q2_29, .ref q3_30, .int (nI 0)]))] := hD
  have hP9 := xs_P_sub (w := [(h0, .inr (9, [.ref q_1, .ref q_4, .ref q_21, .ref q_27, .ref q_8, .ref q_9, .ref q_14, .ref q_18, .ref q_19, .ref q_20, .int (nI 0)])), (q_1, .inr (1, [.int (nI 0), .int (nI 0), .ref q1_2, .ref q2_3])), (q_4, .inr (2, [.ref q1_5, .ref q2_6, .ref q3_7, .int (nI 0)])), (q1_5, .inl (cI, 20, .inl (fun _ => 0))), (q2_6, .inl (cI, 20, .inl (fun _ => 0))), (q3_7, .inl (cI, 20, .inl (fun _ => 0))), (q_21, .inr (4, [.int (nI wk), .ref cf_22, .ref cl_23, .ref ct_24, .ref ck_25, .ref cs_26, .int (nI wk), .int (nI 0)])), (cl_23, .inl (cB, 16, .inl (fun _ => nI 1))), (ct_24, .inl (cI, 16, .inl (fun _ => 0))), (ck_25, .inl (cI, 16, .inl (fun _ => 0))), (cs_26, .inl (cI, 16, .inl (fun _ => 0))), (q_27, .inr (5, [.int (nI rm), .ref q1_28, .ref q2_29, .ref q3_30, .int (nI 0)])), (q_9, .inr (7, [.ref lo_10, .ref lr_11, .ref lb_12, .int (nI 0), .ref lf_13])), (lo_10, .inl (cI, 200, .inl (fun _ => (-1)))), (lb_12, .inl (cI, 201, .inl (fun _ => 0))), (lf_13, .inl (cB, 200, .inl (fun _ => 0))), (q_14, .inr (3, [.ref q1_15, .ref q2_16, .ref q3_17, .int (nI 0)])), (q_19, .inl (cI, 200, .inl (fun _ => 0)))]) hP [0, 1, 2, 3, 4, 5, 13, 14, 15, 16, 17, 18, 6, 7, 8, 9, 10, 11] rfl
  have hD9 := hD.sub (ws' := [(h0, .inr (9, [.ref q_1, .ref q_4, .ref q_21, .ref q_27, .ref q_8, .ref q_9, .ref q_14, .ref q_18, .ref q_19, .ref q_20, .int (nI 0)])), (q_1, .inr (1, [.int (nI 0), .int (nI 0), .ref q1_2, .ref q2_3])), (q_4, .inr (2, [.ref q1_5, .ref q2_6, .ref q3_7, .int (nI 0)])), (q1_5, .inl (cI, 20, .inl (fun _ => 0))), (q2_6, .inl (cI, 20, .inl (fun _ => 0))), (q3_7, .inl (cI, 20, .inl (fun _ => 0))), (q_21, .inr (4, [.int (nI wk), .ref cf_22, .ref cl_23, .ref ct_24, .ref ck_25, .ref cs_26, .int (nI wk), .int (nI 0)])), (cl_23, .inl (cB, 16, .inl (fun _ => nI 1))), (ct_24, .inl (cI, 16, .inl (fun _ => 0))), (ck_25, .inl (cI, 16, .inl (fun _ => 0))), (cs_26, .inl (cI, 16, .inl (fun _ => 0))), (q_27, .inr (5, [.int (nI rm), .ref q1_28, .ref q2_29, .ref q3_30, .int (nI 0)])), (q_9, .inr (7, [.ref lo_10, .ref lr_11, .ref lb_12, .int (nI 0), .ref lf_13])), (lo_10, .inl (cI, 200, .inl (fun _ => (-1)))), (lb_12, .inl (cI, 201, .inl (fun _ => 0))), (lf_13, .inl (cB, 200, .inl (fun _ => 0))), (q_14, .inr (3, [.ref q1_15, .ref q2_16, .ref q3_17, .int (nI 0)])), (q_19, .inl (cI, 200, .inl (fun _ => 0)))]) [0, 1, 2, 3, 4, 5, 13, 14, 15, 16, 17, 18, 6, 7, 8, 9, 10, 11] (by decide) rfl
  exact xw_vret (q_1, q_4, q_21, q_27, q_8, q_9, q_14, q_18, q_19, q_20, q1_2, q2_3, q1_5, q2_6, q3_7, cf_22, cl_23, ct_24, ck_25, cs_26, q1_28, q2_29, q3_30, lo_10, lr_11, lb_12, lf_13, q1_15, q2_16, q3_17) hx hb hr hlocks d_SE_init_111 (rfl) (trivial) hAe hP9 hD9 hS (Nat.le_of_ble_eq_true rfl) (Nat.le_of_ble_eq_true rfl)
end
section
set_option maxHeartbeats 4000000 in
set_option maxRecDepth 100000 in
/-- new ExploreShares -/
theorem c_X_init (l : Launch) (D : va_G) (cI cB cL : ClassId) (h0 : Nat) (a : Int32) (b : Int32) (jw : Nat) (jq : Nat) (ha : (a - nI 1) &&& nI 15 = nI jw) (hj : jw < 16) (hb9 : (b - nI 1) &&& nI 7 = nI jq) (hq : jq < 8) : xG (σ := Nat × Nat × Nat × Nat × Nat × Nat × Nat × Nat × Nat × Nat × Nat × Nat × Nat × Nat × Nat × Nat × Nat × Nat × Nat × Nat × Nat × Nat × Nat × Nat × Nat × Nat × Nat × Nat × Nat × Nat × Nat) l y_X_init w_X_init ({ frames := 3, cells := 70, slots := 5910, locals := 66  } : Room) D vwCl (xs_tys cI cB cL) [.ref h0, .int a, .int b] [(h0, .inr (0, [.null, .null, .null, .null]))] (fun (sx, sn, sp, sc, sq, sl, sv, sg, sw, sk, sb, nb, nt, p1, p2, p3, cf, cl, ct, ck, cs, qr, qf, qh, lo, lr, lb, lf, g1, g2, g3) => True) (fun (sx, sn, sp, sc, sq, sl, sv, sg, sw, sk, sb, nb, nt, p1, p2, p3, cf, cl, ct, ck, cs, qr, qf, qh, lo, lr, lb, lf, g1, g2, g3) => none) (fun (sx, sn, sp, sc, sq, sl, sv, sg, sw, sk, sb, nb, nt, p1, p2, p3, cf, cl, ct, ck, cs, qr, qf, qh, lo, lr, lb, lf, g1, g2, g3) => [(h0, .inr (0, [.ref sx, .ref sn, .ref sp, .ref sc])), (sx, .inr (9, [.ref sn, .ref sp, .ref sc, .ref sq, .ref sl, .ref sv, .ref sg, .ref sw, .ref sk, .ref sb, .int (nI 0)])), (sn, .inr (1, [.int (nI 0), .int (nI 0), .ref nb, .ref nt])), (sp, .inr (2, [.ref p1, .ref p2, .ref p3, .int (nI 0)])), (p1, .inl (cI, 20, .inl (fun _ => 0))), (p2, .inl (cI, 20, .inl (fun _ => 0))), (p3, .inl (cI, 20, .inl (fun _ => 0))), (sc, .inr (4, [.int (nI (1 + jw)), .ref cf, .ref cl, .ref ct, .ref ck, .ref cs, .int (nI (1 + jw)), .int (nI 0)])), (cl, .inl (cB, 16, .inl (fun _ => nI 1))), (ct, .inl (cI, 16, .inl (fun _ => 0))), (ck, .inl (cI, 16, .inl (fun _ => 0))), (cs, .inl (cI, 16, .inl (fun _ => 0))), (sq, .inr (5, [.int (nI (1 + jq)), .ref qr, .ref qf, .ref qh, .int (nI 0)])), (sv, .inr (7, [.ref lo, .ref lr, .ref lb, .int (nI 0), .ref lf])), (lo, .inl (cI, 200, .inl (fun _ => (-1)))), (lb, .inl (cI, 201, .inl (fun _ => 0))), (lf, .inl (cB, 200, .inl (fun _ => 0))), (sg, .inr (3, [.ref g1, .ref g2, .ref g3, .int (nI 0)])), (sk, .inl (cI, 200, .inl (fun _ => 0)))]) := by
  refine xG.of b_X_init 3 (none) (by decide +kernel) rfl (Nat.le_of_ble_eq_true rfl) ?_
  intro p e s m below meth c A ls hAe C0 hP hD hS hl
  obtain ⟨hx, hb, hr, hml, hown, hlocks, hts, hnm, hN, hK, hA⟩ := C0
  have hU : ∀ w ∈ xU, w.before #[.ref h0, .int a, .int b] s = true := fun w h => hts w (List.mem_cons_of_mem _ h)
  have hl : lv_has ls 3 [(0, .ref h0), (1, .int a), (2, .int b)] := hl
  refine lv_aload_n hx hb d_X_init_0 rfl (lv_at hl 0 rfl) ?_
  refine W.objInit hx hb hown (hU _ uw_26) (hU _ uw_27) (hU _ uw_28) rfl (by rw [hml]; exact hl.1) rfl d_X_init_1 (Nat.le_of_ble_eq_true rfl) (Nat.le_of_ble_eq_true rfl) ?_
  refine W.eq (g2 := F0 m 4 ls []) rfl ?_
  refine lv_aload_n hx hb d_X_init_4 rfl (lv_at hl 0 rfl) ?_
  refine va_new (ci := 9) (fs := [.null, .null, .null, .null, .null, .null, .null, .null, .null, .null, .int (nI 0)]) (C := R_SE) (T := T_SE) (N := 11) hx hb hU iw_SE ty_SE ty_SE_ok hown (hU _ uw_29) (hU _ uw_30) (hU _ uw_2) hK hP hD hS hA rfl (fun j hj => by rcases (show j = 0 ∨ j = 1 ∨ j = 2 ∨ j = 3 ∨ j = 4 ∨ j = 5 ∨ j = 6 ∨ j = 7 ∨ j = 8 ∨ j = 9 ∨ j = 10 by omega) with rfl | rfl | rfl | rfl | rfl | rfl | rfl | rfl | rfl | rfl | rfl <;> rfl) (Nat.le_of_ble_eq_true rfl) (Nat.le_of_ble_eq_true rfl) d_X_init_5 (fun q_1 H hP hD hS => ?_)
  have hP : va_P D vwCl [(h0, .inr (0, [.null, .null, .null, .null])), (q_1, .inr (9, [.null, .null, .null, .null, .null, .null, .null, .null, .null, .null, .int (nI 0)]))] H := hP
  have hD : va_D A [(h0, .inr (0, [.null, .null, .null, .null])), (q_1, .inr (9, [.null, .null, .null, .null, .null, .null, .null, .null, .null, .null, .int (nI 0)]))] := hD
  refine W.widen (k := 1) (n := 11) (Nat.le_of_ble_eq_true rfl) (Nat.le_of_ble_eq_true rfl) ?_
  refine lv_dup hx hb d_X_init_8 rfl ?_
  refine lv_iconst (v := nI 1) hx hb d_X_init_9 (by decide +kernel) ?_
  refine lv_iload_n hx hb d_X_init_10 rfl (lv_at hl 1 rfl) ?_
  refine lv_iconst (v := nI 1) hx hb d_X_init_11 (by decide +kernel) ?_
  refine lv_isub hx hb d_X_init_12 ?_
  refine lv_bipush (v := nI 16) hx hb d_X_init_13 (by decide +kernel) ?_
  refine xw_callS (wr := [(h0, .inr (0, [.null, .null, .null, .null])), (q_1, .inr (9, [.null, .null, .null, .null, .null, .null, .null, .null, .null, .null, .int (nI 0)]))]) [.int (a - (nI 1)), .int (nI 16)] (c_floorMod16 l D cI cB cL (a - (nI 1))) ⟨hx, hb, hml, hown, hU⟩ (va_cwS 2 hU (xs_goodS uw_31 uw_32 uw_3 uw_33) rfl rfl rfl (by decide +kernel) ⟨Nat.le_of_ble_eq_true rfl, Nat.le_of_ble_eq_true rfl⟩) rfl hl.1 rfl (Nat.le_of_ble_eq_true rfl) d_X_init_15 ⟨Nat.le_of_ble_eq_true rfl, Nat.le_of_ble_eq_true rfl⟩ [] [0, 1] rfl rfl (by decide) (by decide) (by decide) hN hK hP hD hS hA (fun u H locs hf hP hD hS => ?_)
  have hP : va_P D vwCl [(h0, .inr (0, [.null, .null, .null, .null])), (q_1, .inr (9, [.null, .null, .null, .null, .null, .null, .null, .null, .null, .null, .int (nI 0)]))] H := hP
  have hD : va_D A [(h0, .inr (0, [.null, .null, .null, .null])), (q_1, .inr (9, [.null, .null, .null, .null, .null, .null, .null, .null, .null, .null, .int (nI 0)]))] := hD
  refine W.widen (k := 1) (n := 11) (Nat.le_of_ble_eq_true rfl) (Nat.le_of_ble_eq_true rfl) ?_
  refine W.eq (g2 := F0 m 18 ls [.int ((a - (nI 1)) &&& nI 15), .int (nI 1), .ref q_1, .ref q_1, .ref h0]) rfl ?_
  refine lv_iadd hx hb d_X_init_18 ?_
  refine xw_top (nI (1 + jw)) (by rw [ha, nI_add]) ?_
  refine lv_iconst (v := nI 1) hx hb d_X_init_19 (by decide +kernel) ?_
  refine lv_iload_n hx hb d_X_init_20 rfl (lv_at hl 2 rfl) ?_
  refine lv_iconst (v := nI 1) hx hb d_X_init_21 (by decide +kernel) ?_
  refine lv_isub hx hb d_X_init_22 ?_
  refine lv_bipush (v := nI 8) hx hb d_X_init_23 (by decide +kernel) ?_
  refine xw_callS (wr := [(h0, .inr (0, [.null, .null, .null, .null])), (q_1, .inr (9, [.null, .null, .null, .null, .null, .null, .null, .null, .null, .null, .int (nI 0)]))]) [.int (b - (nI 1)), .int (nI 8)] (c_floorMod8 l D cI cB cL (b - (nI 1))) ⟨hx, hb, hml, hown, hU⟩ (va_cwS 2 hU (xs_goodS uw_31 uw_32 uw_3 uw_33) rfl rfl rfl (by decide +kernel) ⟨Nat.le_of_ble_eq_true rfl, Nat.le_of_ble_eq_true rfl⟩) rfl hl.1 rfl (Nat.le_of_ble_eq_true rfl) d_X_init_25 ⟨Nat.le_of_ble_eq_true rfl, Nat.le_of_ble_eq_true rfl⟩ [] [0, 1] rfl rfl (by decide) (by decide) (by decide) hN hK hP hD hS hA (fun u H locs hf hP hD hS => ?_)
  have hP : va_P D vwCl [(h0, .inr (0, [.null, .null, .null, .null])), (q_1, .inr (9, [.null, .null, .null, .null, .null, .null, .null, .null, .null, .null, .int (nI 0)]))] H := hP
  have hD : va_D A [(h0, .inr (0, [.null, .null, .null, .null])), (q_1, .inr (9, [.null, .null, .null, .null, .null, .null, .null, .null, .null, .null, .int (nI 0)]))] := hD
  refine W.widen (k := 1) (n := 11) (Nat.le_of_ble_eq_true rfl) (Nat.le_of_ble_eq_true rfl) ?_
  refine W.eq (g2 := F0 m 28 ls [.int ((b - (nI 1)) &&& nI 7), .int (nI 1), .int (nI (1 + jw)), .ref q_1, .ref q_1, .ref h0]) rfl ?_
  refine lv_iadd hx hb d_X_init_28 ?_
  refine xw_top (nI (1 + jq)) (by rw [hb9, nI_add]) ?_
  refine xw_callI (wr := [(h0, .inr (0, [.null, .null, .null, .null]))]) [.int (nI (1 + jw)), .int (nI (1 + jq))] (c_SE_init l D cI cB cL q_1 (1 + jw) (1 + jq) (by omega) (by omega)) ⟨hx, hb, hml, hown, hU⟩ (cwI 2 hU (xs_good uw_36) rfl rfl rfl (hU _ uw_2) (hU _ uw_34) (hU _ uw_35) rfl (by decide +kernel) ⟨Nat.le_of_ble_eq_true rfl, Nat.le_of_ble_eq_true rfl⟩) rfl hl.1 rfl (Nat.le_of_ble_eq_true rfl) d_X_init_29 ⟨Nat.le_of_ble_eq_true rfl, Nat.le_of_ble_eq_true rfl⟩ [1] [0] rfl rfl (by decide) (by decide) (by decide) hN hK hP hD hS hA (fun u H locs hf hP hD hS => ?_)
  obtain ⟨sn_2, sp_3, sc_4, sq_5, sl_6, sv_7, sg_8, sw_9, sk_10, sb_11, nb_12, nt_13, p1_14, p2_15, p3_16, cf_17, cl_18, ct_19, ck_20, cs_21, qr_22, qf_23, qh_24, lo_25, lr_26, lb_27, lf_28, g1_29, g2_30, g3_31⟩ := u
  have hP : va_P D vwCl [(h0, .inr (0, [.null, .null, .null, .null])), (q_1, .inr (9, [.ref sn_2, .ref sp_3, .ref sc_4, .ref sq_5, .ref sl_6, .ref sv_7, .ref sg_8, .ref sw_9, .ref sk_10, .ref sb_11, .int (nI 0)])), (sn_2, .inr (1, [.int (nI 0), .int (nI 0), .ref nb_12, .ref nt_13])), (sp_3, .inr (2, [.ref p1_14, .ref p2_15, .ref p3_16, .int (nI 0)])), (p1_14, .inl (cI, 20, .inl (fun _ => 0))), (p2_15, .inl (cI, 20, .inl (fun _ => 0))), (p3_16, .inl (cI, 20, .inl (fun _ => 0))), (sc_4, .inr (4, [.int (nI (1 + jw)), .ref cf_17, .ref cl_18, .ref ct_19, .ref ck_20, .ref cs_21, .int (nI (1 + jw)), .int (nI 0)])), (cl_18, .inl (cB, 16, .inl (fun _ => nI 1))), (ct_19, .inl (cI, 16, .inl (fun _ => 0))), (ck_20, .inl (cI, 16, .inl (fun _ => 0))), (cs_21, .inl (cI, 16, .inl (fun _ => 0))), (sq_5, .inr (5, [.int (nI (1 + jq)), .ref qr_22, .ref qf_23, .ref qh_24, .int (nI 0)])), (sv_7, .inr (7, [.ref lo_25, .ref lr_26, .ref lb_27, .int (nI 0), .ref lf_28])), (lo_25, .inl (cI, 200, .inl (fun _ => (-1)))), (lb_27, .inl (cI, 201, .inl (fun _ => 0))), (lf_28, .inl (cB, 200, .inl (fun _ => 0))), (sg_8, .inr (3, [.ref g1_29, .ref g2_30, .ref g3_31, .int (nI 0)])), (sk_10, .inl (cI, 200, .inl (fun _ => 0)))] H := hP
  have hD : va_D A [(h0, .inr (0, [.null, .null, .null, .null])), (q_1, .inr (9, [.ref sn_2, .ref sp_3, .ref sc_4, .ref sq_5, .ref sl_6, .ref sv_7, .ref sg_8, .ref sw_9, .ref sk_10, .ref sb_11, .int (nI 0)])), (sn_2, .inr (1, [.int (nI 0), .int (nI 0), .ref nb_12, .ref nt_13])), (sp_3, .inr (2, [.ref p1_14, .ref p2_15, .ref p3_16, .int (nI 0)])), (p1_14, .inl (cI, 20, .inl (fun _ => 0))), (p2_15, .inl (cI, 20, .inl (fun _ => 0))), (p3_16, .inl (cI, 20, .inl (fun _ => 0))), (sc_4, .inr (4, [.int (nI (1 + jw)), .ref cf_17, .ref cl_18, .ref ct_19, .ref ck_20, .ref cs_21, .int (nI (1 + jw)), .int (nI 0)])), (cl_18, .inl (cB, 16, .inl (fun _ => nI 1))), (ct_19, .inl (cI, 16, .inl (fun _ => 0))), (ck_20, .inl (cI, 16, .inl (fun _ => 0))), (cs_21, .inl (cI, 16, .inl (fun _ => 0))), (sq_5, .inr (5, [.int (nI (1 + jq)), .ref qr_22, .ref qf_23, .ref qh_24, .int (nI 0)])), (sv_7, .inr (7, [.ref lo_25, .ref lr_26, .ref lb_27, .int (nI 0), .ref lf_28])), (lo_25, .inl (cI, 200, .inl (fun _ => (-1)))), (lb_27, .inl (cI, 201, .inl (fun _ => 0))), (lf_28, .inl (cB, 200, .inl (fun _ => 0))), (sg_8, .inr (3, [.ref g1_29, .ref g2_30, .ref g3_31, .int (nI 0)])), (sk_10, .inl (cI, 200, .inl (fun _ => 0)))] := hD
  refine W.widen (k := 70) (n := 5910) (Nat.le_of_ble_eq_true rfl) (Nat.le_of_ble_eq_true rfl) ?_
  refine W.eq (g2 := F0 m 32 ls [.ref q_1, .ref h0]) rfl ?_
  refine va_putF (D := D) (ci := 0) (v := .ref q_1) (ty := (.object "ExploreShares$Search")) (C := R_X) (T := T_X) (N := 4) hx hb hU iw_X ty_X ty_X_ok nm_X hown hK hP hD hS 0 rfl rfl 0 (by decide) (hU _ uw_307) (fun _ h9 => h9) rfl hnm rfl (by decide +kernel) (by first | rfl | decide +kernel) (by first | rfl | decide +kernel) (Nat.le_of_ble_eq_true rfl) d_X_init_32 (fun H locs hP hD hS => ?_)
  have hP : va_P D vwCl [(h0, .inr (0, [.ref q_1, .null, .null, .null])), (q_1, .inr (9, [.ref sn_2, .ref sp_3, .ref sc_4, .ref sq_5, .ref sl_6, .ref sv_7, .ref sg_8, .ref sw_9, .ref sk_10, .ref sb_11, .int (nI 0)])), (sn_2, .inr (1, [.int (nI 0), .int (nI 0), .ref nb_12, .ref nt_13])), (sp_3, .inr (2, [.ref p1_14, .ref p2_15, .ref p3_16, .int (nI 0)])), (p1_14, .inl (cI, 20, .inl (fun _ => 0))), (p2_15, .inl (cI, 20, .inl (fun _ => 0))), (p3_16, .inl (cI, 20, .inl (fun _ => 0))), (sc_4, .inr (4, [.int (nI (1 + jw)), .ref cf_17, .ref cl_18, .ref ct_19, .ref ck_20, .ref cs_21, .int (nI (1 + jw)), .int (nI 0)])), (cl_18, .inl (cB, 16, .inl (fun _ => nI 1))), (ct_19, .inl (cI, 16, .inl (fun _ => 0))), (ck_20, .inl (cI, 16, .inl (fun _ => 0))), (cs_21, .inl (cI, 16, .inl (fun _ => 0))), (sq_5, .inr (5, [.int (nI (1 + jq)), .ref qr_22, .ref qf_23, .ref qh_24, .int (nI 0)])), (sv_7, .inr (7, [.ref lo_25, .ref lr_26, .ref lb_27, .int (nI 0), .ref lf_28])), (lo_25, .inl (cI, 200, .inl (fun _ => (-1)))), (lb_27, .inl (cI, 201, .inl (fun _ => 0))), (lf_28, .inl (cB, 200, .inl (fun _ => 0))), (sg_8, .inr (3, [.ref g1_29, .ref g2_30, .ref g3_31, .int (nI 0)])), (sk_10, .inl (cI, 200, .inl (fun _ => 0)))] H := hP
  have hD : va_D A [(h0, .inr (0, [.ref q_1, .null, .null, .null])), (q_1, .inr (9, [.ref sn_2, .ref sp_3, .ref sc_4, .ref sq_5, .ref sl_6, .ref sv_7, .ref sg_8, .ref sw_9, .ref sk_10, .ref sb_11, .int (nI 0)])), (sn_2, .inr (1, [.int (nI 0), .int (nI 0), .ref nb_12, .ref nt_13])), (sp_3, .inr (2, [.ref p1_14, .ref p2_15, .ref p3_16, .int (nI 0)])), (p1_14, .inl (cI, 20, .inl (fun _ => 0))), (p2_15, .inl (cI, 20, .inl (fun _ => 0))), (p3_16, .inl (cI, 20, .inl (fun _ => 0))), (sc_4, .inr (4, [.int (nI (1 + jw)), .ref cf_17, .ref cl_18, .ref ct_19, .ref ck_20, .ref cs_21, .int (nI (1 + jw)), .int (nI 0)])), (cl_18, .inl (cB, 16, .inl (fun _ => nI 1))), (ct_19, .inl (cI, 16, .inl (fun _ => 0))), (ck_20, .inl (cI, 16, .inl (fun _ => 0))), (cs_21, .inl (cI, 16, .inl (fun _ => 0))), (sq_5, .inr (5, [.int (nI (1 + jq)), .ref qr_22, .ref qf_23, .ref qh_24, .int (nI 0)])), (sv_7, .inr (7, [.ref lo_25, .ref lr_26, .ref lb_27, .int (nI 0), .ref lf_28])), (lo_25, .inl (cI, 200, .inl (fun _ => (-1)))), (lb_27, .inl (cI, 201, .inl (fun _ => 0))), (lf_28, .inl (cB, 200, .inl (fun _ => 0))), (sg_8, .inr (3, [.ref g1_29, .ref g2_30, .ref g3_31, .int (nI 0)])), (sk_10, .inl (cI, 200, .inl (fun _ => 0)))] := hD
  refine lv_aload_n hx hb d_X_init_35 rfl (lv_at hl 0 rfl) ?_
  refine lv_aload_n hx hb d_X_init_36 rfl (lv_at hl 0 rfl) ?_
  refine va_get (D := D) (ci := 0) (v := .ref q_1) (C := R_X) (T := T_X) (N := 4) hx hb hU iw_X hown hK hP 0 rfl rfl 0 (by decide) (hU _ uw_307) (fun _ h9 => h9) rfl d_X_init_37 ?_
  refine va_getN (D := D) (ci := 9) (v := .ref sn_2) (C := R_SE) (T := T_SE) (N := 11) hx hb hU iw_SE hown hK hP 1 rfl rfl 0 (by decide) (va_Nw.use rfl (hN _ nw_266)) (fun _ h9 => h9) rfl d_X_init_40 ?_
  refine va_putF (D := D) (ci := 0) (v := .ref sn_2) (ty := (.object "ExploreShares$Net")) (C := R_X) (T := T_X) (N := 4) hx hb hU iw_X ty_X ty_X_ok nm_X hown hK hP hD hS 0 rfl rfl 1 (by decide) (hU _ uw_308) (fun _ h9 => h9) rfl hnm rfl (by decide +kernel) (by first | rfl | decide +kernel) (by first | rfl | decide +kernel) (Nat.le_of_ble_eq_true rfl) d_X_init_43 (fun H locs hP hD hS => ?_)
  have hP : va_P D vwCl [(h0, .inr (0, [.ref q_1, .ref sn_2, .null, .null])), (q_1, .inr (9, [.ref sn_2, .ref sp_3, .ref sc_4, .ref sq_5, .ref sl_6, .ref sv_7, .ref sg_8, .ref sw_9, .ref sk_10, .ref sb_11, .int (nI 0)])), (sn_2, .inr (1, [.int (nI 0), .int (nI 0), .ref nb_12, .ref nt_13])), (sp_3, .inr (2, [.ref p1_14, .ref p2_15, .ref p3_16, .int (nI 0)])), (p1_14, .inl (cI, 20, .inl (fun _ => 0))), (p2_15, .inl (cI, 20, .inl (fun _ => 0))), (p3_16, .inl (cI, 20, .inl (fun _ => 0))), (sc_4, .inr (4, [.int (nI (1 + jw)), .ref cf_17, .ref cl_18, .ref ct_19, .ref ck_20, .ref cs_21, .int (nI (1 + jw)), .int (nI 0)])), (cl_18, .inl (cB, 16, .inl (fun _ => nI 1))), (ct_19, .inl (cI, 16, .inl (fun _ => 0))), (ck_20, .inl (cI, 16, .inl (fun _ => 0))), (cs_21, .inl (cI, 16, .inl (fun _ => 0))), (sq_5, .inr (5, [.int (nI (1 + jq)), .ref qr_22, .ref qf_23, .ref qh_24, .int (nI 0)])), (sv_7, .inr (7, [.ref lo_25, .ref lr_26, .ref lb_27, .int (nI 0), .ref lf_28])), (lo_25, .inl (cI, 200, .inl (fun _ => (-1)))), (lb_27, .inl (cI, 201, .inl (fun _ => 0))), (lf_28, .inl (cB, 200, .inl (fun _ => 0))), (sg_8, .inr (3, [.ref g1_29, .ref g2_30, .ref g3_31, .int (nI 0)])), (sk_10, .inl (cI, 200, .inl (fun _ => 0)))] H := hP
  have hD : va_D A [(h0, .inr (0, [.ref q_1, .ref sn_2, .null, .null])), (q_1, .inr (9, [.ref sn_2, .ref sp_3, .ref sc_4, .ref sq_5, .ref sl_6, .ref sv_7, .ref sg_8, .ref sw_9, .ref sk_10, .ref sb_11, .int (nI 0)])), (sn_2, .inr (1, [.int (nI 0), .int (nI 0), .ref nb_12, .ref nt_13])), (sp_3, .inr (2, [.ref p1_14, .ref p2_15, .ref p3_16, .int (nI 0)])), (p1_14, .inl (cI, 20, .inl (fun _ => 0))), (p2_15, .inl (cI, 20, .inl (fun _ => 0))), (p3_16, .inl (cI, 20, .inl (fun _ => 0))), (sc_4, .inr (4, [.int (nI (1 + jw)), .ref cf_17, .ref cl_18, .ref ct_19, .ref ck_20, .ref cs_21, .int (nI (1 + jw)), .int (nI 0)])), (cl_18, .inl (cB, 16, .inl (fun _ => nI 1))), (ct_19, .inl (cI, 16, .inl (fun _ => 0))), (ck_20, .inl (cI, 16, .inl (fun _ => 0))), (cs_21, .inl (cI, 16, .inl (fun _ => 0))), (sq_5, .inr (5, [.int (nI (1 + jq)), .ref qr_22, .ref qf_23, .ref qh_24, .int (nI 0)])), (sv_7, .inr (7, [.ref lo_25, .ref lr_26, .ref lb_27, .int (nI 0), .ref lf_28])), (lo_25, .inl (cI, 200, .inl (fun _ => (-1)))), (lb_27, .inl (cI, 201, .inl (fun _ => 0))), (lf_28, .inl (cB, 200, .inl (fun _ => 0))), (sg_8, .inr (3, [.ref g1_29, .ref g2_30, .ref g3_31, .int (nI 0)])), (sk_10, .inl (cI, 200, .inl (fun _ => 0)))] := hD
  refine lv_aload_n hx hb d_X_init_46 rfl (lv_at hl 0 rfl) ?_
  refine lv_aload_n hx hb d_X_init_47 rfl (lv_at hl 0 rfl) ?_
  refine va_get (D := D) (ci := 0) (v := .ref q_1) (C := R_X) (T := T_X) (N := 4) hx hb hU iw_X hown hK hP 0 rfl rfl 0 (by decide) (hU _ uw_307) (fun _ h9 => h9) rfl d_X_init_48 ?_
  refine va_getN (D := D) (ci := 9) (v := .ref sp_3) (C := R_SE) (T := T_SE) (N := 11) hx hb hU iw_SE hown hK hP 1 rfl rfl 1 (by decide) (va_Nw.use rfl (hN _ nw_268)) (fun _ h9 => h9) rfl d_X_init_51 ?_
  refine va_putF (D := D) (ci := 0) (v := .ref sp_3) (ty := (.object "ExploreShares$FailPlan")) (C := R_X) (T := T_X) (N := 4) hx hb hU iw_X ty_X ty_X_ok nm_X hown hK hP hD hS 0 rfl rfl 2 (by decide) (hU _ uw_309) (fun _ h9 => h9) rfl hnm rfl (by decide +kernel) (by first | rfl | decide +kernel) (by first | rfl | decide +kernel) (Nat.le_of_ble_eq_true rfl) d_X_init_54 (fun H locs hP hD hS => ?_)
  have hP : va_P D vwCl [(h0, .inr (0, [.ref q_1, .ref sn_2, .ref sp_3, .null])), (q_1, .inr (9, [.ref sn_2, .ref sp_3, .ref sc_4, .ref sq_5, .ref sl_6, .ref sv_7, .ref sg_8, .ref sw_9, .ref sk_10, .ref sb_11, .int (nI 0)])), (sn_2, .inr (1, [.int (nI 0), .int (nI 0), .ref nb_12, .ref nt_13])), (sp_3, .inr (2, [.ref p1_14, .ref p2_15, .ref p3_16, .int (nI 0)])), (p1_14, .inl (cI, 20, .inl (fun _ => 0))), (p2_15, .inl (cI, 20, .inl (fun _ => 0))), (p3_16, .inl (cI, 20, .inl (fun _ => 0))), (sc_4, .inr (4, [.int (nI (1 + jw)), .ref cf_17, .ref cl_18, .ref ct_19, .ref ck_20, .ref cs_21, .int (nI (1 + jw)), .int (nI 0)])), (cl_18, .inl (cB, 16, .inl (fun _ => nI 1))), (ct_19, .inl (cI, 16, .inl (fun _ => 0))), (ck_20, .inl (cI, 16, .inl (fun _ => 0))), (cs_21, .inl (cI, 16, .inl (fun _ => 0))), (sq_5, .inr (5, [.int (nI (1 + jq)), .ref qr_22, .ref qf_23, .ref qh_24, .int (nI 0)])), (sv_7, .inr (7, [.ref lo_25, .ref lr_26, .ref lb_27, .int (nI 0), .ref lf_28])), (lo_25, .inl (cI, 200, .inl (fun _ => (-1)))), (lb_27, .inl (cI, 201, .inl (fun _ => 0))), (lf_28, .inl (cB, 200, .inl (fun _ => 0))), (sg_8, .inr (3, [.ref g1_29, .ref g2_30, .ref g3_31, .int (nI 0)])), (sk_10, .inl (cI, 200, .inl (fun _ => 0)))] H := hP
  have hD : va_D A [(h0, .inr (0, [.ref q_1, .ref sn_2, .ref sp_3, .null])), (q_1, .inr (9, [.ref sn_2, .ref sp_3, .ref sc_4, .ref sq_5, .ref sl_6, .ref sv_7, .ref sg_8, .ref sw_9, .ref sk_10, .ref sb_11, .int (nI 0)])), (sn_2, .inr (1, [.int (nI 0), .int (nI 0), .ref nb_12, .ref nt_13])), (sp_3, .inr (2, [.ref p1_14, .ref p2_15, .ref p3_16, .int (nI 0)])), (p1_14, .inl (cI, 20, .inl (fun _ => 0))), (p2_15, .inl (cI, 20, .inl (fun _ => 0))), (p3_16, .inl (cI, 20, .inl (fun _ => 0))), (sc_4, .inr (4, [.int (nI (1 + jw)), .ref cf_17, .ref cl_18, .ref ct_19, .ref ck_20, .ref cs_21, .int (nI (1 + jw)), .int (nI 0)])), (cl_18, .inl (cB, 16, .inl (fun _ => nI 1))), (ct_19, .inl (cI, 16, .inl (fun _ => 0))), (ck_20, .inl (cI, 16, .inl (fun _ => 0))), (cs_21, .inl (cI, 16, .inl (fun _ => 0))), (sq_5, .inr (5, [.int (nI (1 + jq)), .ref qr_22, .ref qf_23, .ref qh_24, .int (nI 0)])), (sv_7, .inr (7, [.ref lo_25, .ref lr_26, .ref lb_27, .int (nI 0), .ref lf_28])), (lo_25, .inl (cI, 200, .inl (fun _ => (-1)))), (lb_27, .inl (cI, 201, .inl (fun _ => 0))), (lf_28, .inl (cB, 200, .inl (fun _ => 0))), (sg_8, .inr (3, [.ref g1_29, .ref g2_30, .ref g3_31, .int (nI 0)])), (sk_10, .inl (cI, 200, .inl (fun _ => 0)))] := hD
  refine lv_aload_n hx hb d_X_init_57 rfl (lv_at hl 0 rfl) ?_
  refine lv_aload_n hx hb d_X_init_58 rfl (lv_at hl 0 rfl) ?_
  refine va_get (D := D) (ci := 0) (v := .ref q_1) (C := R_X) (T := T_X) (N := 4) hx hb hU iw_X hown hK hP 0 rfl rfl 0 (by decide) (hU _ uw_307) (fun _ h9 => h9) rfl d_X_init_59 ?_
  refine va_getN (D := D) (ci := 9) (v := .ref sc_4) (C := R_SE) (T := T_SE) (N := 11) hx hb hU iw_SE hown hK hP 1 rfl rfl 2 (by decide) (va_Nw.use rfl (hN _ nw_269)) (fun _ h9 => h9) rfl d_X_init_62 ?_
  refine va_putF (D := D) (ci := 0) (v := .ref sc_4) (ty := (.object "ExploreShares$Crew")) (C := R_X) (T := T_X) (N := 4) hx hb hU iw_X ty_X ty_X_ok nm_X hown hK hP hD hS 0 rfl rfl 3 (by decide) (hU _ uw_310) (fun _ h9 => h9) rfl hnm rfl (by decide +kernel) (by first | rfl | decide +kernel) (by first | rfl | decide +kernel) (Nat.le_of_ble_eq_true rfl) d_X_init_65 (fun H locs hP hD hS => ?_)
  have hP : va_P D vwCl [(h0, .inr (0, [.ref q_1, .ref sn_2, .ref sp_3, .ref sc_4])), (q_1, .inr (9, [.ref sn_2, .ref sp_3, .ref sc_4, .ref sq_5, .ref sl_6, .ref sv_7, .ref sg_8, .ref sw_9, .ref sk_10, .ref sb_11, .int (nI 0)])), (sn_2, .inr (1, [.int (nI 0), .int (nI 0), .ref nb_12, .ref nt_13])), (sp_3, .inr (2, [.ref p1_14, .ref p2_15, .ref p3_16, .int (nI 0)])), (p1_14, .inl (cI, 20, .inl (fun _ => 0))), (p2_15, .inl (cI, 20, .inl (fun _ => 0))), (p3_16, .inl (cI, 20, .inl (fun _ => 0))), (sc_4, .inr (4, [.int (nI (1 + jw)), .ref cf_17, .ref cl_18, .ref ct_19, .ref ck_20, .ref cs_21, .int (nI (1 + jw)), .int (nI 0)])), (cl_18, .inl (cB, 16, .inl (fun _ => nI 1))), (ct_19, .inl (cI, 16, .inl (fun _ => 0))), (ck_20, .inl (cI, 16, .inl (fun _ => 0))), (cs_21, .inl (cI, 16, .inl (fun _ => 0))), (sq_5, .inr (5, [.int (nI (1 + jq)), .ref qr_22, .ref qf_23, .ref qh_24, .int (nI 0)])), (sv_7, .inr (7, [.ref lo_25, .ref lr_26, .ref lb_27, .int (nI 0), .ref lf_28])), (lo_25, .inl (cI, 200, .inl (fun _ => (-1)))), (lb_27, .inl (cI, 201, .inl (fun _ => 0))), (lf_28, .inl (cB, 200, .inl (fun _ => 0))), (sg_8, .inr (3, [.ref g1_29, .ref g2_30, .ref g3_31, .int (nI 0)])), (sk_10, .inl (cI, 200, .inl (fun _ => 0)))] H := hP
  have hD : va_D A [(h0, .inr (0, [.ref q_1, .ref sn_2, .ref sp_3, .ref sc_4])), (q_1, .inr (9, [.ref sn_2, .ref sp_3, .ref sc_4, .ref sq_5, .ref sl_6, .ref sv_7, .ref sg_8, .ref sw_9, .ref sk_10, .ref sb_11, .int (nI 0)])), (sn_2, .inr (1, [.int (nI 0), .int (nI 0), .ref nb_12, .ref nt_13])), (sp_3, .inr (2, [.ref p1_14, .ref p2_15, .ref p3_16, .int (nI 0)])), (p1_14, .inl (cI, 20, .inl (fun _ => 0))), (p2_15, .inl (cI, 20, .inl (fun _ => 0))), (p3_16, .inl (cI, 20, .inl (fun _ => 0))), (sc_4, .inr (4, [.int (nI (1 + jw)), .ref cf_17, .ref cl_18, .ref ct_19, .ref ck_20, .ref cs_21, .int (nI (1 + jw)), .int (nI 0)])), (cl_18, .inl (cB, 16, .inl (fun _ => nI 1))), (ct_19, .inl (cI, 16, .inl (fun _ => 0))), (ck_20, .inl (cI, 16, .inl (fun _ => 0))), (cs_21, .inl (cI, 16, .inl (fun _ => 0))), (sq_5, .inr (5, [.int (nI (1 + jq)), .ref qr_22, .ref qf_23, .ref qh_24, .int (nI 0)])), (sv_7, .inr (7, [.ref lo_25, .ref lr_26, .ref lb_27, .int (nI 0), .ref lf_28])), (lo_25, .inl (cI, 200, .inl (fun _ => (-1)))), (lb_27, .inl (cI, 201, .inl (fun _ => 0))), (lf_28, .inl (cB, 200, .inl (fun _ => 0))), (sg_8, .inr (3, [.ref g1_29, .ref g2_30, .ref g3_31, .int (nI 0)])), (sk_10, .inl (cI, 200, .inl (fun _ => 0)))] := hD
  have hP9 := xs_P_sub (w := [(h0, .inr (0, [.ref q_1, .ref sn_2, .ref sp_3, .ref sc_4])), (q_1, .inr (9, [.ref sn_2, .ref sp_3, .ref sc_4, .ref sq_5, .ref sl_6, .ref sv_7, .ref sg_8, .ref sw_9, .ref sk_10, .ref sb_11, .int (nI 0)])), (sn_2, .inr (1, [.int (nI 0), .int (nI 0), .ref nb_12, .ref nt_13])), (sp_3, .inr (2, [.ref p1_14, .ref p2_15, .ref p3_16, .int (nI 0)])), (p1_14, .inl (cI, 20, .inl (fun _ => 0))), (p2_15, .inl (cI, 20, .inl (fun _ => 0))), (p3_16, .inl (cI, 20, .inl (fun _ => 0))), (sc_4, .inr (4, [.int (nI (1 + jw)), .ref cf_17, .ref cl_18, .ref ct_19, .ref ck_20, .ref cs_21, .int (nI (1 + jw)), .int (nI 0)])), (cl_18, .inl (cB, 16, .inl (fun _ => nI 1))), (ct_19, .inl (cI, 16, .inl (fun _ => 0))), (ck_20, .inl (cI, 16, .inl (fun _ => 0))), (cs_21, .inl (cI, 16, .inl (fun _ => 0))), (sq_5, .inr (5, [.int (nI (1 + jq)), .ref qr_22, .ref qf_23, .ref qh_24, .int (nI 0)])), (sv_7, .inr (7, [.ref lo_25, .ref lr_26, .ref lb_27, .int (nI 0), .ref lf_28])), (lo_25, .inl (cI, 200, .inl (fun _ => (-1)))), (lb_27, .inl (cI, 201, .inl (fun _ => 0))), (lf_28, .inl (cB, 200, .inl (fun _ => 0))), (sg_8, .inr (3, [.ref g1_29, .ref g2_30, .ref g3_31, .int (nI 0)])), (sk_10, .inl (cI, 200, .inl (fun _ => 0)))]) hP [0, 1, 2, 3, 4, 5, 6, 7, 8, 9, 10, 11, 12, 13, 14, 15, 16, 17, 18] rfl
  have hD9 := hD.sub (ws' := [(h0, .inr (0, [.ref q_1, .ref sn_2, .ref sp_3, .ref sc_4])), (q_1, .inr (9, [.ref sn_2, .ref sp_3, .ref sc_4, .ref sq_5, .ref sl_6, .ref sv_7, .ref sg_8, .ref sw_9, .ref sk_10, .ref sb_11, .int (nI 0)])), (sn_2, .inr (1, [.int (nI 0), .int (nI 0), .ref nb_12, .ref nt_13])), (sp_3, .inr (2, [.ref p1_14, .ref p2_15, .ref p3_16, .int (nI 0)])), (p1_14, .inl (cI, 20, .inl (fun _ => 0))), (p2_15, .inl (cI, 20, .inl (fun _ => 0))), (p3_16, .inl (cI, 20, .inl (fun _ => 0))), (sc_4, .inr (4, [.int (nI (1 + jw)), .ref cf_17, .ref cl_18, .ref ct_19, .ref ck_20, .ref cs_21, .int (nI (1 + jw)), .int (nI 0)])), (cl_18, .inl (cB, 16, .inl (fun _ => nI 1))), (ct_19, .inl (cI, 16, .inl (fun _ => 0))), (ck_20, .inl (cI, 16, .inl (fun _ => 0))), (cs_21, .inl (cI, 16, .inl (fun _ => 0))), (sq_5, .inr (5, [.int (nI (1 + jq)), .ref qr_22, .ref qf_23, .ref qh_24, .int (nI 0)])), (sv_7, .inr (7, [.ref lo_25, .ref lr_26, .ref lb_27, .int (nI 0), .ref lf_28])), (lo_25, .inl (cI, 200, .inl (fun _ => (-1)))), (lb_27, .inl (cI, 201, .inl (fun _ => 0))), (lf_28, .inl (cB, 200, .inl (fun _ => 0))), (sg_8, .inr (3, [.ref g1_29, .ref g2_30, .ref g3_31, .int (nI 0)])), (sk_10, .inl (cI, 200, .inl (fun _ => 0)))]) [0, 1, 2, 3, 4, 5, 6, 7, 8, 9, 10, 11, 12, 13, 14, 15, 16, 17, 18] (by decide) rfl
  exact xw_vret (q_1, sn_2, sp_3, sc_4, sq_5, sl_6, sv_7, sg_8, sw_9, sk_10, sb_11, nb_12, nt_13, p1_14, p2_15, p3_16, cf_17, cl_18, ct_19, ck_20, cs_21, qr_22, qf_23, qh_24, lo_25, lr_26, lb_27, lf_28, g1_29, g2_30, g3_31) hx hb hr hlocks d_X_init_68 (rfl) (trivial) hAe hP9 hD9 hS (Nat.le_of_ble_eq_true rfl) (Nat.le_of_ble_eq_true rfl)
end
section
set_option maxHeartbeats 4000000 in
set_option maxRecDepth 100000 in
/-- thrown -/
theorem c_MO_thrown (l : Launch) (D : va_G) (cI cB cL : ClassId) (h0 : Nat) (th : Nat) (m_from : Nat) (m_to : Nat) (m_failWorker : Nat) (m_failLevel : Nat) (m_failTurn : Nat) (m_levelOf : Nat) (m_times : Nat) (m_sizes : Nat) (m_isNext : Nat) (m_isLive : Nat) (m_isLooked : Nat) (m_turnsOf : Nat) (m_takenOf : Nat) (m_stallsOf : Nat) (m_here : Nat) (m_stands : Nat) (m_nextMove : Nat) (m_queued : Nat) (m_queue : Nat) (m_failedWorker : Nat) (m_failedLevel : Nat) (m_failedTurns : Nat) (m_can : Nat) (v_workers : Value) (v_room : Value) (v_states : Value) (v_moves : Value) (v_told : Value) (v_wasRun : Value) (v_x : Value) (v_level : Value) (v_levels : Value) (v_turns : Value) (v_most : Value) (v_failings : Value)  : xG (σ := Unit) l y_MO_thrown w_MO_thrown ({ frames := 0, cells := 0, slots := 0, locals := 0  } : Room) D vwCl (xs_tys cI cB cL) [.ref h0] [(h0, .inr (10, [.int (nI th), v_workers, v_room, v_states, v_moves, v_told, .ref m_from, .ref m_to, .ref m_failWorker, .ref m_failLevel, .ref m_failTurn, v_wasRun, v_x, v_level, v_levels, v_turns, v_most, v_failings, .ref m_levelOf, .ref m_times, .ref m_sizes, .ref m_isNext, .ref m_isLive, .ref m_isLooked, .ref m_turnsOf, .ref m_takenOf, .ref m_stallsOf, .ref m_here, .ref m_stands, .ref m_nextMove, .ref m_queued, .ref m_queue, .ref m_failedWorker, .ref m_failedLevel, .ref m_failedTurns, .ref m_can]))] (fun _ => True) (fun _ => some (.int (nI th))) (fun _ => [(h0, .inr (10, [.int (nI th), v_workers, v_room, v_states, v_moves, v_told, .ref m_from, .ref m_to, .ref m_failWorker, .ref m_failLevel, .ref m_failTurn, v_wasRun, v_x, v_level, v_levels, v_turns, v_most, v_failings, .ref m_levelOf, .ref m_times, .ref m_sizes, .ref m_isNext, .ref m_isLive, .ref m_isLooked, .ref m_turnsOf, .ref m_takenOf, .ref m_stallsOf, .ref m_here, .ref m_stands, .ref m_nextMove, .ref m_queued, .ref m_queue, .ref m_failedWorker, .ref m_failedLevel, .ref m_failedTurns, .ref m_can]))]) := by
  refine xG.of b_MO_thrown 1 (some .int) (by decide +kernel) rfl (Nat.le_of_ble_eq_true rfl) ?_
  intro p e s m below meth c A ls hAe C0 hP hD hS hl
  obtain ⟨hx, hb, hr, hml, hown, hlocks, hts, hnm, hN, hK, hA⟩ := C0
  have hU : ∀ w ∈ xU, w.before #[.ref h0] s = true := fun w h => hts w (List.mem_cons_of_mem _ h)
  have hl : lv_has ls 1 [(0, .ref h0)] := hl
  refine lv_aload_n hx hb d_MO_thrown_0 rfl (lv_at hl 0 rfl) ?_
  refine va_get (D := D) (ci := 10) (v := .int (nI th)) (C := R_MO) (T := T_MO) (N := 36) hx hb hU iw_MO hown hK hP 0 rfl rfl 0 (by decide) (hU _ uw_723) (fun _ h9 => h9) rfl d_MO_thrown_1 ?_
  have hP9 := xs_P_sub (w := [(h0, .inr (10, [.int (nI th), v_workers, v_room, v_states, v_moves, v_told, .ref m_from, .ref m_to, .ref m_failWorker, .ref m_failLevel, .ref m_failTurn, v_wasRun, v_x, v_level, v_levels, v_turns, v_most, v_failings, .ref m_levelOf, .ref m_times, .ref m_sizes, .ref m_isNext, .ref m_isLive, .ref m_isLooked, .ref m_turnsOf, .ref m_takenOf, .ref m_stallsOf, .ref m_here, .ref m_stands, .ref m_nextMove, .ref m_queued, .ref m_queue, .ref m_failedWorker, .ref m_failedLevel, .ref m_failedTurns, .ref m_can]))]) hP [0] rfl
  have hD9 := hD.sub (ws' := [(h0, .inr (10, [.int (nI th), v_workers, v_room, v_states, v_moves, v_told, .ref m_from, .ref m_to, .ref m_failWorker, .ref m_failLevel, .ref m_failTurn, v_wasRun, v_x, v_level, v_levels, v_turns, v_most, v_failings, .ref m_levelOf, .ref m_times, .ref m_sizes, .ref m_isNext, .ref m_isLive, .ref m_isLooked, .ref m_turnsOf, .ref m_takenOf, .ref m_stallsOf, .ref m_here, .ref m_stands, .ref m_nextMove, .ref m_queued, .ref m_queue, .ref m_failedWorker, .ref m_failedLevel, .ref m_failedTurns, .ref m_can]))]) [0] (by decide) rfl
  exact xw_iret () hx hb hr hlocks d_MO_thrown_4 (rfl) (trivial) hAe hP9 hD9 hS (Nat.le_of_ble_eq_true rfl) (Nat.le_of_ble_eq_true rfl)
set_option maxHeartbeats 4000000 in
set_option maxRecDepth 100000 in
/-- throwing -/
theorem c_MO_thr000 (l : Launch) (D : va_G) (cI cB cL : ClassId) (h0 : Nat) (m_from : Nat) (m_to : Nat) (m_failWorker : Nat) (m_failLevel : Nat) (m_failTurn : Nat) (m_levelOf : Nat) (m_times : Nat) (m_sizes : Nat) (m_isNext : Nat) (m_isLive : Nat) (m_isLooked : Nat) (m_turnsOf : Nat) (m_takenOf : Nat) (m_stallsOf : Nat) (m_here : Nat) (m_stands : Nat) (m_nextMove : Nat) (m_queued : Nat) (m_queue : Nat) (m_failedWorker : Nat) (m_failedLevel : Nat) (m_failedTurns : Nat) (m_can : Nat) (v_thrown : Value) (v_workers : Value) (v_room : Value) (v_states : Value) (v_moves : Value) (v_told : Value) (v_wasRun : Value) (v_x : Value) (v_level : Value) (v_levels : Value) (v_turns : Value) (v_most : Value) (v_failings : Value)  : xG (σ := Unit) l y_MO_throwing w_MO_throwing ({ frames := 0, cells := 0, slots := 0, locals := 0  } : Room) D vwCl (xs_tys cI cB cL) [.ref h0, .int (nI 0), .int (nI 0), .int (nI 0)] [(h0, .inr (10, [v_thrown, v_workers, v_room, v_states, v_moves, v_told, .ref m_from, .ref m_to, .ref m_failWorker, .ref m_failLevel, .ref m_failTurn, v_wasRun, v_x, v_level, v_levels, v_turns, v_most, v_failings, .ref m_levelOf, .ref m_times, .ref m_sizes, .ref m_isNext, .ref m_isLive, .ref m_isLooked, .ref m_turnsOf, .ref m_takenOf, .ref m_stallsOf, .ref m_here, .ref m_stands, .ref m_nextMove, .ref m_queued, .ref m_queue, .ref m_failedWorker, .ref m_failedLevel, .ref m_failedTurns, .ref m_can]))] (fun _ => True) (fun _ => some (.int (nI 0))) (fun _ => [(h0, .inr (10, [.int (nI 0), v_workers, v_room, v_states, v_moves, v_told, .ref m_from, .ref m_to, .ref m_failWorker, .ref m_failLevel, .ref m_failTurn, v_wasRun, v_x, v_level, v_levels, v_turns, v_most, v_failings, .ref m_levelOf, .ref m_times, .ref m_sizes, .ref m_isNext, .ref m_isLive, .ref m_isLooked, .ref m_turnsOf, .ref m_takenOf, .ref m_stallsOf, .ref m_here, .ref m_stands, .ref m_nextMove, .ref m_queued, .ref m_queue, .ref m_failedWorker, .ref m_failedLevel, .ref m_failedTurns, .ref m_can]))]) := by
  refine xG.of b_MO_throwing 4 (some .boolean) (by decide +kernel) rfl (Nat.le_of_ble_eq_true rfl) ?_
  intro p e s m below meth c A ls hAe C0 hP hD hS hl
  obtain ⟨hx, hb, hr, hml, hown, hlocks, hts, hnm, hN, hK, hA⟩ := C0
  have hU : ∀ w ∈ xU, w.before #[.ref h0, .int (nI 0), .int (nI 0), .int (nI 0)] s = true := fun w h => hts w (List.mem_cons_of_mem _ h)
  have hl : lv_has ls 4 [(0, .ref h0), (1, .int (nI 0)), (2, .int (nI 0)), (3, .int (nI 0))] := hl
  refine lv_aload_n hx hb d_MO_throwing_0 rfl (lv_at hl 0 rfl) ?_
  refine lv_iload_n hx hb d_MO_throwing_1 rfl (lv_at hl 1 rfl) ?_
  refine lv_if_eq (tgt := 9) hx hb d_MO_throwing_2 (by decide) (fun c_2 => ?_) (fun c_2 => ?_)
  · refine lv_iload_n hx hb d_MO_throwing_9 rfl (lv_at hl 2 rfl) ?_
    refine lv_if_eq (tgt := 17) hx hb d_MO_throwing_10 (by decide) (fun c_10 => ?_) (fun c_10 => ?_)
    · refine lv_iload_n hx hb d_MO_throwing_17 rfl (lv_at hl 3 rfl) ?_
      refine lv_if_eq (tgt := 25) hx hb d_MO_throwing_18 (by decide) (fun c_18 => ?_) (fun c_18 => ?_)
      · refine lv_iconst (v := nI 0) hx hb d_MO_throwing_25 (by decide +kernel) ?_
        refine va_put (D := D) (ci := 10) (v := .int (nI 0)) (ty := .int) (C := R_MO) (T := T_MO) (N := 36) hx hb hU iw_MO ty_MO ty_MO_ok nm_MO hown hK hP hD hS 0 rfl rfl 0 (by decide) (hU _ uw_723) (fun _ h9 => h9) rfl (by decide +kernel) (by first | rfl | decide +kernel) (by first | rfl | decide +kernel) (Nat.le_of_ble_eq_true rfl) d_MO_throwing_26 (fun H locs hP hD hS => ?_)
        have hP : va_P D vwCl [(h0, .inr (10, [.int (nI 0), v_workers, v_room, v_states, v_moves, v_told, .ref m_from, .ref m_to, .ref m_failWorker, .ref m_failLevel, .ref m_failTurn, v_wasRun, v_x, v_level, v_levels, v_turns, v_most, v_failings, .ref m_levelOf, .ref m_times, .ref m_sizes, .ref m_isNext, .ref m_isLive, .ref m_isLooked, .ref m_turnsOf, .ref m_takenOf, .ref m_stallsOf, .ref m_here, .ref m_stands, .ref m_nextMove, .ref m_queued, .ref m_queue, .ref m_failedWorker, .ref m_failedLevel, .ref m_failedTurns, .ref m_can]))] H := hP
        have hD : va_D A [(h0, .inr (10, [.int (nI 0), v_workers, v_room, v_states, v_moves, v_told, .ref m_from, .ref m_to, .ref m_failWorker, .ref m_failLevel, .ref m_failTurn, v_wasRun, v_x, v_level, v_levels, v_turns, v_most, v_failings, .ref m_levelOf, .ref m_times, .ref m_sizes, .ref m_isNext, .ref m_isLive, .ref m_isLooked, .ref m_turnsOf, .ref m_takenOf, .ref m_stallsOf, .ref m_here, .ref m_stands, .ref m_nextMove, .ref m_queued, .ref m_queue, .ref m_failedWorker, .ref m_failedLevel, .ref m_failedTurns, .ref m_can]))] := hD
        refine lv_aload_n hx hb d_MO_throwing_29 rfl (lv_at hl 0 rfl) ?_
        refine va_get (D := D) (ci := 10) (v := .int (nI 0)) (C := R_MO) (T := T_MO) (N := 36) hx hb hU iw_MO hown hK hP 0 rfl rfl 0 (by decide) (hU _ uw_723) (fun _ h9 => h9) rfl d_MO_throwing_30 ?_
        refine lv_if_le (tgt := 40) hx hb d_MO_throwing_33 (by decide) (fun c_33 => ?_) (fun c_33 => ?_)
        · refine lv_iconst (v := nI 0) hx hb d_MO_throwing_40 (by decide +kernel) ?_
          have hP9 := xs_P_sub (w := [(h0, .inr (10, [.int (nI 0), v_workers, v_room, v_states, v_moves, v_told, .ref m_from, .ref m_to, .ref m_failWorker, .ref m_failLevel, .ref m_failTurn, v_wasRun, v_x, v_level, v_levels, v_turns, v_most, v_failings, .ref m_levelOf, .ref m_times, .ref m_sizes, .ref m_isNext, .ref m_isLive, .ref m_isLooked, .ref m_turnsOf, .ref m_takenOf, .ref m_stallsOf, .ref m_here, .ref m_stands, .ref m_nextMove, .ref m_queued, .ref m_queue, .ref m_failedWorker, .ref m_failedLevel, .ref m_failedTurns, .ref m_can]))]) hP [0] rfl
          have hD9 := hD.sub (ws' := [(h0, .inr (10, [.int (nI 0), v_workers, v_room, v_states, v_moves, v_told, .ref m_from, .ref m_to, .ref m_failWorker, .ref m_failLevel, .ref m_failTurn, v_wasRun, v_x, v_level, v_levels, v_turns, v_most, v_failings, .ref m_levelOf, .ref m_times, .ref m_sizes, .ref m_isNext, .ref m_isLive, .ref m_isLooked, .ref m_turnsOf, .ref m_takenOf, .ref m_stallsOf, .ref m_here, .ref m_stands, .ref m_nextMove, .ref m_queued, .ref m_queue, .ref m_failedWorker, .ref m_failedLevel, .ref m_failedTurns, .ref m_can]))]) [0] (by decide) rfl
          exact xw_zret () (by first | exact Or.inl rfl | exact Or.inr rfl) hx hb hr hlocks d_MO_throwing_41 (rfl) (trivial) hAe hP9 hD9 hS (Nat.le_of_ble_eq_true rfl) (Nat.le_of_ble_eq_true rfl)
        · exact absurd c_33 (by decide +kernel)
      · exact absurd c_18 (by decide +kernel)
    · exact absurd c_10 (by decide +kernel)
  · exact absurd c_2 (by decide +kernel)
set_option maxHeartbeats 4000000 in
set_option maxRecDepth 100000 in
/-- throwing -/
theorem c_MO_thr1 (l : Launch) (D : va_G) (cI cB cL : ClassId) (h0 : Nat) (m_from : Nat) (m_to : Nat) (m_failWorker : Nat) (m_failLevel : Nat) (m_failTurn : Nat) (m_levelOf : Nat) (m_times : Nat) (m_sizes : Nat) (m_isNext : Nat) (m_isLive : Nat) (m_isLooked : Nat) (m_turnsOf : Nat) (m_takenOf : Nat) (m_stallsOf : Nat) (m_here : Nat) (m_stands : Nat) (m_nextMove : Nat) (m_queued : Nat) (m_queue : Nat) (m_failedWorker : Nat) (m_failedLevel : Nat) (m_failedTurns : Nat) (m_can : Nat) (v_thrown : Value) (v_workers : Value) (v_room : Value) (v_states : Value) (v_moves : Value) (v_told : Value) (v_wasRun : Value) (v_x : Value) (v_level : Value) (v_levels : Value) (v_turns : Value) (v_most : Value) (v_failings : Value) (b : Int32) (c9 : Int32)  : xG (σ := Unit) l y_MO_throwing w_MO_throwing ({ frames := 0, cells := 0, slots := 0, locals := 0  } : Room) D vwCl (xs_tys cI cB cL) [.ref h0, .int (nI 1), .int b, .int c9] [(h0, .inr (10, [v_thrown, v_workers, v_room, v_states, v_moves, v_told, .ref m_from, .ref m_to, .ref m_failWorker, .ref m_failLevel, .ref m_failTurn, v_wasRun, v_x, v_level, v_levels, v_turns, v_most, v_failings, .ref m_levelOf, .ref m_times, .ref m_sizes, .ref m_isNext, .ref m_isLive, .ref m_isLooked, .ref m_turnsOf, .ref m_takenOf, .ref m_stallsOf, .ref m_here, .ref m_stands, .ref m_nextMove, .ref m_queued, .ref m_queue, .ref m_failedWorker, .ref m_failedLevel, .ref m_failedTurns, .ref m_can]))] (fun _ => True) (fun _ => some (.int (nI 1))) (fun _ => [(h0, .inr (10, [.int (nI 1), v_workers, v_room, v_states, v_moves, v_told, .ref m_from, .ref m_to, .ref m_failWorker, .ref m_failLevel, .ref m_failTurn, v_wasRun, v_x, v_level, v_levels, v_turns, v_most, v_failings, .ref m_levelOf, .ref m_times, .ref m_sizes, .ref m_isNext, .ref m_isLive, .ref m_isLooked, .ref m_turnsOf, .ref m_takenOf, .ref m_stallsOf, .ref m_here, .ref m_stands, .ref m_nextMove, .ref m_queued, .ref m_queue, .ref m_failedWorker, .ref m_failedLevel, .ref m_failedTurns, .ref m_can]))]) := by
  refine xG.of b_MO_throwing 4 (some .boolean) (by decide +kernel) rfl (Nat.le_of_ble_eq_true rfl) ?_
  intro p e s m below meth c A ls hAe C0 hP hD hS hl
  obtain ⟨hx, hb, hr, hml, hown, hlocks, hts, hnm, hN, hK, hA⟩ := C0
  have hU : ∀ w ∈ xU, w.before #[.ref h0, .int (nI 1), .int b, .int c9] s = true := fun w h => hts w (List.mem_cons_of_mem _ h)
  have hl : lv_has ls 4 [(0, .ref h0), (1, .int (nI 1)), (2, .int b), (3, .int c9)] := hl
  refine lv_aload_n hx hb d_MO_throwing_0 rfl (lv_at hl 0 rfl) ?_
  refine lv_iload_n hx hb d_MO_throwing_1 rfl (lv_at hl 1 rfl) ?_
  refine lv_if_eq (tgt := 9) hx hb d_MO_throwing_2 (by decide) (fun c_2 => ?_) (fun c_2 => ?_)
  · exact absurd c_2 (by decide +kernel)
  · refine lv_iconst (v := nI 1) hx hb d_MO_throwing_5 (by decide +kernel) ?_
    refine lv_goto (tgt := 26) hx hb d_MO_throwing_6 (by decide) ?_
    refine va_put (D := D) (ci := 10) (v := .int (nI 1)) (ty := .int) (C := R_MO) (T := T_MO) (N := 36) hx hb hU iw_MO ty_MO ty_MO_ok nm_MO hown hK hP hD hS 0 rfl rfl 0 (by decide) (hU _ uw_723) (fun _ h9 => h9) rfl (by decide +kernel) (by first | rfl | decide +kernel) (by first | rfl | decide +kernel) (Nat.le_of_ble_eq_true rfl) d_MO_throwing_26 (fun H locs hP hD hS => ?_)
    have hP : va_P D vwCl [(h0, .inr (10, [.int (nI 1), v_workers, v_room, v_states, v_moves, v_told, .ref m_from, .ref m_to, .ref m_failWorker, .ref m_failLevel, .ref m_failTurn, v_wasRun, v_x, v_level, v_levels, v_turns, v_most, v_failings, .ref m_levelOf, .ref m_times, .ref m_sizes, .ref m_isNext, .ref m_isLive, .ref m_isLooked, .ref m_turnsOf, .ref m_takenOf, .ref m_stallsOf, .ref m_here, .ref m_stands, .ref m_nextMove, .ref m_queued, .ref m_queue, .ref m_failedWorker, .ref m_failedLevel, .ref m_failedTurns, .ref m_can]))] H := hP
    have hD : va_D A [(h0, .inr (10, [.int (nI 1), v_workers, v_room, v_states, v_moves, v_told, .ref m_from, .ref m_to, .ref m_failWorker, .ref m_failLevel, .ref m_failTurn, v_wasRun, v_x, v_level, v_levels, v_turns, v_most, v_failings, .ref m_levelOf, .ref m_times, .ref m_sizes, .ref m_isNext, .ref m_isLive, .ref m_isLooked, .ref m_turnsOf, .ref m_takenOf, .ref m_stallsOf, .ref m_here, .ref m_stands, .ref m_nextMove, .ref m_queued, .ref m_queue, .ref m_failedWorker, .ref m_failedLevel, .ref m_failedTurns, .ref m_can]))] := hD
    refine lv_aload_n hx hb d_MO_throwing_29 rfl (lv_at hl 0 rfl) ?_
    refine va_get (D := D) (ci := 10) (v := .int (nI 1)) (C := R_MO) (T := T_MO) (N := 36) hx hb hU iw_MO hown hK hP 0 rfl rfl 0 (by decide) (hU _ uw_723) (fun _ h9 => h9) rfl d_MO_throwing_30 ?_
    refine lv_if_le (tgt := 40) hx hb d_MO_throwing_33 (by decide) (fun c_33 => ?_) (fun c_33 => ?_)
    · exact absurd c_33 (by decide +kernel)
    · refine lv_iconst (v := nI 1) hx hb d_MO_throwing_36 (by decide +kernel) ?_
      refine lv_goto (tgt := 41) hx hb d_MO_throwing_37 (by decide) ?_
      have hP9 := xs_P_sub (w := [(h0, .inr (10, [.int (nI 1), v_workers, v_room, v_states, v_moves, v_told, .ref m_from, .ref m_to, .ref m_failWorker, .ref m_failLevel, .ref m_failTurn, v_wasRun, v_x, v_level, v_levels, v_turns, v_most, v_failings, .ref m_levelOf, .ref m_times, .ref m_sizes, .ref m_isNext, .ref m_isLive, .ref m_isLooked, .ref m_turnsOf, .ref m_takenOf, .ref m_stallsOf, .ref m_here, .ref m_stands, .ref m_nextMove, .ref m_queued, .ref m_queue, .ref m_failedWorker, .ref m_failedLevel, .ref m_failedTurns, .ref m_can]))]) hP [0] rfl
      have hD9 := hD.sub (ws' := [(h0, .inr (10, [.int (nI 1), v_workers, v_room, v_states, v_moves, v_told, .ref m_from, .ref m_to, .ref m_failWorker, .ref m_failLevel, .ref m_failTurn, v_wasRun, v_x, v_level, v_levels, v_turns, v_most, v_failings, .ref m_levelOf, .ref m_times, .ref m_sizes, .ref m_isNext, .ref m_isLive, .ref m_isLooked, .ref m_turnsOf, .ref m_takenOf, .ref m_stallsOf, .ref m_here, .ref m_stands, .ref m_nextMove, .ref m_queued, .ref m_queue, .ref m_failedWorker, .ref m_failedLevel, .ref m_failedTurns, .ref m_can]))]) [0] (by decide) rfl
      exact xw_zret () (by first | exact Or.inl rfl | exact Or.inr rfl) hx hb hr hlocks d_MO_throwing_41 (rfl) (trivial) hAe hP9 hD9 hS (Nat.le_of_ble_eq_true rfl) (Nat.le_of_ble_eq_true rfl)
set_option maxHeartbeats 4000000 in
set_option maxRecDepth 100000 in
/-- throwing -/
theorem c_MO_thr01 (l : Launch) (D : va_G) (cI cB cL : ClassId) (h0 : Nat) (m_from : Nat) (m_to : Nat) (m_failWorker : Nat) (m_failLevel : Nat) (m_failTurn : Nat) (m_levelOf : Nat) (m_times : Nat) (m_sizes : Nat) (m_isNext : Nat) (m_isLive : Nat) (m_isLooked : Nat) (m_turnsOf : Nat) (m_takenOf : Nat) (m_stallsOf : Nat) (m_here : Nat) (m_stands : Nat) (m_nextMove : Nat) (m_queued : Nat) (m_queue : Nat) (m_failedWorker : Nat) (m_failedLevel : Nat) (m_failedTurns : Nat) (m_can : Nat) (v_thrown : Value) (v_workers : Value) (v_room : Value) (v_states : Value) (v_moves : Value) (v_told : Value) (v_wasRun : Value) (v_x : Value) (v_level : Value) (v_levels : Value) (v_turns : Value) (v_most : Value) (v_failings : Value) (c9 : Int32)  : xG (σ := Unit) l y_MO_throwing w_MO_throwing ({ frames := 0, cells := 0, slots := 0, locals := 0  } : Room) D vwCl (xs_tys cI cB cL) [.ref h0, .int (nI 0), .int (nI 1), .int c9] [(h0, .inr (10, [v_thrown, v_workers, v_room, v_states, v_moves, v_told, .ref m_from, .ref m_to, .ref m_failWorker, .ref m_failLevel, .ref m_failTurn, v_wasRun, v_x, v_level, v_levels, v_turns, v_most, v_failings, .ref m_levelOf, .ref m_times, .ref m_sizes, .ref m_isNext, .ref m_isLive, .ref m_isLooked, .ref m_turnsOf, .ref m_takenOf, .ref m_stallsOf, .ref m_here, .ref m_stands, .ref m_nextMove, .ref m_queued, .ref m_queue, .ref m_failedWorker, .ref m_failedLevel, .ref m_failedTurns, .ref m_can]))] (fun _ => True) (fun _ => some (.int (nI 1))) (fun _ => [(h0, .inr (10, [.int (nI 2), v_workers, v_room, v_states, v_moves, v_told, .ref m_from, .ref m_to, .ref m_failWorker, .ref m_failLevel, .ref m_failTurn, v_wasRun, v_x, v_level, v_levels, v_turns, v_most, v_failings, .ref m_levelOf, .ref m_times, .ref m_sizes, .ref m_isNext, .ref m_isLive, .ref m_isLooked, .ref m_turnsOf, .ref m_takenOf, .ref m_stallsOf, .ref m_here, .ref m_stands, .ref m_nextMove, .ref m_queued, .ref m_queue, .ref m_failedWorker, .ref m_failedLevel, .ref m_failedTurns, .ref m_can]))]) := by
  refine xG.of b_MO_throwing 4 (some .boolean) (by decide +kernel) rfl (Nat.le_of_ble_eq_true rfl) ?_
  intro p e s m below meth c A ls hAe C0 hP hD hS hl
  obtain ⟨hx, hb, hr, hml, hown, hlocks, hts, hnm, hN, hK, hA⟩ := C0
  have hU : ∀ w ∈ xU, w.before #[.ref h0, .int (nI 0), .int (nI 1), .int c9] s = true := fun w h => hts w (List.mem_cons_of_mem _ h)
  have hl : lv_has ls 4 [(0, .ref h0), (1, .int (nI 0)), (2, .int (nI 1)), (3, .int c9)] := hl
  refine lv_aload_n hx hb d_MO_throwing_0 rfl (lv_at hl 0 rfl) ?_
  refine lv_iload_n hx hb d_MO_throwing_1 rfl (lv_at hl 1 rfl) ?_
  refine lv_if_eq (tgt := 9) hx hb d_MO_throwing_2 (by decide) (fun c_2 => ?_) (fun c_2 => ?_)
  · refine lv_iload_n hx hb d_MO_throwing_9 rfl (lv_at hl 2 rfl) ?_
    refine lv_if_eq (tgt := 17) hx hb d_MO_throwing_10 (by decide) (fun c_10 => ?_) (fun c_10 => ?_)
    · exact absurd c_10 (by decide +kernel)
    · refine lv_iconst (v := nI 2) hx hb d_MO_throwing_13 (by decide +kernel) ?_
      refine lv_goto (tgt := 26) hx hb d_MO_throwing_14 (by decide) ?_
      refine va_put (D := D) (ci := 10) (v := .int (nI 2)) (ty := .int) (C := R_MO) (T := T_MO) (N := 36) hx hb hU iw_MO ty_MO ty_MO_ok nm_MO hown hK hP hD hS 0 rfl rfl 0 (by decide) (hU _ uw_723) (fun _ h9 => h9) rfl (by decide +kernel) (by first | rfl | decide +kernel) (by first | rfl | decide +kernel) (Nat.le_of_ble_eq_true rfl) d_MO_throwing_26 (fun H locs hP hD hS => ?_)
      have hP : va_P D vwCl [(h0, .inr (10, [.int (nI 2), v_workers, v_room, v_states, v_moves, v_told, .ref m_from, .ref m_to, .ref m_failWorker, .ref m_failLevel, .ref m_failTurn, v_wasRun, v_x, v_level, v_levels, v_turns, v_most, v_failings, .ref m_levelOf, .ref m_times, .ref m_sizes, .ref m_isNext, .ref m_isLive, .ref m_isLooked, .ref m_turnsOf, .ref m_takenOf, .ref m_stallsOf, .ref m_here, .ref m_stands, .ref m_nextMove, .ref m_queued, .ref m_queue, .ref m_failedWorker, .ref m_failedLevel, .ref m_failedTurns, .ref m_can]))] H := hP
      have hD : va_D A [(h0, .inr (10, [.int (nI 2), v_workers, v_room, v_states, v_moves, v_told, .ref m_from, .ref m_to, .ref m_failWorker, .ref m_failLevel, .ref m_failTurn, v_wasRun, v_x, v_level, v_levels, v_turns, v_most, v_failings, .ref m_levelOf, .ref m_times, .ref m_sizes, .ref m_isNext, .ref m_isLive, .ref m_isLooked, .ref m_turnsOf, .ref m_takenOf, .ref m_stallsOf, .ref m_here, .ref m_stands, .ref m_nextMove, .ref m_queued, .ref m_queue, .ref m_failedWorker, .ref m_failedLevel, .ref m_failedTurns, .ref m_can]))] := hD
      refine lv_aload_n hx hb d_MO_throwing_29 rfl (lv_at hl 0 rfl) ?_
      refine va_get (D := D) (ci := 10) (v := .int (nI 2)) (C := R_MO) (T := T_MO) (N := 36) hx hb hU iw_MO hown hK hP 0 rfl rfl 0 (by decide) (hU _ uw_723) (fun _ h9 => h9) rfl d_MO_throwing_30 ?_
      refine lv_if_le (tgt := 40) hx hb d_MO_throwing_33 (by decide) (fun c_33 => ?_) (fun c_33 => ?_)
      · exact absurd c_33 (by decide +kernel)
      · refine lv_iconst (v := nI 1) hx hb d_MO_throwing_36 (by decide +kernel) ?_
        refine lv_goto (tgt := 41) hx hb d_MO_throwing_37 (by decide) ?_
        have hP9 := xs_P_sub (w := [(h0, .inr (10, [.int (nI 2), v_workers, v_room, v_states, v_moves, v_told, .ref m_from, .ref m_to, .ref m_failWorker, .ref m_failLevel, .ref m_failTurn, v_wasRun, v_x, v_level, v_levels, v_turns, v_most, v_failings, .ref m_levelOf, .ref m_times, .ref m_sizes, .ref m_isNext, .ref m_isLive, .ref m_isLooked, .ref m_turnsOf, .ref m_takenOf, .ref m_stallsOf, .ref m_here, .ref m_stands, .ref m_nextMove, .ref m_queued, .ref m_queue, .ref m_failedWorker, .ref m_failedLevel, .ref m_failedTurns, .ref m_can]))]) hP [0] rfl
        have hD9 := hD.sub (ws' := [(h0, .inr (10, [.int (nI 2), v_workers, v_room, v_states, v_moves, v_told, .ref m_from, .ref m_to, .ref m_failWorker, .ref m_failLevel, .ref m_failTurn, v_wasRun, v_x, v_level, v_levels, v_turns, v_most, v_failings, .ref m_levelOf, .ref m_times, .ref m_sizes, .ref m_isNext, .ref m_isLive, .ref m_isLooked, .ref m_turnsOf, .ref m_takenOf, .ref m_stallsOf, .ref m_here, .ref m_stands, .ref m_nextMove, .ref m_queued, .ref m_queue, .ref m_failedWorker, .ref m_failedLevel, .ref m_failedTurns, .ref m_can]))]) [0] (by decide) rfl
        exact xw_zret () (by first | exact Or.inl rfl | exact Or.inr rfl) hx hb hr hlocks d_MO_throwing_41 (rfl) (trivial) hAe hP9 hD9 hS (Nat.le_of_ble_eq_true rfl) (Nat.le_of_ble_eq_true rfl)
  · exact absurd c_2 (by decide +kernel)
set_option maxHeartbeats 4000000 in
set_option maxRecDepth 100000 in
/-- isOf -/
theorem c_MO_isOf (l : Launch) (D : va_G) (cI cB cL : ClassId) (k : Int32) (n : Int32)  : xG (σ := Int32) l y_MO_isOf w_MO_isOf ({ frames := 0, cells := 0, slots := 0, locals := 0  } : Room) D vwCl (xs_tys cI cB cL) [.int k, .int n] [] (fun v => (v = 1 ∧ ¬ k < 0 ∧ k < n) ∨ (v = 0 ∧ (k < 0 ∨ n ≤ k))) (fun v => some (.int v)) (fun v => []) := by
  refine xG.of b_MO_isOf 2 (some .boolean) (by decide +kernel) rfl (Nat.le_of_ble_eq_true rfl) ?_
  intro p e s m below meth c A ls hAe C0 hP hD hS hl
  obtain ⟨hx, hb, hr, hml, hown, hlocks, hts, hnm, hN, hK, hA⟩ := C0
  have hU : ∀ w ∈ xU, w.before #[.int k, .int n] s = true := fun w h => hts w (List.mem_cons_of_mem _ h)
  have hl : lv_has ls 2 [(0, .int k), (1, .int n)] := hl
  refine lv_iload_n hx hb d_MO_isOf_0 rfl (lv_at hl 0 rfl) ?_
  refine lv_if_lt (tgt := 13) hx hb d_MO_isOf_1 (by decide) (fun c_1 => ?_) (fun c_1 => ?_)
  · refine lv_iconst (v := nI 0) hx hb d_MO_isOf_13 (by decide +kernel) ?_
    have hP9 := xs_P_sub (w := []) hP [] rfl
    have hD9 := hD.sub (ws' := []) [] (by decide) rfl
    exact xw_zret (nI 0) (by first | exact Or.inl rfl | exact Or.inr rfl) hx hb hr hlocks d_MO_isOf_14 (rfl) (by first | exact Or.inl ⟨rfl, c_1, Int32.not_le.mp c_6⟩ | exact Or.inr ⟨rfl, Or.inl c_1⟩ | exact Or.inr ⟨rfl, Or.inr c_6⟩) hAe hP9 hD9 hS (Nat.le_of_ble_eq_true rfl) (Nat.le_of_ble_eq_true rfl)
  · refine lv_iload_n hx hb d_MO_isOf_4 rfl (lv_at hl 0 rfl) ?_
    refine lv_iload_n hx hb d_MO_isOf_5 rfl (lv_at hl 1 rfl) ?_
    refine lv_icmp_ge (tgt := 13) hx hb d_MO_isOf_6 (by decide) (fun c_6 => ?_) (fun c_6 => ?_)
    · refine lv_iconst (v := nI 0) hx hb d_MO_isOf_13 (by decide +kernel) ?_
      have hP9 := xs_P_sub (w := []) hP [] rfl
      have hD9 := hD.sub (ws' := []) [] (by decide) rfl
      exact xw_zret (nI 0) (by first | exact Or.inl rfl | exact Or.inr rfl) hx hb hr hlocks d_MO_isOf_14 (rfl) (by first | exact Or.inl ⟨rfl, c_1, Int32.not_le.mp c_6⟩ | exact Or.inr ⟨rfl, Or.inl c_1⟩ | exact Or.inr ⟨rfl, Or.inr c_6⟩) hAe hP9 hD9 hS (Nat.le_of_ble_eq_true rfl) (Nat.le_of_ble_eq_true rfl)
    · refine lv_iconst (v := nI 1) hx hb d_MO_isOf_9 (by decide +kernel) ?_
      refine lv_goto (tgt := 14) hx hb d_MO_isOf_10 (by decide) ?_
      have hP9 := xs_P_sub (w := []) hP [] rfl
      have hD9 := hD.sub (ws' := []) [] (by decide) rfl
      exact xw_zret (nI 1) (by first | exact Or.inl rfl | exact Or.inr rfl) hx hb hr hlocks d_MO_isOf_14 (rfl) (by first | exact Or.inl ⟨rfl, c_1, Int32.not_le.mp c_6⟩ | exact Or.inr ⟨rfl, Or.inl c_1⟩ | exact Or.inr ⟨rfl, Or.inr c_6⟩) hAe hP9 hD9 hS (Nat.le_of_ble_eq_true rfl) (Nat.le_of_ble_eq_true rfl)
end
section
set_option maxHeartbeats 4000000 in
set_option maxRecDepth 100000 in
/-- forget -/
theorem c_MO_forget (l : Launch) (D : va_G) (cI cB cL : ClassId) (h0 : Nat) (m_from : Nat) (m_to : Nat) (m_failWorker : Nat) (m_failLevel : Nat) (m_failTurn : Nat) (m_levelOf : Nat) (m_times : Nat) (m_sizes : Nat) (m_isNext : Nat) (m_isLive : Nat) (m_isLooked : Nat) (m_turnsOf : Nat) (m_takenOf : Nat) (m_stallsOf : Nat) (m_here : Nat) (m_stands : Nat) (m_nextMove : Nat) (m_queued : Nat) (m_queue : Nat) (m_failedWorker : Nat) (m_failedLevel : Nat) (m_failedTurns : Nat) (m_can : Nat) (v_thrown : Value) (v_room : Value) (v_states : Value) (v_moves : Value) (v_told : Value) (v_wasRun : Value) (v_x : Value) (v_level : Value) (v_levels : Value) (v_turns : Value) (v_most : Value) (v_failings : Value) (wk : Nat) (f_levelOf : Nat → Int32) (f_times : Nat → Int32) (f_isNext : Nat → Int32) (f_isLive : Nat → Int32) (f_turnsOf : Nat → Int32) (f_takenOf : Nat → Int32) (f_stallsOf : Nat → Int32) (f_queued : Nat → Int32) (hw : wk ≤ 16) : xG (σ := Unit) l y_MO_forget w_MO_forget ({ frames := 0, cells := 0, slots := 0, locals := 0  } : Room) D vwCl (xs_tys cI cB cL) [.ref h0] [(h0, .inr (10, [v_thrown, .int (nI wk), v_room, v_states, v_moves, v_told, .ref m_from, .ref m_to, .ref m_failWorker, .ref m_failLevel, .ref m_failTurn, v_wasRun, v_x, v_level, v_levels, v_turns, v_most, v_failings, .ref m_levelOf, .ref m_times, .ref m_sizes, .ref m_isNext, .ref m_isLive, .ref m_isLooked, .ref m_turnsOf, .ref m_takenOf, .ref m_stallsOf, .ref m_here, .ref m_stands, .ref m_nextMove, .ref m_queued, .ref m_queue, .ref m_failedWorker, .ref m_failedLevel, .ref m_failedTurns, .ref m_can])), (m_levelOf, .inl (cI, 200, .inl f_levelOf)), (m_times, .inl (cI, 200, .inl f_times)), (m_isNext, .inl (cB, 200, .inl f_isNext)), (m_isLive, .inl (cB, 16, .inl f_isLive)), (m_turnsOf, .inl (cI, 16, .inl f_turnsOf)), (m_takenOf, .inl (cI, 16, .inl f_takenOf)), (m_stallsOf, .inl (cI, 16, .inl f_stallsOf)), (m_queued, .inl (cI, 16, .inl f_queued))] (fun _ => True) (fun _ => none) (fun _ => [(h0, .inr (10, [v_thrown, .int (nI wk), v_room, v_states, v_moves, v_told, .ref m_from, .ref m_to, .ref m_failWorker, .ref m_failLevel, .ref m_failTurn, .int (nI 0), v_x, .int (nI 0), .int (nI 0), .int (nI 0), .int (nI 0), .int (nI 0), .ref m_levelOf, .ref m_times, .ref m_sizes, .ref m_isNext, .ref m_isLive, .ref m_isLooked, .ref m_turnsOf, .ref m_takenOf, .ref m_stallsOf, .ref m_here, .ref m_stands, .ref m_nextMove, .ref m_queued, .ref m_queue, .ref m_failedWorker, .ref m_failedLevel, .ref m_failedTurns, .ref m_can])), (m_levelOf, .inl (cI, 200, .inl (fun _ => (-1)))), (m_times, .inl (cI, 200, .inl (fun _ => nI 0))), (m_isNext, .inl (cB, 200, .inl (fun _ => nI 0))), (m_isLive, .inl (cB, 16, .inl (fun j => if j < wk then nI 1 else nI 0))), (m_turnsOf, .inl (cI, 16, .inl (fun _ => nI 0))), (m_takenOf, .inl (cI, 16, .inl (fun _ => nI 0))), (m_stallsOf, .inl (cI, 16, .inl (fun _ => nI 0))), (m_queued, .inl (cI, 16, .inl (fun _ => nI 0)))]) := by
  refine xG.of b_MO_forget 2 (none) (by decide +kernel) rfl (Nat.le_of_ble_eq_true rfl) ?_
  intro p e s m below meth c A ls hAe C0 hP hD hS hl
  obtain ⟨hx, hb, hr, hml, hown, hlocks, hts, hnm, hN, hK, hA⟩ := C0
  have hU : ∀ w ∈ xU, w.before #[.ref h0] s = true := fun w h => hts w (List.mem_cons_of_mem _ h)
  have hl : lv_has ls 2 [(0, .ref h0)] := hl
  refine lv_aload_n hx hb d_MO_forget_0 rfl (lv_at hl 0 rfl) ?_
  refine lv_iconst (v := nI 0) hx hb d_MO_forget_1 (by decide +kernel) ?_
  refine va_put (D := D) (ci := 10) (v := .int (nI 0)) (ty := .boolean) (C := R_MO) (T := T_MO) (N := 36) hx hb hU iw_MO ty_MO ty_MO_ok nm_MO hown hK hP hD hS 0 rfl rfl 11 (by decide) (hU _ uw_734) (fun _ h9 => h9) rfl (by decide +kernel) (by first | rfl | decide +kernel) (by first | rfl | decide +kernel) (Nat.le_of_ble_eq_true rfl) d_MO_forget_2 (fun H locs hP hD hS => ?_)
  have hP : va_P D vwCl [(h0, .inr (10, [v_thrown, .int (nI wk), v_room, v_states, v_moves, v_told, .ref m_from, .ref m_to, .ref m_failWorker, .ref m_failLevel, .ref m_failTurn, .int (nI 0), v_x, v_level, v_levels, v_turns, v_most, v_failings, .ref m_levelOf, .ref m_times, .ref m_sizes, .ref m_isNext, .ref m_isLive, .ref m_isLooked, .ref m_turnsOf, .ref m_takenOf, .ref m_stallsOf, .ref m_here, .ref m_stands, .ref m_nextMove, .ref m_queued, .ref m_queue, .ref m_failedWorker, .ref m_failedLevel, .ref m_failedTurns, .ref m_can])), (m_levelOf, .inl (cI, 200, .inl f_levelOf)), (m_times, .inl (cI, 200, .inl f_times)), (m_isNext, .inl (cB, 200, .inl f_isNext)), (m_isLive, .inl (cB, 16, .inl f_isLive)), (m_turnsOf, .inl (cI, 16, .inl f_turnsOf)), (m_takenOf, .inl (cI, 16, .inl f_takenOf)), (m_stallsOf, .inl (cI, 16, .inl f_stallsOf)), (m_queued, .inl (cI, 16, .inl f_queued))] H := hP
  have hD : va_D A [(h0, .inr (10, [v_thrown, .int (nI wk), v_room, v_states, v_moves, v_told, .ref m_from, .ref m_to, .ref m_failWorker, .ref m_failLevel, .ref m_failTurn, .int (nI 0), v_x, v_level, v_levels, v_turns, v_most, v_failings, .ref m_levelOf, .ref m_times, .ref m_sizes, .ref m_isNext, .ref m_isLive, .ref m_isLooked, .ref m_turnsOf, .ref m_takenOf, .ref m_stallsOf, .ref m_here, .ref m_stands, .ref m_nextMove, .ref m_queued, .ref m_queue, .ref m_failedWorker, .ref m_failedLevel, .ref m_failedTurns, .ref m_can])), (m_levelOf, .inl (cI, 200, .inl f_levelOf)), (m_times, .inl (cI, 200, .inl f_times)), (m_isNext, .inl (cB, 200, .inl f_isNext)), (m_isLive, .inl (cB, 16, .inl f_isLive)), (m_turnsOf, .inl (cI, 16, .inl f_turnsOf)), (m_takenOf, .inl (cI, 16, .inl f_takenOf)), (m_stallsOf, .inl (cI, 16, .inl f_stallsOf)), (m_queued, .inl (cI, 16, .inl f_queued))] := hD
  refine lv_aload_n hx hb d_MO_forget_5 rfl (lv_at hl 0 rfl) ?_
  refine lv_iconst (v := nI 0) hx hb d_MO_forget_6 (by decide +kernel) ?_
  refine va_put (D := D) (ci := 10) (v := .int (nI 0)) (ty := .int) (C := R_MO) (T := T_MO) (N := 36) hx hb hU iw_MO ty_MO ty_MO_ok nm_MO hown hK hP hD hS 0 rfl rfl 13 (by decide) (hU _ uw_736) (fun _ h9 => h9) rfl (by decide +kernel) (by first | rfl | decide +kernel) (by first | rfl | decide +kernel) (Nat.le_of_ble_eq_true rfl) d_MO_forget_7 (fun H locs hP hD hS => ?_)
  have hP : va_P D vwCl [(h0, .inr (10, [v_thrown, .int (nI wk), v_room, v_states, v_moves, v_told, .ref m_from, .ref m_to, .ref m_failWorker, .ref m_failLevel, .ref m_failTurn, .int (nI 0), v_x, .int (nI 0), v_levels, v_turns, v_most, v_failings, .ref m_levelOf, .ref m_times, .ref m_sizes, .ref m_isNext, .ref m_isLive, .ref m_isLooked, .ref m_turnsOf, .ref m_takenOf, .ref m_stallsOf, .ref m_here, .ref m_stands, .ref m_nextMove, .ref m_queued, .ref m_queue, .ref m_failedWorker, .ref m_failedLevel, .ref m_failedTurns, .ref m_can])), (m_levelOf, .inl (cI, 200, .inl f_levelOf)), (m_times, .inl (cI, 200, .inl f_times)), (m_isNext, .inl (cB, 200, .inl f_isNext)), (m_isLive, .inl (cB, 16, .inl f_isLive)), (m_turnsOf, .inl (cI, 16, .inl f_turnsOf)), (m_takenOf, .inl (cI, 16, .inl f_takenOf)), (m_stallsOf, .inl (cI, 16, .inl f_stallsOf)), (m_queued, .inl (cI, 16, .inl f_queued))] H := hP
  have hD : va_D A [(h0, .inr (10, [v_thrown, .int (nI wk), v_room, v_states, v_moves, v_told, .ref m_from, .ref m_to, .ref m_failWorker, .ref m_failLevel, .ref m_failTurn, .int (nI 0), v_x, .int (nI 0), v_levels, v_turns, v_most, v_failings, .ref m_levelOf, .ref m_times, .ref m_sizes, .ref m_isNext, .ref m_isLive, .ref m_isLooked, .ref m_turnsOf, .ref m_takenOf, .ref m_stallsOf, .ref m_here, .ref m_stands, .ref m_nextMove, .ref m_queued, .ref m_queue, .ref m_failedWorker, .ref m_failedLevel, .ref m_failedTurns, .ref m_can])), (m_levelOf, .inl (cI, 200, .inl f_levelOf)), (m_times, .inl (cI, 200, .inl f_times)), (m_isNext, .inl (cB, 200, .inl f_isNext)), (m_isLive, .inl (cB, 16, .inl f_isLive)), (m_turnsOf, .inl (cI, 16, .inl f_turnsOf)), (m_takenOf, .inl (cI, 16, .inl f_takenOf)), (m_stallsOf, .inl (cI, 16, .inl f_stallsOf)), (m_queued, .inl (cI, 16, .inl f_queued))] := hD
  refine lv_aload_n hx hb d_MO_forget_10 rfl (lv_at hl 0 rfl) ?_
  refine lv_iconst (v := nI 0) hx hb d_MO_forget_11 (by decide +kernel) ?_
  refine va_put (D := D) (ci := 10) (v := .int (nI 0)) (ty := .int) (C := R_MO) (T := T_MO) (N := 36) hx hb hU iw_MO ty_MO ty_MO_ok nm_MO hown hK hP hD hS 0 rfl rfl 14 (by decide) (hU _ uw_737) (fun _ h9 => h9) rfl (by decide +kernel) (by first | rfl | decide +kernel) (by first | rfl | decide +kernel) (Nat.le_of_ble_eq_true rfl) d_MO_forget_12 (fun H locs hP hD hS => ?_)
  have hP : va_P D vwCl [(h0, .inr (10, [v_thrown, .int (nI wk), v_room, v_states, v_moves, v_told, .ref m_from, .ref m_to, .ref m_failWorker, .ref m_failLevel, .ref m_failTurn, .int (nI 0), v_x, .int (nI 0), .int (nI 0), v_turns, v_most, v_failings, .ref m_levelOf, .ref m_times, .ref m_sizes, .ref m_isNext, .ref m_isLive, .ref m_isLooked, .ref m_turnsOf, .ref m_takenOf, .ref m_stallsOf, .ref m_here, .ref m_stands, .ref m_nextMove, .ref m_queued, .ref m_queue, .ref m_failedWorker, .ref m_failedLevel, .ref m_failedTurns, .ref m_can])), (m_levelOf, .inl (cI, 200, .inl f_levelOf)), (m_times, .inl (cI, 200, .inl f_times)), (m_isNext, .inl (cB, 200, .inl f_isNext)), (m_isLive, .inl (cB, 16, .inl f_isLive)), (m_turnsOf, .inl (cI, 16, .inl f_turnsOf)), (m_takenOf, .inl (cI, 16, .inl f_takenOf)), (m_stallsOf, .inl (cI, 16, .inl f_stallsOf)), (m_queued, .inl (cI, 16, .inl f_queued))] H := hP
  have hD : va_D A [(h0, .inr (10, [v_thrown, .int (nI wk), v_room, v_states, v_moves, v_told, .ref m_from, .ref m_to, .ref m_failWorker, .ref m_failLevel, .ref m_failTurn, .int (nI 0), v_x, .int (nI 0), .int (nI 0), v_turns, v_most, v_failings, .ref m_levelOf, .ref m_times, .ref m_sizes, .ref m_isNext, .ref m_isLive, .ref m_isLooked, .ref m_turnsOf, .ref m_takenOf, .ref m_stallsOf, .ref m_here, .ref m_stands, .ref m_nextMove, .ref m_queued, .ref m_queue, .ref m_failedWorker, .ref m_failedLevel, .ref m_failedTurns, .ref m_can])), (m_levelOf, .inl (cI, 200, .inl f_levelOf)), (m_times, .inl (cI, 200, .inl f_times)), (m_isNext, .inl (cB, 200, .inl f_isNext)), (m_isLive, .inl (cB, 16, .inl f_isLive)), (m_turnsOf, .inl (cI, 16, .inl f_turnsOf)), (m_takenOf, .inl (cI, 16, .inl f_takenOf)), (m_stallsOf, .inl (cI, 16, .inl f_stallsOf)), (m_queued, .inl (cI, 16, .inl f_queued))] := hD
  refine lv_aload_n hx hb d_MO_forget_15 rfl (lv_at hl 0 rfl) ?_
  refine lv_iconst (v := nI 0) hx hb d_MO_forget_16 (by decide +kernel) ?_
  refine va_put (D := D) (ci := 10) (v := .int (nI 0)) (ty := .int) (C := R_MO) (T := T_MO) (N := 36) hx hb hU iw_MO ty_MO ty_MO_ok nm_MO hown hK hP hD hS 0 rfl rfl 15 (by decide) (hU _ uw_738) (fun _ h9 => h9) rfl (by decide +kernel) (by first | rfl | decide +kernel) (by first | rfl | decide +kernel) (Nat.le_of_ble_eq_true rfl) d_MO_forget_17 (fun H locs hP hD hS => ?_)
  have hP : va_P D vwCl [(h0, .inr (10, [v_thrown, .int (nI wk), v_room, v_states, v_moves, v_told, .ref m_from, .ref m_to, .ref m_failWorker, .ref m_failLevel, .ref m_failTurn, .int (nI 0), v_x, .int (nI 0), .int (nI 0), .int (nI 0), v_most, v_failings, .ref m_levelOf, .ref m_times, .ref m_sizes, .ref m_isNext, .ref m_isLive, .ref m_isLooked, .ref m_turnsOf, .ref m_takenOf, .ref m_stallsOf, .ref m_here, .ref m_stands, .ref m_nextMove, .ref m_queued, .ref m_queue, .ref m_failedWorker, .ref m_failedLevel, .ref m_failedTurns, .ref m_can])), (m_levelOf, .inl (cI, 200, .inl f_levelOf)), (m_times, .inl (cI, 200, .inl f_times)), (m_isNext, .inl (cB, 200, .inl f_isNext)), (m_isLive, .inl (cB, 16, .inl f_isLive)), (m_turnsOf, .inl (cI, 16, .inl f_turnsOf)), (m_takenOf, .inl (cI, 16, .inl f_takenOf)), (m_stallsOf, .inl (cI, 16, .inl f_stallsOf)), (m_queued, .inl (cI, 16, .inl f_queued))] H := hP
  have hD : va_D A [(h0, .inr (10, [v_thrown, .int (nI wk), v_room, v_states, v_moves, v_told, .ref m_from, .ref m_to, .ref m_failWorker, .ref m_failLevel, .ref m_failTurn, .int (nI 0), v_x, .int (nI 0), .int (nI 0), .int (nI 0), v_most, v_failings, .ref m_levelOf, .ref m_times, .ref m_sizes, .ref m_isNext, .ref m_isLive, .ref m_isLooked, .ref m_turnsOf, .ref m_takenOf, .ref m_stallsOf, .ref m_here, .ref m_stands, .ref m_nextMove, .ref m_queued, .ref m_queue, .ref m_failedWorker, .ref m_failedLevel, .ref m_failedTurns, .ref m_can])), (m_levelOf, .inl (cI, 200, .inl f_levelOf)), (m_times, .inl (cI, 200, .inl f_times)), (m_isNext, .inl (cB, 200, .inl f_isNext)), (m_isLive, .inl (cB, 16, .inl f_isLive)), (m_turnsOf, .inl (cI, 16, .inl f_turnsOf)), (m_takenOf, .inl (cI, 16, .inl f_takenOf)), (m_stallsOf, .inl (cI, 16, .inl f_stallsOf)), (m_queued, .inl (cI, 16, .inl f_queued))] := hD
  refine lv_aload_n hx hb d_MO_forget_20 rfl (lv_at hl 0 rfl) ?_
  refine lv_iconst (v := nI 0) hx hb d_MO_forget_21 (by decide +kernel) ?_
  refine va_put (D := D) (ci := 10) (v := .int (nI 0)) (ty := .int) (C := R_MO) (T := T_MO) (N := 36) hx hb hU iw_MO ty_MO ty_MO_ok nm_MO hown hK hP hD hS 0 rfl rfl 16 (by decide) (hU _ uw_739) (fun _ h9 => h9) rfl (by decide +kernel) (by first | rfl | decide +kernel) (by first | rfl | decide +kernel) (Nat.le_of_ble_eq_true rfl) d_MO_forget_22 (fun H locs hP hD hS => ?_)
  have hP : va_P D vwCl [(h0, .inr (10, [v_thrown, .int (nI wk), v_room, v_states, v_moves, v_told, .ref m_from, .ref m_to, .ref m_failWorker, .ref m_failLevel, .ref m_failTurn, .int (nI 0), v_x, .int (nI 0), .int (nI 0), .int (nI 0), .int (nI 0), v_failings, .ref m_levelOf, .ref m_times, .ref m_sizes, .ref m_isNext, .ref m_isLive, .ref m_isLooked, .ref m_turnsOf, .ref m_takenOf, .ref m_stallsOf, .ref m_here, .ref m_stands, .ref m_nextMove, .ref m_queued, .ref m_queue, .ref m_failedWorker, .ref m_failedLevel, .ref m_failedTurns, .ref m_can])), (m_levelOf, .inl (cI, 200, .inl f_levelOf)), (m_times, .inl (cI, 200, .inl f_times)), (m_isNext, .inl (cB, 200, .inl f_isNext)), (m_isLive, .inl (cB, 16, .inl f_isLive)), (m_turnsOf, .inl (cI, 16, .inl f_turnsOf)), (m_takenOf, .inl (cI, 16, .inl f_takenOf)), (m_stallsOf, .inl (cI, 16, .inl f_stallsOf)), (m_queued, .inl (cI, 16, .inl f_queued))] H := hP
  have hD : va_D A [(h0, .inr (10, [v_thrown, .int (nI wk), v_room, v_states, v_moves, v_told, .ref m_from, .ref m_to, .ref m_failWorker, .ref m_failLevel, .ref m_failTurn, .int (nI 0), v_x, .int (nI 0), .int (nI 0), .int (nI 0), .int (nI 0), v_failings, .ref m_levelOf, .ref m_times, .ref m_sizes, .ref m_isNext, .ref m_isLive, .ref m_isLooked, .ref m_turnsOf, .ref m_takenOf, .ref m_stallsOf, .ref m_here, .ref m_stands, .ref m_nextMove, .ref m_queued, .ref m_queue, .ref m_failedWorker, .ref m_failedLevel, .ref m_failedTurns, .ref m_can])), (m_levelOf, .inl (cI, 200, .inl f_levelOf)), (m_times, .inl (cI, 200, .inl f_times)), (m_isNext, .inl (cB, 200, .inl f_isNext)), (m_isLive, .inl (cB, 16, .inl f_isLive)), (m_turnsOf, .inl (cI, 16, .inl f_turnsOf)), (m_takenOf, .inl (cI, 16, .inl f_takenOf)), (m_stallsOf, .inl (cI, 16, .inl f_stallsOf)), (m_queued, .inl (cI, 16, .inl f_queued))] := hD
  refine lv_aload_n hx hb d_MO_forget_25 rfl (lv_at hl 0 rfl) ?_
  refine lv_iconst (v := nI 0) hx hb d_MO_forget_26 (by decide +kernel) ?_
  refine va_put (D := D) (ci := 10) (v := .int (nI 0)) (ty := .int) (C := R_MO) (T := T_MO) (N := 36) hx hb hU iw_MO ty_MO ty_MO_ok nm_MO hown hK hP hD hS 0 rfl rfl 17 (by decide) (hU _ uw_740) (fun _ h9 => h9) rfl (by decide +kernel) (by first | rfl | decide +kernel) (by first | rfl | decide +kernel) (Nat.le_of_ble_eq_true rfl) d_MO_forget_27 (fun H locs hP hD hS => ?_)
  have hP : va_P D vwCl [(h0, .inr (10, [v_thrown, .int (nI wk), v_room, v_states, v_moves, v_told, .ref m_from, .ref m_to, .ref m_failWorker, .ref m_failLevel, .ref m_failTurn, .int (nI 0), v_x, .int (nI 0), .int (nI 0), .int (nI 0), .int (nI 0), .int (nI 0), .ref m_levelOf, .ref m_times, .ref m_sizes, .ref m_isNext, .ref m_isLive, .ref m_isLooked, .ref m_turnsOf, .ref m_takenOf, .ref m_stallsOf, .ref m_here, .ref m_stands, .ref m_nextMove, .ref m_queued, .ref m_queue, .ref m_failedWorker, .ref m_failedLevel, .ref m_failedTurns, .ref m_can])), (m_levelOf, .inl (cI, 200, .inl f_levelOf)), (m_times, .inl (cI, 200, .inl f_times)), (m_isNext, .inl (cB, 200, .inl f_isNext)), (m_isLive, .inl (cB, 16, .inl f_isLive)), (m_turnsOf, .inl (cI, 16, .inl f_turnsOf)), (m_takenOf, .inl (cI, 16, .inl f_takenOf)), (m_stallsOf, .inl (cI, 16, .inl f_stallsOf)), (m_queued, .inl (cI, 16, .inl f_queued))] H := hP
  have hD : va_D A [(h0, .inr (10, [v_thrown, .int (nI wk), v_room, v_states, v_moves, v_told, .ref m_from, .ref m_to, .ref m_failWorker, .ref m_failLevel, .ref m_failTurn, .int (nI 0), v_x, .int (nI 0), .int (nI 0), .int (nI 0), .int (nI 0), .int (nI 0), .ref m_levelOf, .ref m_times, .ref m_sizes, .ref m_isNext, .ref m_isLive, .ref m_isLooked, .ref m_turnsOf, .ref m_takenOf, .ref m_stallsOf, .ref m_here, .ref m_stands, .ref m_nextMove, .ref m_queued, .ref m_queue, .ref m_failedWorker, .ref m_failedLevel, .ref m_failedTurns, .ref m_can])), (m_levelOf, .inl (cI, 200, .inl f_levelOf)), (m_times, .inl (cI, 200, .inl f_times)), (m_isNext, .inl (cB, 200, .inl f_isNext)), (m_isLive, .inl (cB, 16, .inl f_isLive)), (m_turnsOf, .inl (cI, 16, .inl f_turnsOf)), (m_takenOf, .inl (cI, 16, .inl f_takenOf)), (m_stallsOf, .inl (cI, 16, .inl f_stallsOf)), (m_queued, .inl (cI, 16, .inl f_queued))] := hD
  refine lv_iconst (v := nI 0) hx hb d_MO_forget_30 (by decide +kernel) ?_
  refine lv_istore_n (lv' := [(1, .int (nI 0)), (0, .ref h0)]) hx hb d_MO_forget_31 rfl hl (by decide) rfl (fun ls hl => ?_)
  obtain ⟨hP, hD⟩ := xs_refill (q0 := 1) (g := xs_fl 0 (-1) f_levelOf) hP hD rfl (fun j _ => by rw [xs_fl_0])
  have hP : va_P D vwCl [(h0, .inr (10, [v_thrown, .int (nI wk), v_room, v_states, v_moves, v_told, .ref m_from, .ref m_to, .ref m_failWorker, .ref m_failLevel, .ref m_failTurn, .int (nI 0), v_x, .int (nI 0), .int (nI 0), .int (nI 0), .int (nI 0), .int (nI 0), .ref m_levelOf, .ref m_times, .ref m_sizes, .ref m_isNext, .ref m_isLive, .ref m_isLooked, .ref m_turnsOf, .ref m_takenOf, .ref m_stallsOf, .ref m_here, .ref m_stands, .ref m_nextMove, .ref m_queued, .ref m_queue, .ref m_failedWorker, .ref m_failedLevel, .ref m_failedTurns, .ref m_can])), (m_levelOf, .inl (cI, 200, .inl (xs_fl 0 (-1) f_levelOf))), (m_times, .inl (cI, 200, .inl f_times)), (m_isNext, .inl (cB, 200, .inl f_isNext)), (m_isLive, .inl (cB, 16, .inl f_isLive)), (m_turnsOf, .inl (cI, 16, .inl f_turnsOf)), (m_takenOf, .inl (cI, 16, .inl f_takenOf)), (m_stallsOf, .inl (cI, 16, .inl f_stallsOf)), (m_queued, .inl (cI, 16, .inl f_queued))] H := hP
  have hD : va_D A [(h0, .inr (10, [v_thrown, .int (nI wk), v_room, v_states, v_moves, v_told, .ref m_from, .ref m_to, .ref m_failWorker, .ref m_failLevel, .ref m_failTurn, .int (nI 0), v_x, .int (nI 0), .int (nI 0), .int (nI 0), .int (nI 0), .int (nI 0), .ref m_levelOf, .ref m_times, .ref m_sizes, .ref m_isNext, .ref m_isLive, .ref m_isLooked, .ref m_turnsOf, .ref m_takenOf, .ref m_stallsOf, .ref m_here, .ref m_stands, .ref m_nextMove, .ref m_queued, .ref m_queue, .ref m_failedWorker, .ref m_failedLevel, .ref m_failedTurns, .ref m_can])), (m_levelOf, .inl (cI, 200, .inl (xs_fl 0 (-1) f_levelOf))), (m_times, .inl (cI, 200, .inl f_times)), (m_isNext, .inl (cB, 200, .inl f_isNext)), (m_isLive, .inl (cB, 16, .inl f_isLive)), (m_turnsOf, .inl (cI, 16, .inl f_turnsOf)), (m_takenOf, .inl (cI, 16, .inl f_takenOf)), (m_stallsOf, .inl (cI, 16, .inl f_stallsOf)), (m_queued, .inl (cI, 16, .inl f_queued))] := hD
  obtain ⟨hP, hD⟩ := xs_refill (q0 := 2) (g := xs_fl 0 (nI 0) f_times) hP hD rfl (fun j _ => by rw [xs_fl_0])
  have hP : va_P D vwCl [(h0, .inr (10, [v_thrown, .int (nI wk), v_room, v_states, v_moves, v_told, .ref m_from, .ref m_to, .ref m_failWorker, .ref m_failLevel, .ref m_failTurn, .int (nI 0), v_x, .int (nI 0), .int (nI 0), .int (nI 0), .int (nI 0), .int (nI 0), .ref m_levelOf, .ref m_times, .ref m_sizes, .ref m_isNext, .ref m_isLive, .ref m_isLooked, .ref m_turnsOf, .ref m_takenOf, .ref m_stallsOf, .ref m_here, .ref m_stands, .ref m_nextMove, .ref m_queued, .ref m_queue, .ref m_failedWorker, .ref m_failedLevel, .ref m_failedTurns, .ref m_can])), (m_levelOf, .inl (cI, 200, .inl (xs_fl 0 (-1) f_levelOf))), (m_times, .inl (cI, 200, .inl (xs_fl 0 (nI 0) f_times))), (m_isNext, .inl (cB, 200, .inl f_isNext)), (m_isLive, .inl (cB, 16, .inl f_isLive)), (m_turnsOf, .inl (cI, 16, .inl f_turnsOf)), (m_takenOf, .inl (cI, 16, .inl f_takenOf)), (m_stallsOf, .inl (cI, 16, .inl f_stallsOf)), (m_queued, .inl (cI, 16, .inl f_queued))] H := hP
  have hD : va_D A [(h0, .inr (10, [v_thrown, .int (nI wk), v_room, v_states, v_moves, v_told, .ref m_from, .ref m_to, .ref m_failWorker, .ref m_failLevel, .ref m_failTurn, .int (nI 0), v_x, .int (nI 0), .int (nI 0), .int (nI 0), .int (nI 0), .int (nI 0), .ref m_levelOf, .ref m_times, .ref m_sizes, .ref m_isNext, .ref m_isLive, .ref m_isLooked, .ref m_turnsOf, .ref m_takenOf, .ref m_stallsOf, .ref m_here, .ref m_stands, .ref m_nextMove, .ref m_queued, .ref m_queue, .ref m_failedWorker, .ref m_failedLevel, .ref m_failedTurns, .ref m_can])), (m_levelOf, .inl (cI, 200, .inl (xs_fl 0 (-1) f_levelOf))), (m_times, .inl (cI, 200, .inl (xs_fl 0 (nI 0) f_times))), (m_isNext, .inl (cB, 200, .inl f_isNext)), (m_isLive, .inl (cB, 16, .inl f_isLive)), (m_turnsOf, .inl (cI, 16, .inl f_turnsOf)), (m_takenOf, .inl (cI, 16, .inl f_takenOf)), (m_stallsOf, .inl (cI, 16, .inl f_stallsOf)), (m_queued, .inl (cI, 16, .inl f_queued))] := hD
  obtain ⟨hP, hD⟩ := xs_refill (q0 := 3) (g := xs_fl 0 (nI 0) f_isNext) hP hD rfl (fun j _ => by rw [xs_fl_0])
  have hP : va_P D vwCl [(h0, .inr (10, [v_thrown, .int (nI wk), v_room, v_states, v_moves, v_told, .ref m_from, .ref m_to, .ref m_failWorker, .ref m_failLevel, .ref m_failTurn, .int (nI 0), v_x, .int (nI 0), .int (nI 0), .int (nI 0), .int (nI 0), .int (nI 0), .ref m_levelOf, .ref m_times, .ref m_sizes, .ref m_isNext, .ref m_isLive, .ref m_isLooked, .ref m_turnsOf, .ref m_takenOf, .ref m_stallsOf, .ref m_here, .ref m_stands, .ref m_nextMove, .ref m_queued, .ref m_queue, .ref m_failedWorker, .ref m_failedLevel, .ref m_failedTurns, .ref m_can])), (m_levelOf, .inl (cI, 200, .inl (xs_fl 0 (-1) f_levelOf))), (m_times, .inl (cI, 200, .inl (xs_fl 0 (nI 0) f_times))), (m_isNext, .inl (cB, 200, .inl (xs_fl 0 (nI 0) f_isNext))), (m_isLive, .inl (cB, 16, .inl f_isLive)), (m_turnsOf, .inl (cI, 16, .inl f_turnsOf)), (m_takenOf, .inl (cI, 16, .inl f_takenOf)), (m_stallsOf, .inl (cI, 16, .inl f_stallsOf)), (m_queued, .inl (cI, 16, .inl f_queued))] H := hP
  have hD : va_D A [(h0, .inr (10, [v_thrown, .int (nI wk), v_room, v_states, v_moves, v_told, .ref m_from, .ref m_to, .ref m_failWorker, .ref m_failLevel, .ref m_failTurn, .int (nI 0), v_x, .int (nI 0), .int (nI 0), .int (nI 0), .int (nI 0), .int (nI 0), .ref m_levelOf, .ref m_times, .ref m_sizes, .ref m_isNext, .ref m_isLive, .ref m_isLooked, .ref m_turnsOf, .ref m_takenOf, .ref m_stallsOf, .ref m_here, .ref m_stands, .ref m_nextMove, .ref m_queued, .ref m_queue, .ref m_failedWorker, .ref m_failedLevel, .ref m_failedTurns, .ref m_can])), (m_levelOf, .inl (cI, 200, .inl (xs_fl 0 (-1) f_levelOf))), (m_times, .inl (cI, 200, .inl (xs_fl 0 (nI 0) f_times))), (m_isNext, .inl (cB, 200, .inl (xs_fl 0 (nI 0) f_isNext))), (m_isLive, .inl (cB, 16, .inl f_isLive)), (m_turnsOf, .inl (cI, 16, .inl f_turnsOf)), (m_takenOf, .inl (cI, 16, .inl f_takenOf)), (m_stallsOf, .inl (cI, 16, .inl f_stallsOf)), (m_queued, .inl (cI, 16, .inl f_queued))] := hD
  refine W.widen (k := 0) (n := 0) (Nat.le_of_ble_eq_true rfl) (Nat.le_of_ble_eq_true rfl) ?_
  have lp_32 : ∀ (fu : Nat) (i : Nat) (H : Heap) (locs : List Loc) (ls : Array Slot), (i + fu = 200) → va_P D vwCl [(h0, .inr (10, [v_thrown, .int (nI wk), v_room, v_states, v_moves, v_told, .ref m_from, .ref m_to, .ref m_failWorker, .ref m_failLevel, .ref m_failTurn, .int (nI 0), v_x, .int (nI 0), .int (nI 0), .int (nI 0), .int (nI 0), .int (nI 0), .ref m_levelOf, .ref m_times, .ref m_sizes, .ref m_isNext, .ref m_isLive, .ref m_isLooked, .ref m_turnsOf, .ref m_takenOf, .ref m_stallsOf, .ref m_here, .ref m_stands, .ref m_nextMove, .ref m_queued, .ref m_queue, .ref m_failedWorker, .ref m_failedLevel, .ref m_failedTurns, .ref m_can])), (m_levelOf, .inl (cI, 200, .inl (xs_fl i (-1) f_levelOf))), (m_times, .inl (cI, 200, .inl (xs_fl i (nI 0) f_times))), (m_isNext, .inl (cB, 200, .inl (xs_fl i (nI 0) f_isNext))), (m_isLive, .inl (cB, 16, .inl f_isLive)), (m_turnsOf, .inl (cI, 16, .inl f_turnsOf)), (m_takenOf, .inl (cI, 16, .inl f_takenOf)), (m_stallsOf, .inl (cI, 16, .inl f_stallsOf)), (m_queued, .inl (cI, 16, .inl f_queued))] H → va_D A [(h0, .inr (10, [v_thrown, .int (nI wk), v_room, v_states, v_moves, v_told, .ref m_from, .ref m_to, .ref m_failWorker, .ref m_failLevel, .ref m_failTurn, .int (nI 0), v_x, .int (nI 0), .int (nI 0), .int (nI 0), .int (nI 0), .int (nI 0), .ref m_levelOf, .ref m_times, .ref m_sizes, .ref m_isNext, .ref m_isLive, .ref m_isLooked, .ref m_turnsOf, .ref m_takenOf, .ref m_stallsOf, .ref m_here, .ref m_stands, .ref m_nextMove, .ref m_queued, .ref m_queue, .ref m_failedWorker, .ref m_failedLevel, .ref m_failedTurns, .ref m_can])), (m_levelOf, .inl (cI, 200, .inl (xs_fl i (-1) f_levelOf))), (m_times, .inl (cI, 200, .inl (xs_fl i (nI 0) f_times))), (m_isNext, .inl (cB, 200, .inl (xs_fl i (nI 0) f_isNext))), (m_isLive, .inl (cB, 16, .inl f_isLive)), (m_turnsOf, .inl (cI, 16, .inl f_turnsOf)), (m_takenOf, .inl (cI, 16, .inl f_takenOf)), (m_stallsOf, .inl (cI, 16, .inl f_stallsOf)), (m_queued, .inl (cI, 16, .inl f_queued))] → va_S A s.heap H locs → lv_has ls 2 [(1, .int (nI i)), (0, .ref h0)] → W p l e (headSpec w_MO_forget ({ frames := 0, cells := 0, slots := 0, locals := 0  } : Room)).room s m #[.ref h0] below meth c H locs 0 0 (xZ (σ := Unit) below #[.ref h0] s D vwCl [(h0, .inr (10, [v_thrown, .int (nI wk), v_room, v_states, v_moves, v_told, .ref m_from, .ref m_to, .ref m_failWorker, .ref m_failLevel, .ref m_failTurn, v_wasRun, v_x, v_level, v_levels, v_turns, v_most, v_failings, .ref m_levelOf, .ref m_times, .ref m_sizes, .ref m_isNext, .ref m_isLive, .ref m_isLooked, .ref m_turnsOf, .ref m_takenOf, .ref m_stallsOf, .ref m_here, .ref m_stands, .ref m_nextMove, .ref m_queued, .ref m_queue, .ref m_failedWorker, .ref m_failedLevel, .ref m_failedTurns, .ref m_can])), (m_levelOf, .inl (cI, 200, .inl f_levelOf)), (m_times, .inl (cI, 200, .inl f_times)), (m_isNext, .inl (cB, 200, .inl f_isNext)), (m_isLive, .inl (cB, 16, .inl f_isLive)), (m_turnsOf, .inl (cI, 16, .inl f_turnsOf)), (m_takenOf, .inl (cI, 16, .inl f_takenOf)), (m_stallsOf, .inl (cI, 16, .inl f_stallsOf)), (m_queued, .inl (cI, 16, .inl f_queued))] s.heap.size ({ frames := 0, cells := 0, slots := 0, locals := 0  } : Room).cells ({ frames := 0, cells := 0, slots := 0, locals := 0  } : Room).slots (fun _ => True) (fun _ => none) (fun _ => [(h0, .inr (10, [v_thrown, .int (nI wk), v_room, v_states, v_moves, v_told, .ref m_from, .ref m_to, .ref m_failWorker, .ref m_failLevel, .ref m_failTurn, .int (nI 0), v_x, .int (nI 0), .int (nI 0), .int (nI 0), .int (nI 0), .int (nI 0), .ref m_levelOf, .ref m_times, .ref m_sizes, .ref m_isNext, .ref m_isLive, .ref m_isLooked, .ref m_turnsOf, .ref m_takenOf, .ref m_stallsOf, .ref m_here, .ref m_stands, .ref m_nextMove, .ref m_queued, .ref m_queue, .ref m_failedWorker, .ref m_failedLevel, .ref m_failedTurns, .ref m_can])), (m_levelOf, .inl (cI, 200, .inl (fun _ => (-1)))), (m_times, .inl (cI, 200, .inl (fun _ => nI 0))), (m_isNext, .inl (cB, 200, .inl (fun _ => nI 0))), (m_isLive, .inl (cB, 16, .inl (fun j => if j < wk then nI 1 else nI 0))), (m_turnsOf, .inl (cI, 16, .inl (fun _ => nI 0))), (m_takenOf, .inl (cI, 16, .inl (fun _ => nI 0))), (m_stallsOf, .inl (cI, 16, .inl (fun _ => nI 0))), (m_queued, .inl (cI, 16, .inl (fun _ => nI 0)))])) (F0 m 32 ls []) := by
    intro fu
    induction fu with
    | zero =>
      intro i H locs ls hi hP hD hS hl
      refine lv_iload_n hx hb d_MO_forget_32 rfl (lv_at hl 0 rfl) ?_
      refine lv_sipush (v := nI 200) hx hb d_MO_forget_33 (by decide +kernel) ?_
      refine lv_icmp_ge (tgt := 66) hx hb d_MO_forget_36 (by decide) (fun c_36 => ?_) (fun c_36 => ?_)
      · obtain ⟨hP, hD⟩ := xs_refill (q0 := 1) (g := fun _ => (-1)) hP hD rfl (fun j hj => by show (if j < i then _ else _) = _; rw [if_pos (by omega)])
        have hP : va_P D vwCl [(h0, .inr (10, [v_thrown, .int (nI wk), v_room, v_states, v_moves, v_told, .ref m_from, .ref m_to, .ref m_failWorker, .ref m_failLevel, .ref m_failTurn, .int (nI 0), v_x, .int (nI 0), .int (nI 0), .int (nI 0), .int (nI 0), .int (nI 0), .ref m_levelOf, .ref m_times, .ref m_sizes, .ref m_isNext, .ref m_isLive, .ref m_isLooked, .ref m_turnsOf, .ref m_takenOf, .ref m_stallsOf, .ref m_here, .ref m_stands, .ref m_nextMove, .ref m_queued, .ref m_queue, .ref m_failedWorker, .ref m_failedLevel, .ref m_failedTurns, .ref m_can])), (m_levelOf, .inl (cI, 200, .inl (fun _ => (-1)))), (m_times, .inl (cI, 200, .inl (xs_fl i (nI 0) f_times))), (m_isNext, .inl (cB, 200, .inl (xs_fl i (nI 0) f_isNext))), (m_isLive, .inl (cB, 16, .inl f_isLive)), (m_turnsOf, .inl (cI, 16, .inl f_turnsOf)), (m_takenOf, .inl (cI, 16, .inl f_takenOf)), (m_stallsOf, .inl (cI, 16, .inl f_stallsOf)), (m_queued, .inl (cI, 16, .inl f_queued))] H := hP
        have hD : va_D A [(h0, .inr (10, [v_thrown, .int (nI wk), v_room, v_states, v_moves, v_told, .ref m_from, .ref m_to, .ref m_failWorker, .ref m_failLevel, .ref m_failTurn, .int (nI 0), v_x, .int (nI 0), .int (nI 0), .int (nI 0), .int (nI 0), .int (nI 0), .ref m_levelOf, .ref m_times, .ref m_sizes, .ref m_isNext, .ref m_isLive, .ref m_isLooked, .ref m_turnsOf, .ref m_takenOf, .ref m_stallsOf, .ref m_here, .ref m_stands, .ref m_nextMove, .ref m_queued, .ref m_queue, .ref m_failedWorker, .ref m_failedLevel, .ref m_failedTurns, .ref m_can])), (m_levelOf, .inl (cI, 200, .inl (fun _ => (-1)))), (m_times, .inl (cI, 200, .inl (xs_fl i (nI 0) f_times))), (m_isNext, .inl (cB, 200, .inl (xs_fl i (nI 0) f_isNext))), (m_isLive, .inl (cB, 16, .inl f_isLive)), (m_turnsOf, .inl (cI, 16, .inl f_turnsOf)), (m_takenOf, .inl (cI, 16, .inl f_takenOf)), (m_stallsOf, .inl (cI, 16, .inl f_stallsOf)), (m_queued, .inl (cI, 16, .inl f_queued))] := hD
        obtain ⟨hP, hD⟩ := xs_refill (q0 := 2) (g := fun _ => nI 0) hP hD rfl (fun j hj => by show (if j < i then _ else _) = _; rw [if_pos (by omega)])
        have hP : va_P D vwCl [(h0, .inr (10, [v_thrown, .int (nI wk), v_room, v_states, v_moves, v_told, .ref m_from, .ref m_to, .ref m_failWorker, .ref m_failLevel, .ref m_failTurn, .int (nI 0), v_x, .int (nI 0), .int (nI 0), .int (nI 0), .int (nI 0), .int (nI 0), .ref m_levelOf, .ref m_times, .ref m_sizes, .ref m_isNext, .ref m_isLive, .ref m_isLooked, .ref m_turnsOf, .ref m_takenOf, .ref m_stallsOf, .ref m_here, .ref m_stands, .ref m_nextMove, .ref m_queued, .ref m_queue, .ref m_failedWorker, .ref m_failedLevel, .ref m_failedTurns, .ref m_can])), (m_levelOf, .inl (cI, 200, .inl (fun _ => (-1)))), (m_times, .inl (cI, 200, .inl (fun _ => nI 0))), (m_isNext, .inl (cB, 200, .inl (xs_fl i (nI 0) f_isNext))), (m_isLive, .inl (cB, 16, .inl f_isLive)), (m_turnsOf, .inl (cI, 16, .inl f_turnsOf)), (m_takenOf, .inl (cI, 16, .inl f_takenOf)), (m_stallsOf, .inl (cI, 16, .inl f_stallsOf)), (m_queued, .inl (cI, 16, .inl f_queued))] H := hP
        have hD : va_D A [(h0, .inr (10, [v_thrown, .int (nI wk), v_room, v_states, v_moves, v_told, .ref m_from, .ref m_to, .ref m_failWorker, .ref m_failLevel, .ref m_failTurn, .int (nI 0), v_x, .int (nI 0), .int (nI 0), .int (nI 0), .int (nI 0), .int (nI 0), .ref m_levelOf, .ref m_times, .ref m_sizes, .ref m_isNext, .ref m_isLive, .ref m_isLooked, .ref m_turnsOf, .ref m_takenOf, .ref m_stallsOf, .ref m_here, .ref m_stands, .ref m_nextMove, .ref m_queued, .ref m_queue, .ref m_failedWorker, .ref m_failedLevel, .ref m_failedTurns, .ref m_can])), (m_levelOf, .inl (cI, 200, .inl (fun _ => (-1)))), (m_times, .inl (cI, 200, .inl (fun _ => nI 0))), (m_isNext, .inl (cB, 200, .inl (xs_fl i (nI 0) f_isNext))), (m_isLive, .inl (cB, 16, .inl f_isLive)), (m_turnsOf, .inl (cI, 16, .inl f_turnsOf)), (m_takenOf, .inl (cI, 16, .inl f_takenOf)), (m_stallsOf, .inl (cI, 16, .inl f_stallsOf)), (m_queued, .inl (cI, 16, .inl f_queued))] := hD
        obtain ⟨hP, hD⟩ := xs_refill (q0 := 3) (g := fun _ => nI 0) hP hD rfl (fun j hj => by show (if j < i then _ else _) = _; rw [if_pos (by omega)])
        have hP : va_P D vwCl [(h0, .inr (10, [v_thrown, .int (nI wk), v_room, v_states, v_moves, v_told, .ref m_from, .ref m_to, .ref m_failWorker, .ref m_failLevel, .ref m_failTurn, .int (nI 0), v_x, .int (nI 0), .int (nI 0), .int (nI 0), .int (nI 0), .int (nI 0), .ref m_levelOf, .ref m_times, .ref m_sizes, .ref m_isNext, .ref m_isLive, .ref m_isLooked, .ref m_turnsOf, .ref m_takenOf, .ref m_stallsOf, .ref m_here, .ref m_stands, .ref m_nextMove, .ref m_queued, .ref m_queue, .ref m_failedWorker, .ref m_failedLevel, .ref m_failedTurns, .ref m_can])), (m_levelOf, .inl (cI, 200, .inl (fun _ => (-1)))), (m_times, .inl (cI, 200, .inl (fun _ => nI 0))), (m_isNext, .inl (cB, 200, .inl (fun _ => nI 0))), (m_isLive, .inl (cB, 16, .inl f_isLive)), (m_turnsOf, .inl (cI, 16, .inl f_turnsOf)), (m_takenOf, .inl (cI, 16, .inl f_takenOf)), (m_stallsOf, .inl (cI, 16, .inl f_stallsOf)), (m_queued, .inl (cI, 16, .inl f_queued))] H := hP
        have hD : va_D A [(h0, .inr (10, [v_thrown, .int (nI wk), v_room, v_states, v_moves, v_told, .ref m_from, .ref m_to, .ref m_failWorker, .ref m_failLevel, .ref m_failTurn, .int (nI 0), v_x, .int (nI 0), .int (nI 0), .int (nI 0), .int (nI 0), .int (nI 0), .ref m_levelOf, .ref m_times, .ref m_sizes, .ref m_isNext, .ref m_isLive, .ref m_isLooked, .ref m_turnsOf, .ref m_takenOf, .ref m_stallsOf, .ref m_here, .ref m_stands, .ref m_nextMove, .ref m_queued, .ref m_queue, .ref m_failedWorker, .ref m_failedLevel, .ref m_failedTurns, .ref m_can])), (m_levelOf, .inl (cI, 200, .inl (fun _ => (-1)))), (m_times, .inl (cI, 200, .inl (fun _ => nI 0))), (m_isNext, .inl (cB, 200, .inl (fun _ => nI 0))), (m_isLive, .inl (cB, 16, .inl f_isLive)), (m_turnsOf, .inl (cI, 16, .inl f_turnsOf)), (m_takenOf, .inl (cI, 16, .inl f_takenOf)), (m_stallsOf, .inl (cI, 16, .inl f_stallsOf)), (m_queued, .inl (cI, 16, .inl f_queued))] := hD
        refine lv_iconst (v := nI 0) hx hb d_MO_forget_66 (by decide +kernel) ?_
        refine lv_istore_n (lv' := [(1, .int (nI 0)), (0, .ref h0)]) hx hb d_MO_forget_67 rfl hl (by decide) rfl (fun ls hl => ?_)
        obtain ⟨hP, hD⟩ := xs_refill (q0 := 4) (g := xs_fg 0 (fun j => if j < wk then nI 1 else nI 0) f_isLive) hP hD rfl (fun j _ => by rw [xs_fg_0])
        have hP : va_P D vwCl [(h0, .inr (10, [v_thrown, .int (nI wk), v_room, v_states, v_moves, v_told, .ref m_from, .ref m_to, .ref m_failWorker, .ref m_failLevel, .ref m_failTurn, .int (nI 0), v_x, .int (nI 0), .int (nI 0), .int (nI 0), .int (nI 0), .int (nI 0), .ref m_levelOf, .ref m_times, .ref m_sizes, .ref m_isNext, .ref m_isLive, .ref m_isLooked, .ref m_turnsOf, .ref m_takenOf, .ref m_stallsOf, .ref m_here, .ref m_stands, .ref m_nextMove, .ref m_queued, .ref m_queue, .ref m_failedWorker, .ref m_failedLevel, .ref m_failedTurns, .ref m_can])), (m_levelOf, .inl (cI, 200, .inl (fun _ => (-1)))), (m_times, .inl (cI, 200, .inl (fun _ => nI 0))), (m_isNext, .inl (cB, 200, .inl (fun _ => nI 0))), (m_isLive, .inl (cB, 16, .inl (xs_fg 0 (fun j => if j < wk then nI 1 else nI 0) f_isLive))), (m_turnsOf, .inl (cI, 16, .inl f_turnsOf)), (m_takenOf, .inl (cI, 16, .inl f_takenOf)), (m_stallsOf, .inl (cI, 16, .inl f_stallsOf)), (m_queued, .inl (cI, 16, .inl f_queued))] H := hP
        have hD : va_D A [(h0, .inr (10, [v_thrown, .int (nI wk), v_room, v_states, v_moves, v_told, .ref m_from, .ref m_to, .ref m_failWorker, .ref m_failLevel, .ref m_failTurn, .int (nI 0), v_x, .int (nI 0), .int (nI 0), .int (nI 0), .int (nI 0), .int (nI 0), .ref m_levelOf, .ref m_times, .ref m_sizes, .ref m_isNext, .ref m_isLive, .ref m_isLooked, .ref m_turnsOf, .ref m_takenOf, .ref m_stallsOf, .ref m_here, .ref m_stands, .ref m_nextMove, .ref m_queued, .ref m_queue, .ref m_failedWorker, .ref m_failedLevel, .ref m_failedTurns, .ref m_can])), (m_levelOf, .inl (cI, 200, .inl (fun _ => (-1)))), (m_times, .inl (cI, 200, .inl (fun _ => nI 0))), (m_isNext, .inl (cB, 200, .inl (fun _ => nI 0))), (m_isLive, .inl (cB, 16, .inl (xs_fg 0 (fun j => if j < wk then nI 1 else nI 0) f_isLive))), (m_turnsOf, .inl (cI, 16, .inl f_turnsOf)), (m_takenOf, .inl (cI, 16, .inl f_takenOf)), (m_stallsOf, .inl (cI, 16, .inl f_stallsOf)), (m_queued, .inl (cI, 16, .inl f_queued))] := hD
        obtain ⟨hP, hD⟩ := xs_refill (q0 := 5) (g := xs_fl 0 (nI 0) f_turnsOf) hP hD rfl (fun j _ => by rw [xs_fl_0])
        have hP : va_P D vwCl [(h0, .inr (10, [v_thrown, .int (nI wk), v_room, v_states, v_moves, v_told, .ref m_from, .ref m_to, .ref m_failWorker, .ref m_failLevel, .ref m_failTurn, .int (nI 0), v_x, .int (nI 0), .int (nI 0), .int (nI 0), .int (nI 0), .int (nI 0), .ref m_levelOf, .ref m_times, .ref m_sizes, .ref m_isNext, .ref m_isLive, .ref m_isLooked, .ref m_turnsOf, .ref m_takenOf, .ref m_stallsOf, .ref m_here, .ref m_stands, .ref m_nextMove, .ref m_queued, .ref m_queue, .ref m_failedWorker, .ref m_failedLevel, .ref m_failedTurns, .ref m_can])), (m_levelOf, .inl (cI, 200, .inl (fun _ => (-1)))), (m_times, .inl (cI, 200, .inl (fun _ => nI 0))), (m_isNext, .inl (cB, 200, .inl (fun _ => nI 0))), (m_isLive, .inl (cB, 16, .inl (xs_fg 0 (fun j => if j < wk then nI 1 else nI 0) f_isLive))), (m_turnsOf, .inl (cI, 16, .inl (xs_fl 0 (nI 0) f_turnsOf))), (m_takenOf, .inl (cI, 16, .inl f_takenOf)), (m_stallsOf, .inl (cI, 16, .inl f_stallsOf)), (m_queued, .inl (cI, 16, .inl f_queued))] H := hP
        have hD : va_D A [(h0, .inr (10, [v_thrown, .int (nI wk), v_room, v_states, v_moves, v_told, .ref m_from, .ref m_to, .ref m_failWorker, .ref m_failLevel, .ref m_failTurn, .int (nI 0), v_x, .int (nI 0), .int (nI 0), .int (nI 0), .int (nI 0), .int (nI 0), .ref m_levelOf, .ref m_times, .ref m_sizes, .ref m_isNext, .ref m_isLive, .ref m_isLooked, .ref m_turnsOf, .ref m_takenOf, .ref m_stallsOf, .ref m_here, .ref m_stands, .ref m_nextMove, .ref m_queued, .ref m_queue, .ref m_failedWorker, .ref m_failedLevel, .ref m_failedTurns, .ref m_can])), (m_levelOf, .inl (cI, 200, .inl (fun _ => (-1)))), (m_times, .inl (cI, 200, .inl (fun _ => nI 0))), (m_isNext, .inl (cB, 200, .inl (fun _ => nI 0))), (m_isLive, .inl (cB, 16, .inl (xs_fg 0 (fun j => if j < wk then nI 1 else nI 0) f_isLive))), (m_turnsOf, .inl (cI, 16, .inl (xs_fl 0 (nI 0) f_turnsOf))), (m_takenOf, .inl (cI, 16, .inl f_takenOf)), (m_stallsOf, .inl (cI, 16, .inl f_stallsOf)), (m_queued, .inl (cI, 16, .inl f_queued))] := hD
        obtain ⟨hP, hD⟩ := xs_refill (q0 := 6) (g := xs_fl 0 (nI 0) f_takenOf) hP hD rfl (fun j _ => by rw [xs_fl_0])
        have hP : va_P D vwCl [(h0, .inr (10, [v_thrown, .int (nI wk), v_room, v_states, v_moves, v_told, .ref m_from, .ref m_to, .ref m_failWorker, .ref m_failLevel, .ref m_failTurn, .int (nI 0), v_x, .int (nI 0), .int (nI 0), .int (nI 0), .int (nI 0), .int (nI 0), .ref m_levelOf, .ref m_times, .ref m_sizes, .ref m_isNext, .ref m_isLive, .ref m_isLooked, .ref m_turnsOf, .ref m_takenOf, .ref m_stallsOf, .ref m_here, .ref m_stands, .ref m_nextMove, .ref m_queued, .ref m_queue, .ref m_failedWorker, .ref m_failedLevel, .ref m_failedTurns, .ref m_can])), (m_levelOf, .inl (cI, 200, .inl (fun _ => (-1)))), (m_times, .inl (cI, 200, .inl (fun _ => nI 0))), (m_isNext, .inl (cB, 200, .inl (fun _ => nI 0))), (m_isLive, .inl (cB, 16, .inl (xs_fg 0 (fun j => if j < wk then nI 1 else nI 0) f_isLive))), (m_turnsOf, .inl (cI, 16, .inl (xs_fl 0 (nI 0) f_turnsOf))), (m_takenOf, .inl (cI, 16, .inl (xs_fl 0 (nI 0) f_takenOf))), (m_stallsOf, .inl (cI, 16, .inl f_stallsOf)), (m_queued, .inl (cI, 16, .inl f_queued))] H := hP
        have hD : va_D A [(h0, .inr (10, [v_thrown, .int (nI wk), v_room, v_states, v_moves, v_told, .ref m_from, .ref m_to, .ref m_failWorker, .ref m_failLevel, .ref m_failTurn, .int (nI 0), v_x, .int (nI 0), .int (nI 0), .int (nI 0), .int (nI 0), .int (nI 0), .ref m_levelOf, .ref m_times, .ref m_sizes, .ref m_isNext, .ref m_isLive, .ref m_isLooked, .ref m_turnsOf, .ref m_takenOf, .ref m_stallsOf, .ref m_here, .ref m_stands, .ref m_nextMove, .ref m_queued, .ref m_queue, .ref m_failedWorker, .ref m_failedLevel, .ref m_failedTurns, .ref m_can])), (m_levelOf, .inl (cI, 200, .inl (fun _ => (-1)))), (m_times, .inl (cI, 200, .inl (fun _ => nI 0))), (m_isNext, .inl (cB, 200, .inl (fun _ => nI 0))), (m_isLive, .inl (cB, 16, .inl (xs_fg 0 (fun j => if j < wk then nI 1 else nI 0) f_isLive))), (m_turnsOf, .inl (cI, 16, .inl (xs_fl 0 (nI 0) f_turnsOf))), (m_takenOf, .inl (cI, 16, .inl (xs_fl 0 (nI 0) f_takenOf))), (m_stallsOf, .inl (cI, 16, .inl f_stallsOf)), (m_queued, .inl (cI, 16, .inl f_queued))] := hD
        obtain ⟨hP, hD⟩ := xs_refill (q0 := 7) (g := xs_fl 0 (nI 0) f_stallsOf) hP hD rfl (fun j _ => by rw [xs_fl_0])
        have hP : va_P D vwCl [(h0, .inr (10, [v_thrown, .int (nI wk), v_room, v_states, v_moves, v_told, .ref m_from, .ref m_to, .ref m_failWorker, .ref m_failLevel, .ref m_failTurn, .int (nI 0), v_x, .int (nI 0), .int (nI 0), .int (nI 0), .int (nI 0), .int (nI 0), .ref m_levelOf, .ref m_times, .ref m_sizes, .ref m_isNext, .ref m_isLive, .ref m_isLooked, .ref m_turnsOf, .ref m_takenOf, .ref m_stallsOf, .ref m_here, .ref m_stands, .ref m_nextMove, .ref m_queued, .ref m_queue, .ref m_failedWorker, .ref m_failedLevel, .ref m_failedTurns, .ref m_can])), (m_levelOf, .inl (cI, 200, .inl (fun _ => (-1)))), (m_times, .inl (cI, 200, .inl (fun _ => nI 0))), (m_isNext, .inl (cB, 200, .inl (fun _ => nI 0))), (m_isLive, .inl (cB, 16, .inl (xs_fg 0 (fun j => if j < wk then nI 1 else nI 0) f_isLive))), (m_turnsOf, .inl (cI, 16, .inl (xs_fl 0 (nI 0) f_turnsOf))), (m_takenOf, .inl (cI, 16, .inl (xs_fl 0 (nI 0) f_takenOf))), (m_stallsOf, .inl (cI, 16, .inl (xs_fl 0 (nI 0) f_stallsOf))), (m_queued, .inl (cI, 16, .inl f_queued))] H := hP
        have hD : va_D A [(h0, .inr (10, [v_thrown, .int (nI wk), v_room, v_states, v_moves, v_told, .ref m_from, .ref m_to, .ref m_failWorker, .ref m_failLevel, .ref m_failTurn, .int (nI 0), v_x, .int (nI 0), .int (nI 0), .int (nI 0), .int (nI 0), .int (nI 0), .ref m_levelOf, .ref m_times, .ref m_sizes, .ref m_isNext, .ref m_isLive, .ref m_isLooked, .ref m_turnsOf, .ref m_takenOf, .ref m_stallsOf, .ref m_here, .ref m_stands, .ref m_nextMove, .ref m_queued, .ref m_queue, .ref m_failedWorker, .ref m_failedLevel, .ref m_failedTurns, .ref m_can])), (m_levelOf, .inl (cI, 200, .inl (fun _ => (-1)))), (m_times, .inl (cI, 200, .inl (fun _ => nI 0))), (m_isNext, .inl (cB, 200, .inl (fun _ => nI 0))), (m_isLive, .inl (cB, 16, .inl (xs_fg 0 (fun j => if j < wk then nI 1 else nI 0) f_isLive))), (m_turnsOf, .inl (cI, 16, .inl (xs_fl 0 (nI 0) f_turnsOf))), (m_takenOf, .inl (cI, 16, .inl (xs_fl 0 (nI 0) f_takenOf))), (m_stallsOf, .inl (cI, 16, .inl (xs_fl 0 (nI 0) f_stallsOf))), (m_queued, .inl (cI, 16, .inl f_queued))] := hD
        obtain ⟨hP, hD⟩ := xs_refill (q0 := 8) (g := xs_fl 0 (nI 0) f_queued) hP hD rfl (fun j _ => by rw [xs_fl_0])
        have hP : va_P D vwCl [(h0, .inr (10, [v_thrown, .int (nI wk), v_room, v_states, v_moves, v_told, .ref m_from, .ref m_to, .ref m_failWorker, .ref m_failLevel, .ref m_failTurn, .int (nI 0), v_x, .int (nI 0), .int (nI 0), .int (nI 0), .int (nI 0), .int (nI 0), .ref m_levelOf, .ref m_times, .ref m_sizes, .ref m_isNext, .ref m_isLive, .ref m_isLooked, .ref m_turnsOf, .ref m_takenOf, .ref m_stallsOf, .ref m_here, .ref m_stands, .ref m_nextMove, .ref m_queued, .ref m_queue, .ref m_failedWorker, .ref m_failedLevel, .ref m_failedTurns, .ref m_can])), (m_levelOf, .inl (cI, 200, .inl (fun _ => (-1)))), (m_times, .inl (cI, 200, .inl (fun _ => nI 0))), (m_isNext, .inl (cB, 200, .inl (fun _ => nI 0))), (m_isLive, .inl (cB, 16, .inl (xs_fg 0 (fun j => if j < wk then nI 1 else nI 0) f_isLive))), (m_turnsOf, .inl (cI, 16, .inl (xs_fl 0 (nI 0) f_turnsOf))), (m_takenOf, .inl (cI, 16, .inl (xs_fl 0 (nI 0) f_takenOf))), (m_stallsOf, .inl (cI, 16, .inl (xs_fl 0 (nI 0) f_stallsOf))), (m_queued, .inl (cI, 16, .inl (xs_fl 0 (nI 0) f_queued)))] H := hP
        have hD : va_D A [(h0, .inr (10, [v_thrown, .int (nI wk), v_room, v_states, v_moves, v_told, .ref m_from, .ref m_to, .ref m_failWorker, .ref m_failLevel, .ref m_failTurn, .int (nI 0), v_x, .int (nI 0), .int (nI 0), .int (nI 0), .int (nI 0), .int (nI 0), .ref m_levelOf, .ref m_times, .ref m_sizes, .ref m_isNext, .ref m_isLive, .ref m_isLooked, .ref m_turnsOf, .ref m_takenOf, .ref m_stallsOf, .ref m_here, .ref m_stands, .ref m_nextMove, .ref m_queued, .ref m_queue, .ref m_failedWorker, .ref m_failedLevel, .ref m_failedTurns, .ref m_can])), (m_levelOf, .inl (cI, 200, .inl (fun _ => (-1)))), (m_times, .inl (cI, 200, .inl (fun _ => nI 0))), (m_isNext, .inl (cB, 200, .inl (fun _ => nI 0))), (m_isLive, .inl (cB, 16, .inl (xs_fg 0 (fun j => if j < wk then nI 1 else nI 0) f_isLive))), (m_turnsOf, .inl (cI, 16, .inl (xs_fl 0 (nI 0) f_turnsOf))), (m_takenOf, .inl (cI, 16, .inl (xs_fl 0 (nI 0) f_takenOf))), (m_stallsOf, .inl (cI, 16, .inl (xs_fl 0 (nI 0) f_stallsOf))), (m_queued, .inl (cI, 16, .inl (xs_fl 0 (nI 0) f_queued)))] := hD
        refine W.widen (k := 0) (n := 0) (Nat.le_of_ble_eq_true rfl) (Nat.le_of_ble_eq_true rfl) ?_
        have lp_68 : ∀ (fu : Nat) (i : Nat) (H : Heap) (locs : List Loc) (ls : Array Slot), (i + fu = 16) → va_P D vwCl [(h0, .inr (10, [v_thrown, .int (nI wk), v_room, v_states, v_moves, v_told, .ref m_from, .ref m_to, .ref m_failWorker, .ref m_failLevel, .ref m_failTurn, .int (nI 0), v_x, .int (nI 0), .int (nI 0), .int (nI 0), .int (nI 0), .int (nI 0), .ref m_levelOf, .ref m_times, .ref m_sizes, .ref m_isNext, .ref m_isLive, .ref m_isLooked, .ref m_turnsOf, .ref m_takenOf, .ref m_stallsOf, .ref m_here, .ref m_stands, .ref m_nextMove, .ref m_queued, .ref m_queue, .ref m_failedWorker, .ref m_failedLevel, .ref m_failedTurns, .ref m_can])), (m_levelOf, .inl (cI, 200, .inl (fun _ => (-1)))), (m_times, .inl (cI, 200, .inl (fun _ => nI 0))), (m_isNext, .inl (cB, 200, .inl (fun _ => nI 0))), (m_isLive, .inl (cB, 16, .inl (xs_fg i (fun j => if j < wk then nI 1 else nI 0) f_isLive))), (m_turnsOf, .inl (cI, 16, .inl (xs_fl i (nI 0) f_turnsOf))), (m_takenOf, .inl (cI, 16, .inl (xs_fl i (nI 0) f_takenOf))), (m_stallsOf, .inl (cI, 16, .inl (xs_fl i (nI 0) f_stallsOf))), (m_queued, .inl (cI, 16, .inl (xs_fl i (nI 0) f_queued)))] H → va_D A [(h0, .inr (10, [v_thrown, .int (nI wk), v_room, v_states, v_moves, v_told, .ref m_from, .ref m_to, .ref m_failWorker, .ref m_failLevel, .ref m_failTurn, .int (nI 0), v_x, .int (nI 0), .int (nI 0), .int (nI 0), .int (nI 0), .int (nI 0), .ref m_levelOf, .ref m_times, .ref m_sizes, .ref m_isNext, .ref m_isLive, .ref m_isLooked, .ref m_turnsOf, .ref m_takenOf, .ref m_stallsOf, .ref m_here, .ref m_stands, .ref m_nextMove, .ref m_queued, .ref m_queue, .ref m_failedWorker, .ref m_failedLevel, .ref m_failedTurns, .ref m_can])), (m_levelOf, .inl (cI, 200, .inl (fun _ => (-1)))), (m_times, .inl (cI, 200, .inl (fun _ => nI 0))), (m_isNext, .inl (cB, 200, .inl (fun _ => nI 0))), (m_isLive, .inl (cB, 16, .inl (xs_fg i (fun j => if j < wk then nI 1 else nI 0) f_isLive))), (m_turnsOf, .inl (cI, 16, .inl (xs_fl i (nI 0) f_turnsOf))), (m_takenOf, .inl (cI, 16, .inl (xs_fl i (nI 0) f_takenOf))), (m_stallsOf, .inl (cI, 16, .inl (xs_fl i (nI 0) f_stallsOf))), (m_queued, .inl (cI, 16, .inl (xs_fl i (nI 0) f_queued)))] → va_S A s.heap H locs → lv_has ls 2 [(1, .int (nI i)), (0, .ref h0)] → W p l e (headSpec w_MO_forget ({ frames := 0, cells := 0, slots := 0, locals := 0  } : Room)).room s m #[.ref h0] below meth c H locs 0 0 (xZ (σ := Unit) below #[.ref h0] s D vwCl [(h0, .inr (10, [v_thrown, .int (nI wk), v_room, v_states, v_moves, v_told, .ref m_from, .ref m_to, .ref m_failWorker, .ref m_failLevel, .ref m_failTurn, v_wasRun, v_x, v_level, v_levels, v_turns, v_most, v_failings, .ref m_levelOf, .ref m_times, .ref m_sizes, .ref m_isNext, .ref m_isLive, .ref m_isLooked, .ref m_turnsOf, .ref m_takenOf, .ref m_stallsOf, .ref m_here, .ref m_stands, .ref m_nextMove, .ref m_queued, .ref m_queue, .ref m_failedWorker, .ref m_failedLevel, .ref m_failedTurns, .ref m_can])), (m_levelOf, .inl (cI, 200, .inl f_levelOf)), (m_times, .inl (cI, 200, .inl f_times)), (m_isNext, .inl (cB, 200, .inl f_isNext)), (m_isLive, .inl (cB, 16, .inl f_isLive)), (m_turnsOf, .inl (cI, 16, .inl f_turnsOf)), (m_takenOf, .inl (cI, 16, .inl f_takenOf)), (m_stallsOf, .inl (cI, 16, .inl f_stallsOf)), (m_queued, .inl (cI, 16, .inl f_queued))] s.heap.size ({ frames := 0, cells := 0, slots := 0, locals := 0  } : Room).cells ({ frames := 0, cells := 0, slots := 0, locals := 0  } : Room).slots (fun _ => True) (fun _ => none) (fun _ => [(h0, .inr (10, [v_thrown, .int (nI wk), v_room, v_states, v_moves, v_told, .ref m_from, .ref m_to, .ref m_failWorker, .ref m_failLevel, .ref m_failTurn, .int (nI 0), v_x, .int (nI 0), .int (nI 0), .int (nI 0), .int (nI 0), .int (nI 0), .ref m_levelOf, .ref m_times, .ref m_sizes, .ref m_isNext, .ref m_isLive, .ref m_isLooked, .ref m_turnsOf, .ref m_takenOf, .ref m_stallsOf, .ref m_here, .ref m_stands, .ref m_nextMove, .ref m_queued, .ref m_queue, .ref m_failedWorker, .ref m_failedLevel, .ref m_failedTurns, .ref m_can])), (m_levelOf, .inl (cI, 200, .inl (fun _ => (-1)))), (m_times, .inl (cI, 200, .inl (fun _ => nI 0))), (m_isNext, .inl (cB, 200, .inl (fun _ => nI 0))), (m_isLive, .inl (cB, 16, .inl (fun j => if j < wk then nI 1 else nI 0))), (m_turnsOf, .inl (cI, 16, .inl (fun _ => nI 0))), (m_takenOf, .inl (cI, 16, .inl (fun _ => nI 0))), (m_stallsOf, .inl (cI, 16, .inl (fun _ => nI 0))), (m_queued, .inl (cI, 16, .inl (fun _ => nI 0)))])) (F0 m 68 ls []) := by
          intro fu
          induction fu with
          | zero =>
            intro i H locs ls hi hP hD hS hl
            refine lv_iload_n hx hb d_MO_forget_68 rfl (lv_at hl 0 rfl) ?_
            refine lv_bipush (v := nI 16) hx hb d_MO_forget_69 (by decide +kernel) ?_
            refine lv_icmp_ge (tgt := 127) hx hb d_MO_forget_71 (by decide) (fun c_71 => ?_) (fun c_71 => ?_)
            · obtain ⟨hP, hD⟩ := xs_refill (q0 := 4) (g := fun j => if j < wk then nI 1 else nI 0) hP hD rfl (fun j hj => by show (if j < i then _ else _) = _; rw [if_pos (by omega)])
              have hP : va_P D vwCl [(h0, .inr (10, [v_thrown, .int (nI wk), v_room, v_states, v_moves, v_told, .ref m_from, .ref m_to, .ref m_failWorker, .ref m_failLevel, .ref m_failTurn, .int (nI 0), v_x, .int (nI 0), .int (nI 0), .int (nI 0), .int (nI 0), .int (nI 0), .ref m_levelOf, .ref m_times, .ref m_sizes, .ref m_isNext, .ref m_isLive, .ref m_isLooked, .ref m_turnsOf, .ref m_takenOf, .ref m_stallsOf, .ref m_here, .ref m_stands, .ref m_nextMove, .ref m_queued, .ref m_queue, .ref m_failedWorker, .ref m_failedLevel, .ref m_failedTurns, .ref m_can])), (m_levelOf, .inl (cI, 200, .inl (fun _ => (-1)))), (m_times, .inl (cI, 200, .inl (fun _ => nI 0))), (m_isNext, .inl (cB, 200, .inl (fun _ => nI 0))), (m_isLive, .inl (cB, 16, .inl (fun j => if j < wk then nI 1 else nI 0))), (m_turnsOf, .inl (cI, 16, .inl (xs_fl i (nI 0) f_turnsOf))), (m_takenOf, .inl (cI, 16, .inl (xs_fl i (nI 0) f_takenOf))), (m_stallsOf, .inl (cI, 16, .inl (xs_fl i (nI 0) f_stallsOf))), (m_queued, .inl (cI, 16, .inl (xs_fl i (nI 0) f_queued)))] H := hP
              have hD : va_D A [(h0, .inr (10, [v_thrown, .int (nI wk), v_room, v_states, v_moves, v_told, .ref m_from, .ref m_to, .ref m_failWorker, .ref m_failLevel, .ref m_failTurn, .int (nI 0), v_x, .int (nI 0), .int (nI 0), .int (nI 0), .int (nI 0), .int (nI 0), .ref m_levelOf, .ref m_times, .ref m_sizes, .ref m_isNext, .ref m_isLive, .ref m_isLooked, .ref m_turnsOf, .ref m_takenOf, .ref m_stallsOf, .ref m_here, .ref m_stands, .ref m_nextMove, .ref m_queued, .ref m_queue, .ref m_failedWorker, .ref m_failedLevel, .ref m_failedTurns, .ref m_can])), (m_levelOf, .inl (cI, 200, .inl (fun _ => (-1)))), (m_times, .inl (cI, 200, .inl (fun _ => nI 0))), (m_isNext, .inl (cB, 200, .inl (fun _ => nI 0))), (m_isLive, .inl (cB, 16, .inl (fun j => if j < wk then nI 1 else nI 0))), (m_turnsOf, .inl (cI, 16, .inl (xs_fl i (nI 0) f_turnsOf))), (m_takenOf, .inl (cI, 16, .inl (xs_fl i (nI 0) f_takenOf))), (m_stallsOf, .inl (cI, 16, .inl (xs_fl i (nI 0) f_stallsOf))), (m_queued, .inl (cI, 16, .inl (xs_fl i (nI 0) f_queued)))] := hD
              obtain ⟨hP, hD⟩ := xs_refill (q0 := 5) (g := fun _ => nI 0) hP hD rfl (fun j hj => by show (if j < i then _ else _) = _; rw [if_pos (by omega)])
              have hP : va_P D vwCl [(h0, .inr (10, [v_thrown, .int (nI wk), v_room, v_states, v_moves, v_told, .ref m_from, .ref m_to, .ref m_failWorker, .ref m_failLevel, .ref m_failTurn, .int (nI 0), v_x, .int (nI 0), .int (nI 0), .int (nI 0), .int (nI 0), .int (nI 0), .ref m_levelOf, .ref m_times, .ref m_sizes, .ref m_isNext, .ref m_isLive, .ref m_isLooked, .ref m_turnsOf, .ref m_takenOf, .ref m_stallsOf, .ref m_here, .ref m_stands, .ref m_nextMove, .ref m_queued, .ref m_queue, .ref m_failedWorker, .ref m_failedLevel, .ref m_failedTurns, .ref m_can])), (m_levelOf, .inl (cI, 200, .inl (fun _ => (-1)))), (m_times, .inl (cI, 200, .inl (fun _ => nI 0))), (m_isNext, .inl (cB, 200, .inl (fun _ => nI 0))), (m_isLive, .inl (cB, 16, .inl (fun j => if j < wk then nI 1 else nI 0))), (m_turnsOf, .inl (cI, 16, .inl (fun _ => nI 0))), (m_takenOf, .inl (cI, 16, .inl (xs_fl i (nI 0) f_takenOf))), (m_stallsOf, .inl (cI, 16, .inl (xs_fl i (nI 0) f_stallsOf))), (m_queued, .inl (cI, 16, .inl (xs_fl i (nI 0) f_queued)))] H := hP
              have hD : va_D A [(h0, .inr (10, [v_thrown, .int (nI wk), v_room, v_states, v_moves, v_told, .ref m_from, .ref m_to, .ref m_failWorker, .ref m_failLevel, .ref m_failTurn, .int (nI 0), v_x, .int (nI 0), .int (nI 0), .int (nI 0), .int (nI 0), .int (nI 0), .ref m_levelOf, .ref m_times, .ref m_sizes, .ref m_isNext, .ref m_isLive, .ref m_isLooked, .ref m_turnsOf, .ref m_takenOf, .ref m_stallsOf, .ref m_here, .ref m_stands, .ref m_nextMove, .ref m_queued, .ref m_queue, .ref m_failedWorker, .ref m_failedLevel, .ref m_failedTurns, .ref m_can])), (m_levelOf, .inl (cI, 200, .inl (fun _ => (-1)))), (m_times, .inl (cI, 200, .inl (fun _ => nI 0))), (m_isNext, .inl (cB, 200, .inl (fun _ => nI 0))), (m_isLive, .inl (cB, 16, .inl (fun j => if j < wk then nI 1 else nI 0))), (m_turnsOf, .inl (cI, 16, .inl (fun _ => nI 0))), (m_takenOf, .inl (cI, 16, .inl (xs_fl i (nI 0) f_takenOf))), (m_stallsOf, .inl (cI, 16, .inl (xs_fl i (nI 0) f_stallsOf))), (m_queued, .inl (cI, 16, .inl (xs_fl i (nI 0) f_queued)))] := hD
              obtain ⟨hP, hD⟩ := xs_refill (q0 := 6) (g := fun _ => nI 0) hP hD rfl (fun j hj => by show (if j < i then _ else _) = _; rw [if_pos (by omega)])
              have hP : va_P D vwCl [(h0, .inr (10, [v_thrown, .int (nI wk), v_room, v_states, v_moves, v_told, .ref m_from, .ref m_to, .ref m_failWorker, .ref m_failLevel, .ref m_failTurn, .int (nI 0), v_x, .int (nI 0), .int (nI 0), .int (nI 0), .int (nI 0), .int (nI 0), .ref m_levelOf, .ref m_times, .ref m_sizes, .ref m_isNext, .ref m_isLive, .ref m_isLooked, .ref m_turnsOf, .ref m_takenOf, .ref m_stallsOf, .ref m_here, .ref m_stands, .ref m_nextMove, .ref m_queued, .ref m_queue, .ref m_failedWorker, .ref m_failedLevel, .ref m_failedTurns, .ref m_can])), (m_levelOf, .inl (cI, 200, .inl (fun _ => (-1)))), (m_times, .inl (cI, 200, .inl (fun _ => nI 0))), (m_isNext, .inl (cB, 200, .inl (fun _ => nI 0))), (m_isLive, .inl (cB, 16, .inl (fun j => if j < wk then nI 1 else nI 0))), (m_turnsOf, .inl (cI, 16, .inl (fun _ => nI 0))), (m_takenOf, .inl (cI, 16, .inl (fun _ => nI 0))), (m_stallsOf, .inl (cI, 16, .inl (xs_fl i (nI 0) f_stallsOf))), (m_queued, .inl (cI, 16, .inl (xs_fl i (nI 0) f_queued)))] H := hP
              have hD : va_D A [(h0, .inr (10, [v_thrown, .int (nI wk), v_room, v_states, v_moves, v_told, .ref m_from, .ref m_to, .ref m_failWorker, .ref m_failLevel, .ref m_failTurn, .int (nI 0), v_x, .int (nI 0), .int (nI 0), .int (nI 0), .int (nI 0), .int (nI 0), .ref m_levelOf, .ref m_times, .ref m_sizes, .ref m_isNext, .ref m_isLive, .ref m_isLooked, .ref m_turnsOf, .ref m_takenOf, .ref m_stallsOf, .ref m_here, .ref m_stands, .ref m_nextMove, .ref m_queued, .ref m_queue, .ref m_failedWorker, .ref m_failedLevel, .ref m_failedTurns, .ref m_can])), (m_levelOf, .inl (cI, 200, .inl (fun _ => (-1)))), (m_times, .inl (cI, 200, .inl (fun _ => nI 0))), (m_isNext, .inl (cB, 200, .inl (fun _ => nI 0))), (m_isLive, .inl (cB, 16, .inl (fun j => if j < wk then nI 1 else nI 0))), (m_turnsOf, .inl (cI, 16, .inl (fun _ => nI 0))), (m_takenOf, .inl (cI, 16, .inl (fun _ => nI 0))), (m_stallsOf, .inl (cI, 16, .inl (xs_fl i (nI 0) f_stallsOf))), (m_queued, .inl (cI, 16, .inl (xs_fl i (nI 0) f_queued)))] := hD
              obtain ⟨hP, hD⟩ := xs_refill (q0 := 7) (g := fun _ => nI 0) hP hD rfl (fun j hj => by show (if j < i then _ else _) = _; rw [if_pos (by omega)])
              have hP : va_P D vwCl [(h0, .inr (10, [v_thrown, .int (nI wk), v_room, v_states, v_moves, v_told, .ref m_from, .ref m_to, .ref m_failWorker, .ref m_failLevel, .ref m_failTurn, .int (nI 0), v_x, .int (nI 0), .int (nI 0), .int (nI 0), .int (nI 0), .int (nI 0), .ref m_levelOf, .ref m_times, .ref m_sizes, .ref m_isNext, .ref m_isLive, .ref m_isLooked, .ref m_turnsOf, .ref m_takenOf, .ref m_stallsOf, .ref m_here, .ref m_stands, .ref m_nextMove, .ref m_queued, .ref m_queue, .ref m_failedWorker, .ref m_failedLevel, .ref m_failedTurns, .ref m_can])), (m_levelOf, .inl (cI, 200, .inl (fun _ => (-1)))), (m_times, .inl (cI, 200, .inl (fun _ => nI 0))), (m_isNext, .inl (cB, 200, .inl (fun _ => nI 0))), (m_isLive, .inl (cB, 16, .inl (fun j => if j < wk then nI 1 else nI 0))), (m_turnsOf, .inl (cI, 16, .inl (fun _ => nI 0))), (m_takenOf, .inl (cI, 16, .inl (fun _ => nI 0))), (m_stallsOf, .inl (cI, 16, .inl (fun _ => nI 0))), (m_queued, .inl (cI, 16, .inl (xs_fl i (nI 0) f_queued)))] H := hP
              have hD : va_D A [(h0, .inr (10, [v_thrown, .int (nI wk), v_room, v_states, v_moves, v_told, .ref m_from, .ref m_to, .ref m_failWorker, .ref m_failLevel, .ref m_failTurn, .int (nI 0), v_x, .int (nI 0), .int (nI 0), .int (nI 0), .int (nI 0), .int (nI 0), .ref m_levelOf, .ref m_times, .ref m_sizes, .ref m_isNext, .ref m_isLive, .ref m_isLooked, .ref m_turnsOf, .ref m_takenOf, .ref m_stallsOf, .ref m_here, .ref m_stands, .ref m_nextMove, .ref m_queued, .ref m_queue, .ref m_failedWorker, .ref m_failedLevel, .ref m_failedTurns, .ref m_can])), (m_levelOf, .inl (cI, 200, .inl (fun _ => (-1)))), (m_times, .inl (cI, 200, .inl (fun _ => nI 0))), (m_isNext, .inl (cB, 200, .inl (fun _ => nI 0))), (m_isLive, .inl (cB, 16, .inl (fun j => if j < wk then nI 1 else nI 0))), (m_turnsOf, .inl (cI, 16, .inl (fun _ => nI 0))), (m_takenOf, .inl (cI, 16, .inl (fun _ => nI 0))), (m_stallsOf, .inl (cI, 16, .inl (fun _ => nI 0))), (m_queued, .inl (cI, 16, .inl (xs_fl i (nI 0) f_queued)))] := hD
              obtain ⟨hP, hD⟩ := xs_refill (q0 := 8) (g := fun _ => nI 0) hP hD rfl (fun j hj => by show (if j < i then _ else _) = _; rw [if_pos (by omega)])
              have hP : va_P D vwCl [(h0, .inr (10, [v_thrown, .int (nI wk), v_room, v_states, v_moves, v_told, .ref m_from, .ref m_to, .ref m_failWorker, .ref m_failLevel, .ref m_failTurn, .int (nI 0), v_x, .int (nI 0), .int (nI 0), .int (nI 0), .int (nI 0), .int (nI 0), .ref m_levelOf, .ref m_times, .ref m_sizes, .ref m_isNext, .ref m_isLive, .ref m_isLooked, .ref m_turnsOf, .ref m_takenOf, .ref m_stallsOf, .ref m_here, .ref m_stands, .ref m_nextMove, .ref m_queued, .ref m_queue, .ref m_failedWorker, .ref m_failedLevel, .ref m_failedTurns, .ref m_can])), (m_levelOf, .inl (cI, 200, .inl (fun _ => (-1)))), (m_times, .inl (cI, 200, .inl (fun _ => nI 0))), (m_isNext, .inl (cB, 200, .inl (fun _ => nI 0))), (m_isLive, .inl (cB, 16, .inl (fun j => if j < wk then nI 1 else nI 0))), (m_turnsOf, .inl (cI, 16, .inl (fun _ => nI 0))), (m_takenOf, .inl (cI, 16, .inl (fun _ => nI 0))), (m_stallsOf, .inl (cI, 16, .inl (fun _ => nI 0))), (m_queued, .inl (cI, 16, .inl (fun _ => nI 0)))] H := hP
              have hD : va_D A [(h0, .inr (10, [v_thrown, .int (nI wk), v_room, v_states, v_moves, v_told, .ref m_from, .ref m_to, .ref m_failWorker, .ref m_failLevel, .ref m_failTurn, .int (nI 0), v_x, .int (nI 0), .int (nI 0), .int (nI 0), .int (nI 0), .int (nI 0), .ref m_levelOf, .ref m_times, .ref m_sizes, .ref m_isNext, .ref m_isLive, .ref m_isLooked, .ref m_turnsOf, .ref m_takenOf, .ref m_stallsOf, .ref m_here, .ref m_stands, .ref m_nextMove, .ref m_queued, .ref m_queue, .ref m_failedWorker, .ref m_failedLevel, .ref m_failedTurns, .ref m_can])), (m_levelOf, .inl (cI, 200, .inl (fun _ => (-1)))), (m_times, .inl (cI, 200, .inl (fun _ => nI 0))), (m_isNext, .inl (cB, 200, .inl (fun _ => nI 0))), (m_isLive, .inl (cB, 16, .inl (fun j => if j < wk then nI 1 else nI 0))), (m_turnsOf, .inl (cI, 16, .inl (fun _ => nI 0))), (m_takenOf, .inl (cI, 16, .inl (fun _ => nI 0))), (m_stallsOf, .inl (cI, 16, .inl (fun _ => nI 0))), (m_queued, .inl (cI, 16, .inl (fun _ => nI 0)))] := hD
              have hP9 := xs_P_sub (w := [(h0, .inr (10, [v_thrown, .int (nI wk), v_room, v_states, v_moves, v_told, .ref m_from, .ref m_to, .ref m_failWorker, .ref m_failLevel, .ref m_failTurn, .int (nI 0), v_x, .int (nI 0), .int (nI 0), .int (nI 0), .int (nI 0), .int (nI 0), .ref m_levelOf, .ref m_times, .ref m_sizes, .ref m_isNext, .ref m_isLive, .ref m_isLooked, .ref m_turnsOf, .ref m_takenOf, .ref m_stallsOf, .ref m_here, .ref m_stands, .ref m_nextMove, .ref m_queued, .ref m_queue, .ref m_failedWorker, .ref m_failedLevel, .ref m_failedTurns, .ref m_can])), (m_levelOf, .inl (cI, 200, .inl (fun _ => (-1)))), (m_times, .inl (cI, 200, .inl (fun _ => nI 0))), (m_isNext, .inl (cB, 200, .inl (fun _ => nI 0))), (m_isLive, .inl (cB, 16, .inl (fun j => if j < wk then nI 1 else nI 0))), (m_turnsOf, .inl (cI, 16, .inl (fun _ => nI 0))), (m_takenOf, .inl (cI, 16, .inl (fun _ => nI 0))), (m_stallsOf, .inl (cI, 16, .inl (fun _ => nI 0))), (m_queued, .inl (cI, 16, .inl (fun _ => nI 0)))]) hP [0, 1, 2, 3, 4, 5, 6, 7, 8] rfl
              have hD9 := hD.sub (ws' := [(h0, .inr (10, [v_thrown, .int (nI wk), v_room, v_states, v_moves, v_told, .ref m_from, .ref m_to, .ref m_failWorker, .ref m_failLevel, .ref m_failTurn, .int (nI 0), v_x, .int (nI 0), .int (nI 0), .int (nI 0), .int (nI 0), .int (nI 0), .ref m_levelOf, .ref m_times, .ref m_sizes, .ref m_isNext, .ref m_isLive, .ref m_isLooked, .ref m_turnsOf, .ref m_takenOf, .ref m_stallsOf, .ref m_here, .ref m_stands, .ref m_nextMove, .ref m_queued, .ref m_queue, .ref m_failedWorker, .ref m_failedLevel, .ref m_failedTurns, .ref m_can])), (m_levelOf, .inl (cI, 200, .inl (fun _ => (-1)))), (m_times, .inl (cI, 200, .inl (fun _ => nI 0))), (m_isNext, .inl (cB, 200, .inl (fun _ => nI 0))), (m_isLive, .inl (cB, 16, .inl (fun j => if j < wk then nI 1 else nI 0))), (m_turnsOf, .inl (cI, 16, .inl (fun _ => nI 0))), (m_takenOf, .inl (cI, 16, .inl (fun _ => nI 0))), (m_stallsOf, .inl (cI, 16, .inl (fun _ => nI 0))), (m_queued, .inl (cI, 16, .inl (fun _ => nI 0)))]) [0, 1, 2, 3, 4, 5, 6, 7, 8] (by decide) rfl
              exact xw_vret () hx hb hr hlocks d_MO_forget_127 (rfl) (trivial) hAe hP9 hD9 hS (Nat.le_of_ble_eq_true rfl) (Nat.le_of_ble_eq_true rfl)
            · exact absurd (nI_le (a := 16) (b := i) (by omega) (by omega)) c_71
          | succ fu ih =>
            intro i H locs ls hi hP hD hS hl
            refine lv_iload_n hx hb d_MO_forget_68 rfl (lv_at hl 0 rfl) ?_
            refine lv_bipush (v := nI 16) hx hb d_MO_forget_69 (by decide +kernel) ?_
            refine lv_icmp_ge (tgt := 127) hx hb d_MO_forget_71 (by decide) (fun c_71 => ?_) (fun c_71 => ?_)
            · exact absurd c_71 (nI_ge (by omega) (by omega))
            · refine lv_aload_n hx hb d_MO_forget_74 rfl (lv_at hl 1 rfl) ?_
              refine va_get (D := D) (ci := 10) (v := .ref m_isLive) (C := R_MO) (T := T_MO) (N := 36) hx hb hU iw_MO hown hK hP 0 rfl rfl 22 (by decide) (hU _ uw_745) (fun _ h9 => h9) rfl d_MO_forget_75 ?_
              refine lv_iload_n hx hb d_MO_forget_78 rfl (lv_at hl 0 rfl) ?_
              refine lv_iload_n hx hb d_MO_forget_79 rfl (lv_at hl 0 rfl) ?_
              refine lv_aload_n hx hb d_MO_forget_80 rfl (lv_at hl 1 rfl) ?_
              refine va_get (D := D) (ci := 10) (v := .int (nI wk)) (C := R_MO) (T := T_MO) (N := 36) hx hb hU iw_MO hown hK hP 0 rfl rfl 1 (by decide) (hU _ uw_724) (fun _ h9 => h9) rfl d_MO_forget_81 ?_
              refine lv_icmp_ge (tgt := 91) hx hb d_MO_forget_84 (by decide) (fun c_84 => ?_) (fun c_84 => ?_)
              · refine lv_iconst (v := nI 0) hx hb d_MO_forget_91 (by decide +kernel) ?_
                refine xw_zst hx hb hK hP hD hS 4 1 rfl rfl (by first | exact Or.inl rfl | exact Or.inr rfl) (by omega) (by decide) d_MO_forget_92 (fun H locs hP hD hS => ?_)
                have hP : va_P D vwCl [(h0, .inr (10, [v_thrown, .int (nI wk), v_room, v_states, v_moves, v_told, .ref m_from, .ref m_to, .ref m_failWorker, .ref m_failLevel, .ref m_failTurn, .int (nI 0), v_x, .int (nI 0), .int (nI 0), .int (nI 0), .int (nI 0), .int (nI 0), .ref m_levelOf, .ref m_times, .ref m_sizes, .ref m_isNext, .ref m_isLive, .ref m_isLooked, .ref m_turnsOf, .ref m_takenOf, .ref m_stallsOf, .ref m_here, .ref m_stands, .ref m_nextMove, .ref m_queued, .ref m_queue, .ref m_failedWorker, .ref m_failedLevel, .ref m_failedTurns, .ref m_can])), (m_levelOf, .inl (cI, 200, .inl (fun _ => (-1)))), (m_times, .inl (cI, 200, .inl (fun _ => nI 0))), (m_isNext, .inl (cB, 200, .inl (fun _ => nI 0))), (m_isLive, .inl (cB, 16, .inl (upd (xs_fg i (fun j => if j < wk then nI 1 else nI 0) f_isLive) i (nI 0)))), (m_turnsOf, .inl (cI, 16, .inl (xs_fl i (nI 0) f_turnsOf))), (m_takenOf, .inl (cI, 16, .inl (xs_fl i (nI 0) f_takenOf))), (m_stallsOf, .inl (cI, 16, .inl (xs_fl i (nI 0) f_stallsOf))), (m_queued, .inl (cI, 16, .inl (xs_fl i (nI 0) f_queued)))] H := hP
                have hD : va_D A [(h0, .inr (10, [v_thrown, .int (nI wk), v_room, v_states, v_moves, v_told, .ref m_from, .ref m_to, .ref m_failWorker, .ref m_failLevel, .ref m_failTurn, .int (nI 0), v_x, .int (nI 0), .int (nI 0), .int (nI 0), .int (nI 0), .int (nI 0), .ref m_levelOf, .ref m_times, .ref m_sizes, .ref m_isNext, .ref m_isLive, .ref m_isLooked, .ref m_turnsOf, .ref m_takenOf, .ref m_stallsOf, .ref m_here, .ref m_stands, .ref m_nextMove, .ref m_queued, .ref m_queue, .ref m_failedWorker, .ref m_failedLevel, .ref m_failedTurns, .ref m_can])), (m_levelOf, .inl (cI, 200, .inl (fun _ => (-1)))), (m_times, .inl (cI, 200, .inl (fun _ => nI 0))), (m_isNext, .inl (cB, 200, .inl (fun _ => nI 0))), (m_isLive, .inl (cB, 16, .inl (upd (xs_fg i (fun j => if j < wk then nI 1 else nI 0) f_isLive) i (nI 0)))), (m_turnsOf, .inl (cI, 16, .inl (xs_fl i (nI 0) f_turnsOf))), (m_takenOf, .inl (cI, 16, .inl (xs_fl i (nI 0) f_takenOf))), (m_stallsOf, .inl (cI, 16, .inl (xs_fl i (nI 0) f_stallsOf))), (m_queued, .inl (cI, 16, .inl (xs_fl i (nI 0) f_queued)))] := hD
                have e_92 : upd (xs_fg i (fun j => if j < wk then nI 1 else nI 0) f_isLive) i (nI 0) = xs_fg (i + 1) (fun j => if j < wk then nI 1 else nI 0) f_isLive := by first | (rw [← xs_fg_s]; simp only [if_pos (xs_ltN c_84 (by omega) (by omega))]; done) | (rw [← xs_fg_s]; simp only [if_neg (xs_geN c_84 (by omega) (by omega))]; done)
                rw [e_92] at hP hD
                have hP : va_P D vwCl [(h0, .inr (10, [v_thrown, .int (nI wk), v_room, v_states, v_moves, v_told, .ref m_from, .ref m_to, .ref m_failWorker, .ref m_failLevel, .ref m_failTurn, .int (nI 0), v_x, .int (nI 0), .int (nI 0), .int (nI 0), .int (nI 0), .int (nI 0), .ref m_levelOf, .ref m_times, .ref m_sizes, .ref m_isNext, .ref m_isLive, .ref m_isLooked, .ref m_turnsOf, .ref m_takenOf, .ref m_stallsOf, .ref m_here, .ref m_stands, .ref m_nextMove, .ref m_queued, .ref m_queue, .ref m_failedWorker, .ref m_failedLevel, .ref m_failedTurns, .ref m_can])), (m_levelOf, .inl (cI, 200, .inl (fun _ => (-1)))), (m_times, .inl (cI, 200, .inl (fun _ => nI 0))), (m_isNext, .inl (cB, 200, .inl (fun _ => nI 0))), (m_isLive, .inl (cB, 16, .inl (xs_fg (i + 1) (fun j => if j < wk then nI 1 else nI 0) f_isLive))), (m_turnsOf, .inl (cI, 16, .inl (xs_fl i (nI 0) f_turnsOf))), (m_takenOf, .inl (cI, 16, .inl (xs_fl i (nI 0) f_takenOf))), (m_stallsOf, .inl (cI, 16, .inl (xs_fl i (nI 0) f_stallsOf))), (m_queued, .inl (cI, 16, .inl (xs_fl i (nI 0) f_queued)))] H := hP
                have hD : va_D A [(h0, .inr (10, [v_thrown, .int (nI wk), v_room, v_states, v_moves, v_told, .ref m_from, .ref m_to, .ref m_failWorker, .ref m_failLevel, .ref m_failTurn, .int (nI 0), v_x, .int (nI 0), .int (nI 0), .int (nI 0), .int (nI 0), .int (nI 0), .ref m_levelOf, .ref m_times, .ref m_sizes, .ref m_isNext, .ref m_isLive, .ref m_isLooked, .ref m_turnsOf, .ref m_takenOf, .ref m_stallsOf, .ref m_here, .ref m_stands, .ref m_nextMove, .ref m_queued, .ref m_queue, .ref m_failedWorker, .ref m_failedLevel, .ref m_failedTurns, .ref m_can])), (m_levelOf, .inl (cI, 200, .inl (fun _ => (-1)))), (m_times, .inl (cI, 200, .inl (fun _ => nI 0))), (m_isNext, .inl (cB, 200, .inl (fun _ => nI 0))), (m_isLive, .inl (cB, 16, .inl (xs_fg (i + 1) (fun j => if j < wk then nI 1 else nI 0) f_isLive))), (m_turnsOf, .inl (cI, 16, .inl (xs_fl i (nI 0) f_turnsOf))), (m_takenOf, .inl (cI, 16, .inl (xs_fl i (nI 0) f_takenOf))), (m_stallsOf, .inl (cI, 16, .inl (xs_fl i (nI 0) f_stallsOf))), (m_queued, .inl (cI, 16, .inl (xs_fl i (nI 0) f_queued)))] := hD
                refine lv_aload_n hx hb d_MO_forget_93 rfl (lv_at hl 1 rfl) ?_
                refine va_get (D := D) (ci := 10) (v := .ref m_turnsOf) (C := R_MO) (T := T_MO) (N := 36) hx hb hU iw_MO hown hK hP 0 rfl rfl 24 (by decide) (hU _ uw_747) (fun _ h9 => h9) rfl d_MO_forget_94 ?_
                refine lv_iload_n hx hb d_MO_forget_97 rfl (lv_at hl 0 rfl) ?_
                refine lv_iconst (v := nI 0) hx hb d_MO_forget_98 (by decide +kernel) ?_
                refine xw_ist hx hb hK hP hD hS 5 0 rfl rfl (by omega) (by decide) d_MO_forget_99 (fun H locs hP hD hS => ?_)
                have hP : va_P D vwCl [(h0, .inr (10, [v_thrown, .int (nI wk), v_room, v_states, v_moves, v_told, .ref m_from, .ref m_to, .ref m_failWorker, .ref m_failLevel, .ref m_failTurn, .int (nI 0), v_x, .int (nI 0), .int (nI 0), .int (nI 0), .int (nI 0), .int (nI 0), .ref m_levelOf, .ref m_times, .ref m_sizes, .ref m_isNext, .ref m_isLive, .ref m_isLooked, .ref m_turnsOf, .ref m_takenOf, .ref m_stallsOf, .ref m_here, .ref m_stands, .ref m_nextMove, .ref m_queued, .ref m_queue, .ref m_failedWorker, .ref m_failedLevel, .ref m_failedTurns, .ref m_can])), (m_levelOf, .inl (cI, 200, .inl (fun _ => (-1)))), (m_times, .inl (cI, 200, .inl (fun _ => nI 0))), (m_isNext, .inl (cB, 200, .inl (fun _ => nI 0))), (m_isLive, .inl (cB, 16, .inl (xs_fg (i + 1) (fun j => if j < wk then nI 1 else nI 0) f_isLive))), (m_turnsOf, .inl (cI, 16, .inl (upd (xs_fl i (nI 0) f_turnsOf) i (nI 0)))), (m_takenOf, .inl (cI, 16, .inl (xs_fl i (nI 0) f_takenOf))), (m_stallsOf, .inl (cI, 16, .inl (xs_fl i (nI 0) f_stallsOf))), (m_queued, .inl (cI, 16, .inl (xs_fl i (nI 0) f_queued)))] H := hP
                have hD : va_D A [(h0, .inr (10, [v_thrown, .int (nI wk), v_room, v_states, v_moves, v_told, .ref m_from, .ref m_to, .ref m_failWorker, .ref m_failLevel, .ref m_failTurn, .int (nI 0), v_x, .int (nI 0), .int (nI 0), .int (nI 0), .int (nI 0), .int (nI 0), .ref m_levelOf, .ref m_times, .ref m_sizes, .ref m_isNext, .ref m_isLive, .ref m_isLooked, .ref m_turnsOf, .ref m_takenOf, .ref m_stallsOf, .ref m_here, .ref m_stands, .ref m_nextMove, .ref m_queued, .ref m_queue, .ref m_failedWorker, .ref m_failedLevel, .ref m_failedTurns, .ref m_can])), (m_levelOf, .inl (cI, 200, .inl (fun _ => (-1)))), (m_times, .inl (cI, 200, .inl (fun _ => nI 0))), (m_isNext, .inl (cB, 200, .inl (fun _ => nI 0))), (m_isLive, .inl (cB, 16, .inl (xs_fg (i + 1) (fun j => if j < wk then nI 1 else nI 0) f_isLive))), (m_turnsOf, .inl (cI, 16, .inl (upd (xs_fl i (nI 0) f_turnsOf) i (nI 0)))), (m_takenOf, .inl (cI, 16, .inl (xs_fl i (nI 0) f_takenOf))), (m_stallsOf, .inl (cI, 16, .inl (xs_fl i (nI 0) f_stallsOf))), (m_queued, .inl (cI, 16, .inl (xs_fl i (nI 0) f_queued)))] := hD
                have e_99 : upd (xs_fl i (nI 0) f_turnsOf) i (nI 0) = xs_fl (i + 1) (nI 0) f_turnsOf := xs_fl_s _ _ _
                rw [e_99] at hP hD
                have hP : va_P D vwCl [(h0, .inr (10, [v_thrown, .int (nI wk), v_room, v_states, v_moves, v_told, .ref m_from, .ref m_to, .ref m_failWorker, .ref m_failLevel, .ref m_failTurn, .int (nI 0), v_x, .int (nI 0), .int (nI 0), .int (nI 0), .int (nI 0), .int (nI 0), .ref m_levelOf, .ref m_times, .ref m_sizes, .ref m_isNext, .ref m_isLive, .ref m_isLooked, .ref m_turnsOf, .ref m_takenOf, .ref m_stallsOf, .ref m_here, .ref m_stands, .ref m_nextMove, .ref m_queued, .ref m_queue, .ref m_failedWorker, .ref m_failedLevel, .ref m_failedTurns, .ref m_can])), (m_levelOf, .inl (cI, 200, .inl (fun _ => (-1)))), (m_times, .inl (cI, 200, .inl (fun _ => nI 0))), (m_isNext, .inl (cB, 200, .inl (fun _ => nI 0))), (m_isLive, .inl (cB, 16, .inl (xs_fg (i + 1) (fun j => if j < wk then nI 1 else nI 0) f_isLive))), (m_turnsOf, .inl (cI, 16, .inl (xs_fl (i + 1) (nI 0) f_turnsOf))), (m_takenOf, .inl (cI, 16, .inl (xs_fl i (nI 0) f_takenOf))), (m_stallsOf, .inl (cI, 16, .inl (xs_fl i (nI 0) f_stallsOf))), (m_queued, .inl (cI, 16, .inl (xs_fl i (nI 0) f_queued)))] H := hP
                have hD : va_D A [(h0, .inr (10, [v_thrown, .int (nI wk), v_room, v_states, v_moves, v_told, .ref m_from, .ref m_to, .ref m_failWorker, .ref m_failLevel, .ref m_failTurn, .int (nI 0), v_x, .int (nI 0), .int (nI 0), .int (nI 0), .int (nI 0), .int (nI 0), .ref m_levelOf, .ref m_times, .ref m_sizes, .ref m_isNext, .ref m_isLive, .ref m_isLooked, .ref m_turnsOf, .ref m_takenOf, .ref m_stallsOf, .ref m_here, .ref m_stands, .ref m_nextMove, .ref m_queued, .ref m_queue, .ref m_failedWorker, .ref m_failedLevel, .ref m_failedTurns, .ref m_can])), (m_levelOf, .inl (cI, 200, .inl (fun _ => (-1)))), (m_times, .inl (cI, 200, .inl (fun _ => nI 0))), (m_isNext, .inl (cB, 200, .inl (fun _ => nI 0))), (m_isLive, .inl (cB, 16, .inl (xs_fg (i + 1) (fun j => if j < wk then nI 1 else nI 0) f_isLive))), (m_turnsOf, .inl (cI, 16, .inl (xs_fl (i + 1) (nI 0) f_turnsOf))), (m_takenOf, .inl (cI, 16, .inl (xs_fl i (nI 0) f_takenOf))), (m_stallsOf, .inl (cI, 16, .inl (xs_fl i (nI 0) f_stallsOf))), (m_queued, .inl (cI, 16, .inl (xs_fl i (nI 0) f_queued)))] := hD
                refine lv_aload_n hx hb d_MO_forget_100 rfl (lv_at hl 1 rfl) ?_
                refine va_get (D := D) (ci := 10) (v := .ref m_takenOf) (C := R_MO) (T := T_MO) (N := 36) hx hb hU iw_MO hown hK hP 0 rfl rfl 25 (by decide) (hU _ uw_748) (fun _ h9 => h9) rfl d_MO_forget_101 ?_
                refine lv_iload_n hx hb d_MO_forget_104 rfl (lv_at hl 0 rfl) ?_
                refine lv_iconst (v := nI 0) hx hb d_MO_forget_105 (by decide +kernel) ?_
                refine xw_ist hx hb hK hP hD hS 6 0 rfl rfl (by omega) (by decide) d_MO_forget_106 (fun H locs hP hD hS => ?_)
                have hP : va_P D vwCl [(h0, .inr (10, [v_thrown, .int (nI wk), v_room, v_states, v_moves, v_told, .ref m_from, .ref m_to, .ref m_failWorker, .ref m_failLevel, .ref m_failTurn, .int (nI 0), v_x, .int (nI 0), .int (nI 0), .int (nI 0), .int (nI 0), .int (nI 0), .ref m_levelOf, .ref m_times, .ref m_sizes, .ref m_isNext, .ref m_isLive, .ref m_isLooked, .ref m_turnsOf, .ref m_takenOf, .ref m_stallsOf, .ref m_here, .ref m_stands, .ref m_nextMove, .ref m_queued, .ref m_queue, .ref m_failedWorker, .ref m_failedLevel, .ref m_failedTurns, .ref m_can])), (m_levelOf, .inl (cI, 200, .inl (fun _ => (-1)))), (m_times, .inl (cI, 200, .inl (fun _ => nI 0))), (m_isNext, .inl (cB, 200, .inl (fun _ => nI 0))), (m_isLive, .inl (cB, 16, .inl (xs_fg (i + 1) (fun j => if j < wk then nI 1 else nI 0) f_isLive))), (m_turnsOf, .inl (cI, 16, .inl (xs_fl (i + 1) (nI 0) f_turnsOf))), (m_takenOf, .inl (cI, 16, .inl (upd (xs_fl i (nI 0) f_takenOf) i (nI 0)))), (m_stallsOf, .inl (cI, 16, .inl (xs_fl i (nI 0) f_stallsOf))), (m_queued, .inl (cI, 16, .inl (xs_fl i (nI 0) f_queued)))] H := hP
                have hD : va_D A [(h0, .inr (10, [v_thrown, .int (nI wk), v_room, v_states, v_moves, v_told, .ref m_from, .ref m_to, .ref m_failWorker, .ref m_failLevel, .ref m_failTurn, .int (nI 0), v_x, .int (nI 0), .int (nI 0), .int (nI 0), .int (nI 0), .int (nI 0), .ref m_levelOf, .ref m_times, .ref m_sizes, .ref m_isNext, .ref m_isLive, .ref m_isLooked, .ref m_turnsOf, .ref m_takenOf, .ref m_stallsOf, .ref m_here, .ref m_stands, .ref m_nextMove, .ref m_queued, .ref m_queue, .ref m_failedWorker, .ref m_failedLevel, .ref m_failedTurns, .ref m_can])), (m_levelOf, .inl (cI, 200, .inl (fun _ => (-1)))), (m_times, .inl (cI, 200, .inl (fun _ => nI 0))), (m_isNext, .inl (cB, 200, .inl (fun _ => nI 0))), (m_isLive, .inl (cB, 16, .inl (xs_fg (i + 1) (fun j => if j < wk then nI 1 else nI 0) f_isLive))), (m_turnsOf, .inl (cI, 16, .inl (xs_fl (i + 1) (nI 0) f_turnsOf))), (m_takenOf, .inl (cI, 16, .inl (upd (xs_fl i (nI 0) f_takenOf) i (nI 0)))), (m_stallsOf, .inl (cI, 16, .inl (xs_fl i (nI 0) f_stallsOf))), (m_queued, .inl (cI, 16, .inl (xs_fl i (nI 0) f_queued)))] := hD
                have e_106 : upd (xs_fl i (nI 0) f_takenOf) i (nI 0) = xs_fl (i + 1) (nI 0) f_takenOf := xs_fl_s _ _ _
                rw [e_106] at hP hD
                have hP : va_P D vwCl [(h0, .inr (10, [v_thrown, .int (nI wk), v_room, v_states, v_moves, v_told, .ref m_from, .ref m_to, .ref m_failWorker, .ref m_failLevel, .ref m_failTurn, .int (nI 0), v_x, .int (nI 0), .int (nI 0), .int (nI 0), .int (nI 0), .int (nI 0), .ref m_levelOf, .ref m_times, .ref m_sizes, .ref m_isNext, .ref m_isLive, .ref m_isLooked, .ref m_turnsOf, .ref m_takenOf, .ref m_stallsOf, .ref m_here, .ref m_stands, .ref m_nextMove, .ref m_queued, .ref m_queue, .ref m_failedWorker, .ref m_failedLevel, .ref m_failedTurns, .ref m_can])), (m_levelOf, .inl (cI, 200, .inl (fun _ => (-1)))), (m_times, .inl (cI, 200, .inl (fun _ => nI 0))), (m_isNext, .inl (cB, 200, .inl (fun _ => nI 0))), (m_isLive, .inl (cB, 16, .inl (xs_fg (i + 1) (fun j => if j < wk then nI 1 else nI 0) f_isLive))), (m_turnsOf, .inl (cI, 16, .inl (xs_fl (i + 1) (nI 0) f_turnsOf))), (m_takenOf, .inl (cI, 16, .inl (xs_fl (i + 1) (nI 0) f_takenOf))), (m_stallsOf, .inl (cI, 16, .inl (xs_fl i (nI 0) f_stallsOf))), (m_queued, .inl (cI, 16, .inl (xs_fl i (nI 0) f_queued)))] H := hP
                have hD : va_D A [(h0, .inr (10, [v_thrown, .int (nI wk), v_room, v_states, v_moves, v_told, .ref m_from, .ref m_to, .ref m_failWorker, .ref m_failLevel, .ref m_failTurn, .int (nI 0), v_x, .int (nI 0), .int (nI 0), .int (nI 0), .int (nI 0), .int (nI 0), .ref m_levelOf, .ref m_times, .ref m_sizes, .ref m_isNext, .ref m_isLive, .ref m_isLooked, .ref m_turnsOf, .ref m_takenOf, .ref m_stallsOf, .ref m_here, .ref m_stands, .ref m_nextMove, .ref m_queued, .ref m_queue, .ref m_failedWorker, .ref m_failedLevel, .ref m_failedTurns, .ref m_can])), (m_levelOf, .inl (cI, 200, .inl (fun _ => (-1)))), (m_times, .inl (cI, 200, .inl (fun _ => nI 0))), (m_isNext, .inl (cB, 200, .inl (fun _ => nI 0))), (m_isLive, .inl (cB, 16, .inl (xs_fg (i + 1) (fun j => if j < wk then nI 1 else nI 0) f_isLive))), (m_turnsOf, .inl (cI, 16, .inl (xs_fl (i + 1) (nI 0) f_turnsOf))), (m_takenOf, .inl (cI, 16, .inl (xs_fl (i + 1) (nI 0) f_takenOf))), (m_stallsOf, .inl (cI, 16, .inl (xs_fl i (nI 0) f_stallsOf))), (m_queued, .inl (cI, 16, .inl (xs_fl i (nI 0) f_queued)))] := hD
                refine lv_aload_n hx hb d_MO_forget_107 rfl (lv_at hl 1 rfl) ?_
                refine va_get (D := D) (ci := 10) (v := .ref m_stallsOf) (C := R_MO) (T := T_MO) (N := 36) hx hb hU iw_MO hown hK hP 0 rfl rfl 26 (by decide) (hU _ uw_749) (fun _ h9 => h9) rfl d_MO_forget_108 ?_
                refine lv_iload_n hx hb d_MO_forget_111 rfl (lv_at hl 0 rfl) ?_
                refine lv_iconst (v := nI 0) hx hb d_MO_forget_112 (by decide +kernel) ?_
                refine xw_ist hx hb hK hP hD hS 7 0 rfl rfl (by omega) (by decide) d_MO_forget_113 (fun H locs hP hD hS => ?_)
                have hP : va_P D vwCl [(h0, .inr (10, [v_thrown, .int (nI wk), v_room, v_states, v_moves, v_told, .ref m_from, .ref m_to, .ref m_failWorker, .ref m_failLevel, .ref m_failTurn, .int (nI 0), v_x, .int (nI 0), .int (nI 0), .int (nI 0), .int (nI 0), .int (nI 0), .ref m_levelOf, .ref m_times, .ref m_sizes, .ref m_isNext, .ref m_isLive, .ref m_isLooked, .ref m_turnsOf, .ref m_takenOf, .ref m_stallsOf, .ref m_here, .ref m_stands, .ref m_nextMove, .ref m_queued, .ref m_queue, .ref m_failedWorker, .ref m_failedLevel, .ref m_failedTurns, .ref m_can])), (m_levelOf, .inl (cI, 200, .inl (fun _ => (-1)))), (m_times, .inl (cI, 200, .inl (fun _ => nI 0))), (m_isNext, .inl (cB, 200, .inl (fun _ => nI 0))), (m_isLive, .inl (cB, 16, .inl (xs_fg (i + 1) (fun j => if j < wk then nI 1 else nI 0) f_isLive))), (m_turnsOf, .inl (cI, 16, .inl (xs_fl (i + 1) (nI 0) f_turnsOf))), (m_takenOf, .inl (cI, 16, .inl (xs_fl (i + 1) (nI 0) f_takenOf))), (m_stallsOf, .inl (cI, 16, .inl (upd (xs_fl i (nI 0) f_stallsOf) i (nI 0)))), (m_queued, .inl (cI, 16, .inl (xs_fl i (nI 0) f_queued)))] H := hP
                have hD : va_D A [(h0, .inr (10, [v_thrown, .int (nI wk), v_room, v_states, v_moves, v_told, .ref m_from, .ref m_to, .ref m_failWorker, .ref m_failLevel, .ref m_failTurn, .int (nI 0), v_x, .int (nI 0), .int (nI 0), .int (nI 0), .int (nI 0), .int (nI 0), .ref m_levelOf, .ref m_times, .ref m_sizes, .ref m_isNext, .ref m_isLive, .ref m_isLooked, .ref m_turnsOf, .ref m_takenOf, .ref m_stallsOf, .ref m_here, .ref m_stands, .ref m_nextMove, .ref m_queued, .ref m_queue, .ref m_failedWorker, .ref m_failedLevel, .ref m_failedTurns, .ref m_can])), (m_levelOf, .inl (cI, 200, .inl (fun _ => (-1)))), (m_times, .inl (cI, 200, .inl (fun _ => nI 0))), (m_isNext, .inl (cB, 200, .inl (fun _ => nI 0))), (m_isLive, .inl (cB, 16, .inl (xs_fg (i + 1) (fun j => if j < wk then nI 1 else nI 0) f_isLive))), (m_turnsOf, .inl (cI, 16, .inl (xs_fl (i + 1) (nI 0) f_turnsOf))), (m_takenOf, .inl (cI, 16, .inl (xs_fl (i + 1) (nI 0) f_takenOf))), (m_stallsOf, .inl (cI, 16, .inl (upd (xs_fl i (nI 0) f_stallsOf) i (nI 0)))), (m_queued, .inl (cI, 16, .inl (xs_fl i (nI 0) f_queued)))] := hD
                have e_113 : upd (xs_fl i (nI 0) f_stallsOf) i (nI 0) = xs_fl (i + 1) (nI 0) f_stallsOf := xs_fl_s _ _ _
                rw [e_113] at hP hD
                have hP : va_P D vwCl [(h0, .inr (10, [v_thrown, .int (nI wk), v_room, v_states, v_moves, v_told, .ref m_from, .ref m_to, .ref m_failWorker, .ref m_failLevel, .ref m_failTurn, .int (nI 0), v_x, .int (nI 0), .int (nI 0), .int (nI 0), .int (nI 0), .int (nI 0), .ref m_levelOf, .ref m_times, .ref m_sizes, .ref m_isNext, .ref m_isLive, .ref m_isLooked, .ref m_turnsOf, .ref m_takenOf, .ref m_stallsOf, .ref m_here, .ref m_stands, .ref m_nextMove, .ref m_queued, .ref m_queue, .ref m_failedWorker, .ref m_failedLevel, .ref m_failedTurns, .ref m_can])), (m_levelOf, .inl (cI, 200, .inl (fun _ => (-1)))), (m_times, .inl (cI, 200, .inl (fun _ => nI 0))), (m_isNext, .inl (cB, 200, .inl (fun _ => nI 0))), (m_isLive, .inl (cB, 16, .inl (xs_fg (i + 1) (fun j => if j < wk then nI 1 else nI 0) f_isLive))), (m_turnsOf, .inl (cI, 16, .inl (xs_fl (i + 1) (nI 0) f_turnsOf))), (m_takenOf, .inl (cI, 16, .inl (xs_fl (i + 1) (nI 0) f_takenOf))), (m_stallsOf, .inl (cI, 16, .inl (xs_fl (i + 1) (nI 0) f_stallsOf))), (m_queued, .inl (cI, 16, .inl (xs_fl i (nI 0) f_queued)))] H := hP
                have hD : va_D A [(h0, .inr (10, [v_thrown, .int (nI wk), v_room, v_states, v_moves, v_told, .ref m_from, .ref m_to, .ref m_failWorker, .ref m_failLevel, .ref m_failTurn, .int (nI 0), v_x, .int (nI 0), .int (nI 0), .int (nI 0), .int (nI 0), .int (nI 0), .ref m_levelOf, .ref m_times, .ref m_sizes, .ref m_isNext, .ref m_isLive, .ref m_isLooked, .ref m_turnsOf, .ref m_takenOf, .ref m_stallsOf, .ref m_here, .ref m_stands, .ref m_nextMove, .ref m_queued, .ref m_queue, .ref m_failedWorker, .ref m_failedLevel, .ref m_failedTurns, .ref m_can])), (m_levelOf, .inl (cI, 200, .inl (fun _ => (-1)))), (m_times, .inl (cI, 200, .inl (fun _ => nI 0))), (m_isNext, .inl (cB, 200, .inl (fun _ => nI 0))), (m_isLive, .inl (cB, 16, .inl (xs_fg (i + 1) (fun j => if j < wk then nI 1 else nI 0) f_isLive))), (m_turnsOf, .inl (cI, 16, .inl (xs_fl (i + 1) (nI 0) f_turnsOf))), (m_takenOf, .inl (cI, 16, .inl (xs_fl (i + 1) (nI 0) f_takenOf))), (m_stallsOf, .inl (cI, 16, .inl (xs_fl (i + 1) (nI 0) f_stallsOf))), (m_queued, .inl (cI, 16, .inl (xs_fl i (nI 0) f_queued)))] := hD
                refine lv_aload_n hx hb d_MO_forget_114 rfl (lv_at hl 1 rfl) ?_
                refine va_get (D := D) (ci := 10) (v := .ref m_queued) (C := R_MO) (T := T_MO) (N := 36) hx hb hU iw_MO hown hK hP 0 rfl rfl 30 (by decide) (hU _ uw_753) (fun _ h9 => h9) rfl d_MO_forget_115 ?_
                refine lv_iload_n hx hb d_MO_forget_118 rfl (lv_at hl 0 rfl) ?_
                refine lv_iconst (v := nI 0) hx hb d_MO_forget_119 (by decide +kernel) ?_
                refine xw_ist hx hb hK hP hD hS 8 0 rfl rfl (by omega) (by decide) d_MO_forget_120 (fun H locs hP hD hS => ?_)
                have hP : va_P D vwCl [(h0, .inr (10, [v_thrown, .int (nI wk), v_room, v_states, v_moves, v_told, .ref m_from, .ref m_to, .ref m_failWorker, .ref m_failLevel, .ref m_failTurn, .int (nI 0), v_x, .int (nI 0), .int (nI 0), .int (nI 0), .int (nI 0), .int (nI 0), .ref m_levelOf, .ref m_times, .ref m_sizes, .ref m_isNext, .ref m_isLive, .ref m_isLooked, .ref m_turnsOf, .ref m_takenOf, .ref m_stallsOf, .ref m_here, .ref m_stands, .ref m_nextMove, .ref m_queued, .ref m_queue, .ref m_failedWorker, .ref m_failedLevel, .ref m_failedTurns, .ref m_can])), (m_levelOf, .inl (cI, 200, .inl (fun _ => (-1)))), (m_times, .inl (cI, 200, .inl (fun _ => nI 0))), (m_isNext, .inl (cB, 200, .inl (fun _ => nI 0))), (m_isLive, .inl (cB, 16, .inl (xs_fg (i + 1) (fun j => if j < wk then nI 1 else nI 0) f_isLive))), (m_turnsOf, .inl (cI, 16, .inl (xs_fl (i + 1) (nI 0) f_turnsOf))), (m_takenOf, .inl (cI, 16, .inl (xs_fl (i + 1) (nI 0) f_takenOf))), (m_stallsOf, .inl (cI, 16, .inl (xs_fl (i + 1) (nI 0) f_stallsOf))), (m_queued, .inl (cI, 16, .inl (upd (xs_fl i (nI 0) f_queued) i (nI 0))))] H := hP
                have hD : va_D A [(h0, .inr (10, [v_thrown, .int (nI wk), v_room, v_states, v_moves, v_told, .ref m_from, .ref m_to, .ref m_failWorker, .ref m_failLevel, .ref m_failTurn, .int (nI 0), v_x, .int (nI 0), .int (nI 0), .int (nI 0), .int (nI 0), .int (nI 0), .ref m_levelOf, .ref m_times, .ref m_sizes, .ref m_isNext, .ref m_isLive, .ref m_isLooked, .ref m_turnsOf, .ref m_takenOf, .ref m_stallsOf, .ref m_here, .ref m_stands, .ref m_nextMove, .ref m_queued, .ref m_queue, .ref m_failedWorker, .ref m_failedLevel, .ref m_failedTurns, .ref m_can])), (m_levelOf, .inl (cI, 200, .inl (fun _ => (-1)))), (m_times, .inl (cI, 200, .inl (fun _ => nI 0))), (m_isNext, .inl (cB, 200, .inl (fun _ => nI 0))), (m_isLive, .inl (cB, 16, .inl (xs_fg (i + 1) (fun j => if j < wk then nI 1 else nI 0) f_isLive))), (m_turnsOf, .inl (cI, 16, .inl (xs_fl (i + 1) (nI 0) f_turnsOf))), (m_takenOf, .inl (cI, 16, .inl (xs_fl (i + 1) (nI 0) f_takenOf))), (m_stallsOf, .inl (cI, 16, .inl (xs_fl (i + 1) (nI 0) f_stallsOf))), (m_queued, .inl (cI, 16, .inl (upd (xs_fl i (nI 0) f_queued) i (nI 0))))] := hD
                have e_120 : upd (xs_fl i (nI 0) f_queued) i (nI 0) = xs_fl (i + 1) (nI 0) f_queued := xs_fl_s _ _ _
                rw [e_120] at hP hD
                have hP : va_P D vwCl [(h0, .inr (10, [v_thrown, .int (nI wk), v_room, v_states, v_moves, v_told, .ref m_from, .ref m_to, .ref m_failWorker, .ref m_failLevel, .ref m_failTurn, .int (nI 0), v_x, .int (nI 0), .int (nI 0), .int (nI 0), .int (nI 0), .int (nI 0), .ref m_levelOf, .ref m_times, .ref m_sizes, .ref m_isNext, .ref m_isLive, .ref m_isLooked, .ref m_turnsOf, .ref m_takenOf, .ref m_stallsOf, .ref m_here, .ref m_stands, .ref m_nextMove, .ref m_queued, .ref m_queue, .ref m_failedWorker, .ref m_failedLevel, .ref m_failedTurns, .ref m_can])), (m_levelOf, .inl (cI, 200, .inl (fun _ => (-1)))), (m_times, .inl (cI, 200, .inl (fun _ => nI 0))), (m_isNext, .inl (cB, 200, .inl (fun _ => nI 0))), (m_isLive, .inl (cB, 16, .inl (xs_fg (i + 1) (fun j => if j < wk then nI 1 else nI 0) f_isLive))), (m_turnsOf, .inl (cI, 16, .inl (xs_fl (i + 1) (nI 0) f_turnsOf))), (m_takenOf, .inl (cI, 16, .inl (xs_fl (i + 1) (nI 0) f_takenOf))), (m_stallsOf, .inl (cI, 16, .inl (xs_fl (i + 1) (nI 0) f_stallsOf))), (m_queued, .inl (cI, 16, .inl (xs_fl (i + 1) (nI 0) f_queued)))] H := hP
                have hD : va_D A [(h0, .inr (10, [v_thrown, .int (nI wk), v_room, v_states, v_moves, v_told, .ref m_from, .ref m_to, .ref m_failWorker, .ref m_failLevel, .ref m_failTurn, .int (nI 0), v_x, .int (nI 0), .int (nI 0), .int (nI 0), .int (nI 0), .int (nI 0), .ref m_levelOf, .ref m_times, .ref m_sizes, .ref m_isNext, .ref m_isLive, .ref m_isLooked, .ref m_turnsOf, .ref m_takenOf, .ref m_stallsOf, .ref m_here, .ref m_stands, .ref m_nextMove, .ref m_queued, .ref m_queue, .ref m_failedWorker, .ref m_failedLevel, .ref m_failedTurns, .ref m_can])), (m_levelOf, .inl (cI, 200, .inl (fun _ => (-1)))), (m_times, .inl (cI, 200, .inl (fun _ => nI 0))), (m_isNext, .inl (cB, 200, .inl (fun _ => nI 0))), (m_isLive, .inl (cB, 16, .inl (xs_fg (i + 1) (fun j => if j < wk then nI 1 else nI 0) f_isLive))), (m_turnsOf, .inl (cI, 16, .inl (xs_fl (i + 1) (nI 0) f_turnsOf))), (m_takenOf, .inl (cI, 16, .inl (xs_fl (i + 1) (nI 0) f_takenOf))), (m_stallsOf, .inl (cI, 16, .inl (xs_fl (i + 1) (nI 0) f_stallsOf))), (m_queued, .inl (cI, 16, .inl (xs_fl (i + 1) (nI 0) f_queued)))] := hD
                refine lv_iinc (v := nI (i + 1)) (lv' := [(1, .int (nI (i + 1))), (0, .ref h0)]) hx hb d_MO_forget_121 hl (k := 0) rfl (xs_inc i 1) (by decide) rfl (fun ls hl => ?_)
                refine lv_goto (tgt := 68) hx hb d_MO_forget_124 (by decide) ?_
                exact ih (i + 1) _ _ _ (by omega) (xs_P_sub hP [0, 1, 2, 3, 4, 5, 6, 7, 8] rfl) (hD.sub [0, 1, 2, 3, 4, 5, 6, 7, 8] (by decide) rfl) hS (lv_sub hl [0, 1] rfl)
              · refine lv_iconst (v := nI 1) hx hb d_MO_forget_87 (by decide +kernel) ?_
                refine lv_goto (tgt := 92) hx hb d_MO_forget_88 (by decide) ?_
                refine xw_zst hx hb hK hP hD hS 4 1 rfl rfl (by first | exact Or.inl rfl | exact Or.inr rfl) (by omega) (by decide) d_MO_forget_92 (fun H locs hP hD hS => ?_)
                have hP : va_P D vwCl [(h0, .inr (10, [v_thrown, .int (nI wk), v_room, v_states, v_moves, v_told, .ref m_from, .ref m_to, .ref m_failWorker, .ref m_failLevel, .ref m_failTurn, .int (nI 0), v_x, .int (nI 0), .int (nI 0), .int (nI 0), .int (nI 0), .int (nI 0), .ref m_levelOf, .ref m_times, .ref m_sizes, .ref m_isNext, .ref m_isLive, .ref m_isLooked, .ref m_turnsOf, .ref m_takenOf, .ref m_stallsOf, .ref m_here, .ref m_stands, .ref m_nextMove, .ref m_queued, .ref m_queue, .ref m_failedWorker, .ref m_failedLevel, .ref m_failedTurns, .ref m_can])), (m_levelOf, .inl (cI, 200, .inl (fun _ => (-1)))), (m_times, .inl (cI, 200, .inl (fun _ => nI 0))), (m_isNext, .inl (cB, 200, .inl (fun _ => nI 0))), (m_isLive, .inl (cB, 16, .inl (upd (xs_fg i (fun j => if j < wk then nI 1 else nI 0) f_isLive) i (nI 1)))), (m_turnsOf, .inl (cI, 16, .inl (xs_fl i (nI 0) f_turnsOf))), (m_takenOf, .inl (cI, 16, .inl (xs_fl i (nI 0) f_takenOf))), (m_stallsOf, .inl (cI, 16, .inl (xs_fl i (nI 0) f_stallsOf))), (m_queued, .inl (cI, 16, .inl (xs_fl i (nI 0) f_queued)))] H := hP
                have hD : va_D A [(h0, .inr (10, [v_thrown, .int (nI wk), v_room, v_states, v_moves, v_told, .ref m_from, .ref m_to, .ref m_failWorker, .ref m_failLevel, .ref m_failTurn, .int (nI 0), v_x, .int (nI 0), .int (nI 0), .int (nI 0), .int (nI 0), .int (nI 0), .ref m_levelOf, .ref m_times, .ref m_sizes, .ref m_isNext, .ref m_isLive, .ref m_isLooked, .ref m_turnsOf, .ref m_takenOf, .ref m_stallsOf, .ref m_here, .ref m_stands, .ref m_nextMove, .ref m_queued, .ref m_queue, .ref m_failedWorker, .ref m_failedLevel, .ref m_failedTurns, .ref m_can])), (m_levelOf, .inl (cI, 200, .inl (fun _ => (-1)))), (m_times, .inl (cI, 200, .inl (fun _ => nI 0))), (m_isNext, .inl (cB, 200, .inl (fun _ => nI 0))), (m_isLive, .inl (cB, 16, .inl (upd (xs_fg i (fun j => if j < wk then nI 1 else nI 0) f_isLive) i (nI 1)))), (m_turnsOf, .inl (cI, 16, .inl (xs_fl i (nI 0) f_turnsOf))), (m_takenOf, .inl (cI, 16, .inl (xs_fl i (nI 0) f_takenOf))), (m_stallsOf, .inl (cI, 16, .inl (xs_fl i (nI 0) f_stallsOf))), (m_queued, .inl (cI, 16, .inl (xs_fl i (nI 0) f_queued)))] := hD
                have e_92 : upd (xs_fg i (fun j => if j < wk then nI 1 else nI 0) f_isLive) i (nI 1) = xs_fg (i + 1) (fun j => if j < wk then nI 1 else nI 0) f_isLive := by first | (rw [← xs_fg_s]; simp only [if_pos (xs_ltN c_84 (by omega) (by omega))]; done) | (rw [← xs_fg_s]; simp only [if_neg (xs_geN c_84 (by omega) (by omega))]; done)
                rw [e_92] at hP hD
                have hP : va_P D vwCl [(h0, .inr (10, [v_thrown, .int (nI wk), v_room, v_states, v_moves, v_told, .ref m_from, .ref m_to, .ref m_failWorker, .ref m_failLevel, .ref m_failTurn, .int (nI 0), v_x, .int (nI 0), .int (nI 0), .int (nI 0), .int (nI 0), .int (nI 0), .ref m_levelOf, .ref m_times, .ref m_sizes, .ref m_isNext, .ref m_isLive, .ref m_isLooked, .ref m_turnsOf, .ref m_takenOf, .ref m_stallsOf, .ref m_here, .ref m_stands, .ref m_nextMove, .ref m_queued, .ref m_queue, .ref m_failedWorker, .ref m_failedLevel, .ref m_failedTurns, .ref m_can])), (m_levelOf, .inl (cI, 200, .inl (fun _ => (-1)))), (m_times, .inl (cI, 200, .inl (fun _ => nI 0))), (m_isNext, .inl (cB, 200, .inl (fun _ => nI 0))), (m_isLive, .inl (cB, 16, .inl (xs_fg (i + 1) (fun j => if j < wk then nI 1 else nI 0) f_isLive))), (m_turnsOf, .inl (cI, 16, .inl (xs_fl i (nI 0) f_turnsOf))), (m_takenOf, .inl (cI, 16, .inl (xs_fl i (nI 0) f_takenOf))), (m_stallsOf, .inl (cI, 16, .inl (xs_fl i (nI 0) f_stallsOf))), (m_queued, .inl (cI, 16, .inl (xs_fl i (nI 0) f_queued)))] H := hP
                have hD : va_D A [(h0, .inr (10, [v_thrown, .int (nI wk), v_room, v_states, v_moves, v_told, .ref m_from, .ref m_to, .ref m_failWorker, .ref m_failLevel, .ref m_failTurn, .int (nI 0), v_x, .int (nI 0), .int (nI 0), .int (nI 0), .int (nI 0), .int (nI 0), .ref m_levelOf, .ref m_times, .ref m_sizes, .ref m_isNext, .ref m_isLive, .ref m_isLooked, .ref m_turnsOf, .ref m_takenOf, .ref m_stallsOf, .ref m_here, .ref m_stands, .ref m_nextMove, .ref m_queued, .ref m_queue, .ref m_failedWorker, .ref m_failedLevel, .ref m_failedTurns, .ref m_can])), (m_levelOf, .inl (cI, 200, .inl (fun _ => (-1)))), (m_times, .inl (cI, 200, .inl (fun _ => nI 0))), (m_isNext, .inl (cB, 200, .inl (fun _ => nI 0))), (m_isLive, .inl (cB, 16, .inl (xs_fg (i + 1) (fun j => if j < wk then nI 1 else nI 0) f_isLive))), (m_turnsOf, .inl (cI, 16, .inl (xs_fl i (nI 0) f_turnsOf))), (m_takenOf, .inl (cI, 16, .inl (xs_fl i (nI 0) f_takenOf))), (m_stallsOf, .inl (cI, 16, .inl (xs_fl i (nI 0) f_stallsOf))), (m_queued, .inl (cI, 16, .inl (xs_fl i (nI 0) f_queued)))] := hD
                refine lv_aload_n hx hb d_MO_forget_93 rfl (lv_at hl 1 rfl) ?_
                refine va_get (D := D) (ci := 10) (v := .ref m_turnsOf) (C := R_MO) (T := T_MO) (N := 36) hx hb hU iw_MO hown hK hP 0 rfl rfl 24 (by decide) (hU _ uw_747) (fun _ h9 => h9) rfl d_MO_forget_94 ?_
                refine lv_iload_n hx hb d_MO_forget_97 rfl (lv_at hl 0 rfl) ?_
                refine lv_iconst (v := nI 0) hx hb d_MO_forget_98 (by decide +kernel) ?_
                refine xw_ist hx hb hK hP hD hS 5 0 rfl rfl (by omega) (by decide) d_MO_forget_99 (fun H locs hP hD hS => ?_)
                have hP : va_P D vwCl [(h0, .inr (10, [v_thrown, .int (nI wk), v_room, v_states, v_moves, v_told, .ref m_from, .ref m_to, .ref m_failWorker, .ref m_failLevel, .ref m_failTurn, .int (nI 0), v_x, .int (nI 0), .int (nI 0), .int (nI 0), .int (nI 0), .int (nI 0), .ref m_levelOf, .ref m_times, .ref m_sizes, .ref m_isNext, .ref m_isLive, .ref m_isLooked, .ref m_turnsOf, .ref m_takenOf, .ref m_stallsOf, .ref m_here, .ref m_stands, .ref m_nextMove, .ref m_queued, .ref m_queue, .ref m_failedWorker, .ref m_failedLevel, .ref m_failedTurns, .ref m_can])), (m_levelOf, .inl (cI, 200, .inl (fun _ => (-1)))), (m_times, .inl (cI, 200, .inl (fun _ => nI 0))), (m_isNext, .inl (cB, 200, .inl (fun _ => nI 0))), (m_isLive, .inl (cB, 16, .inl (xs_fg (i + 1) (fun j => if j < wk then nI 1 else nI 0) f_isLive))), (m_turnsOf, .inl (cI, 16, .inl (upd (xs_fl i (nI 0) f_turnsOf) i (nI 0)))), (m_takenOf, .inl (cI, 16, .inl (xs_fl i (nI 0) f_takenOf))), (m_stallsOf, .inl (cI, 16, .inl (xs_fl i (nI 0) f_stallsOf))), (m_queued, .inl (cI, 16, .inl (xs_fl i (nI 0) f_queued)))] H := hP
                have hD : va_D A [(h0, .inr (10, [v_thrown, .int (nI wk), v_room, v_states, v_moves, v_told, .ref m_from, .ref m_to, .ref m_failWorker, .ref m_failLevel, .ref m_failTurn, .int (nI 0), v_x, .int (nI 0), .int (nI 0), .int (nI 0), .int (nI 0), .int (nI 0), .ref m_levelOf, .ref m_times, .ref m_sizes, .ref m_isNext, .ref m_isLive, .ref m_isLooked, .ref m_turnsOf, .ref m_takenOf, .ref m_stallsOf, .ref m_here, .ref m_stands, .ref m_nextMove, .ref m_queued, .ref m_queue, .ref m_failedWorker, .ref m_failedLevel, .ref m_failedTurns, .ref m_can])), (m_levelOf, .inl (cI, 200, .inl (fun _ => (-1)))), (m_times, .inl (cI, 200, .inl (fun _ => nI 0))), (m_isNext, .inl (cB, 200, .inl (fun _ => nI 0))), (m_isLive, .inl (cB, 16, .inl (xs_fg (i + 1) (fun j => if j < wk then nI 1 else nI 0) f_isLive))), (m_turnsOf, .inl (cI, 16, .inl (upd (xs_fl i (nI 0) f_turnsOf) i (nI 0)))), (m_takenOf, .inl (cI, 16, .inl (xs_fl i (nI 0) f_takenOf))), (m_stallsOf, .inl (cI, 16, .inl (xs_fl i (nI 0) f_stallsOf))), (m_queued, .inl (cI, 16, .inl (xs_fl i (nI 0) f_queued)))] := hD
                have e_99 : upd (xs_fl i (nI 0) f_turnsOf) i (nI 0) = xs_fl (i + 1) (nI 0) f_turnsOf := xs_fl_s _ _ _
                rw [e_99] at hP hD
                have hP : va_P D vwCl [(h0, .inr (10, [v_thrown, .int (nI wk), v_room, v_states, v_moves, v_told, .ref m_from, .ref m_to, .ref m_failWorker, .ref m_failLevel, .ref m_failTurn, .int (nI 0), v_x, .int (nI 0), .int (nI 0), .int (nI 0), .int (nI 0), .int (nI 0), .ref m_levelOf, .ref m_times, .ref m_sizes, .ref m_isNext, .ref m_isLive, .ref m_isLooked, .ref m_turnsOf, .ref m_takenOf, .ref m_stallsOf, .ref m_here, .ref m_stands, .ref m_nextMove, .ref m_queued, .ref m_queue, .ref m_failedWorker, .ref m_failedLevel, .ref m_failedTurns, .ref m_can])), (m_levelOf, .inl (cI, 200, .inl (fun _ => (-1)))), (m_times, .inl (cI, 200, .inl (fun _ => nI 0))), (m_isNext, .inl (cB, 200, .inl (fun _ => nI 0))), (m_isLive, .inl (cB, 16, .inl (xs_fg (i + 1) (fun j => if j < wk then nI 1 else nI 0) f_isLive))), (m_turnsOf, .inl (cI, 16, .inl (xs_fl (i + 1) (nI 0) f_turnsOf))), (m_takenOf, .inl (cI, 16, .inl (xs_fl i (nI 0) f_takenOf))), (m_stallsOf, .inl (cI, 16, .inl (xs_fl i (nI 0) f_stallsOf))), (m_queued, .inl (cI, 16, .inl (xs_fl i (nI 0) f_queued)))] H := hP
                have hD : va_D A [(h0, .inr (10, [v_thrown, .int (nI wk), v_room, v_states, v_moves, v_told, .ref m_from, .ref m_to, .ref m_failWorker, .ref m_failLevel, .ref m_failTurn, .int (nI 0), v_x, .int (nI 0), .int (nI 0), .int (nI 0), .int (nI 0), .int (nI 0), .ref m_levelOf, .ref m_times, .ref m_sizes, .ref m_isNext, .ref m_isLive, .ref m_isLooked, .ref m_turnsOf, .ref m_takenOf, .ref m_stallsOf, .ref m_here, .ref m_stands, .ref m_nextMove, .ref m_queued, .ref m_queue, .ref m_failedWorker, .ref m_failedLevel, .ref m_failedTurns, .ref m_can])), (m_levelOf, .inl (cI, 200, .inl (fun _ => (-1)))), (m_times, .inl (cI, 200, .inl (fun _ => nI 0))), (m_isNext, .inl (cB, 200, .inl (fun _ => nI 0))), (m_isLive, .inl (cB, 16, .inl (xs_fg (i + 1) (fun j => if j < wk then nI 1 else nI 0) f_isLive))), (m_turnsOf, .inl (cI, 16, .inl (xs_fl (i + 1) (nI 0) f_turnsOf))), (m_takenOf, .inl (cI, 16, .inl (xs_fl i (nI 0) f_takenOf))), (m_stallsOf, .inl (cI, 16, .inl (xs_fl i (nI 0) f_stallsOf))), (m_queued, .inl (cI, 16, .inl (xs_fl i (nI 0) f_queued)))] := hD
                refine lv_aload_n hx hb d_MO_forget_100 rfl (lv_at hl 1 rfl) ?_
                refine va_get (D := D) (ci := 10) (v := .ref m_takenOf) (C := R_MO) (T := T_MO) (N := 36) hx hb hU iw_MO hown hK hP 0 rfl rfl 25 (by decide) (hU _ uw_748) (fun _ h9 => h9) rfl d_MO_forget_101 ?_
                refine lv_iload_n hx hb d_MO_forget_104 rfl (lv_at hl 0 rfl) ?_
                refine lv_iconst (v := nI 0) hx hb d_MO_forget_105 (by decide +kernel) ?_
                refine xw_ist hx hb hK hP hD hS 6 0 rfl rfl (by omega) (by decide) d_MO_forget_106 (fun H locs hP hD hS => ?_)
                have hP : va_P D vwCl [(h0, .inr (10, [v_thrown, .int (nI wk), v_room, v_states, v_moves, v_told, .ref m_from, .ref m_to, .ref m_failWorker, .ref m_failLevel, .ref m_failTurn, .int (nI 0), v_x, .int (nI 0), .int (nI 0), .int (nI 0), .int (nI 0), .int (nI 0), .ref m_levelOf, .ref m_times, .ref m_sizes, .ref m_isNext, .ref m_isLive, .ref m_isLooked, .ref m_turnsOf, .ref m_takenOf, .ref m_stallsOf, .ref m_here, .ref m_stands, .ref m_nextMove, .ref m_queued, .ref m_queue, .ref m_failedWorker, .ref m_failedLevel, .ref m_failedTurns, .ref m_can])), (m_levelOf, .inl (cI, 200, .inl (fun _ => (-1)))), (m_times, .inl (cI, 200, .inl (fun _ => nI 0))), (m_isNext, .inl (cB, 200, .inl (fun _ => nI 0))), (m_isLive, .inl (cB, 16, .inl (xs_fg (i + 1) (fun j => if j < wk then nI 1 else nI 0) f_isLive))), (m_turnsOf, .inl (cI, 16, .inl (xs_fl (i + 1) (nI 0) f_turnsOf))), (m_takenOf, .inl (cI, 16, .inl (upd (xs_fl i (nI 0) f_takenOf) i (nI 0)))), (m_stallsOf, .inl (cI, 16, .inl (xs_fl i (nI 0) f_stallsOf))), (m_queued, .inl (cI, 16, .inl (xs_fl i (nI 0) f_queued)))] H := hP
                have hD : va_D A [(h0, .inr (10, [v_thrown, .int (nI wk), v_room, v_states, v_moves, v_told, .ref m_from, .ref m_to, .ref m_failWorker, .ref m_failLevel, .ref m_failTurn, .int (nI 0), v_x, .int (nI 0), .int (nI 0), .int (nI 0), .int (nI 0), .int (nI 0), .ref m_levelOf, .ref m_times, .ref m_sizes, .ref m_isNext, .ref m_isLive, .ref m_isLooked, .ref m_turnsOf, .ref m_takenOf, .ref m_stallsOf, .ref m_here, .ref m_stands, .ref m_nextMove, .ref m_queued, .ref m_queue, .ref m_failedWorker, .ref m_failedLevel, .ref m_failedTurns, .ref m_can])), (m_levelOf, .inl (cI, 200, .inl (fun _ => (-1)))), (m_times, .inl (cI, 200, .inl (fun _ => nI 0))), (m_isNext, .inl (cB, 200, .inl (fun _ => nI 0))), (m_isLive, .inl (cB, 16, .inl (xs_fg (i + 1) (fun j => if j < wk then nI 1 else nI 0) f_isLive))), (m_turnsOf, .inl (cI, 16, .inl (xs_fl (i + 1) (nI 0) f_turnsOf))), (m_takenOf, .inl (cI, 16, .inl (upd (xs_fl i (nI 0) f_takenOf) i (nI 0)))), (m_stallsOf, .inl (cI, 16, .inl (xs_fl i (nI 0) f_stallsOf))), (m_queued, .inl (cI, 16, .inl (xs_fl i (nI 0) f_queued)))] := hD
                have e_106 : upd (xs_fl i (nI 0) f_takenOf) i (nI 0) = xs_fl (i + 1) (nI 0) f_takenOf := xs_fl_s _ _ _
                rw [e_106] at hP hD
                have hP : va_P D vwCl [(h0, .inr (10, [v_thrown, .int (nI wk), v_room, v_states, v_moves, v_told, .ref m_from, .ref m_to, .ref m_failWorker, .ref m_failLevel, .ref m_failTurn, .int (nI 0), v_x, .int (nI 0), .int (nI 0), .int (nI 0), .int (nI 0), .int (nI 0), .ref m_levelOf, .ref m_times, .ref m_sizes, .ref m_isNext, .ref m_isLive, .ref m_isLooked, .ref m_turnsOf, .ref m_takenOf, .ref m_stallsOf, .ref m_here, .ref m_stands, .ref m_nextMove, .ref m_queued, .ref m_queue, .ref m_failedWorker, .ref m_failedLevel, .ref m_failedTurns, .ref m_can])), (m_levelOf, .inl (cI, 200, .inl (fun _ => (-1)))), (m_times, .inl (cI, 200, .inl (fun _ => nI 0))), (m_isNext, .inl (cB, 200, .inl (fun _ => nI 0))), (m_isLive, .inl (cB, 16, .inl (xs_fg (i + 1) (fun j => if j < wk then nI 1 else nI 0) f_isLive))), (m_turnsOf, .inl (cI, 16, .inl (xs_fl (i + 1) (nI 0) f_turnsOf))), (m_takenOf, .inl (cI, 16, .inl (xs_fl (i + 1) (nI 0) f_takenOf))), (m_stallsOf, .inl (cI, 16, .inl (xs_fl i (nI 0) f_stallsOf))), (m_queued, .inl (cI, 16, .inl (xs_fl i (nI 0) f_queued)))] H := hP
                have hD : va_D A [(h0, .inr (10, [v_thrown, .int (nI wk), v_room, v_states, v_moves, v_told, .ref m_from, .ref m_to, .ref m_failWorker, .ref m_failLevel, .ref m_failTurn, .int (nI 0), v_x, .int (nI 0), .int (nI 0), .int (nI 0), .int (nI 0), .int (nI 0), .ref m_levelOf, .ref m_times, .ref m_sizes, .ref m_isNext, .ref m_isLive, .ref m_isLooked, .ref m_turnsOf, .ref m_takenOf, .ref m_stallsOf, .ref m_here, .ref m_stands, .ref m_nextMove, .ref m_queued, .ref m_queue, .ref m_failedWorker, .ref m_failedLevel, .ref m_failedTurns, .ref m_can])), (m_levelOf, .inl (cI, 200, .inl (fun _ => (-1)))), (m_times, .inl (cI, 200, .inl (fun _ => nI 0))), (m_isNext, .inl (cB, 200, .inl (fun _ => nI 0))), (m_isLive, .inl (cB, 16, .inl (xs_fg (i + 1) (fun j => if j < wk then nI 1 else nI 0) f_isLive))), (m_turnsOf, .inl (cI, 16, .inl (xs_fl (i + 1) (nI 0) f_turnsOf))), (m_takenOf, .inl (cI, 16, .inl (xs_fl (i + 1) (nI 0) f_takenOf))), (m_stallsOf, .inl (cI, 16, .inl (xs_fl i (nI 0) f_stallsOf))), (m_queued, .inl (cI, 16, .inl (xs_fl i (nI 0) f_queued)))] := hD
                refine lv_aload_n hx hb d_MO_forget_107 rfl (lv_at hl 1 rfl) ?_
                refine va_get (D := D) (ci := 10) (v := .ref m_stallsOf) (C := R_MO) (T := T_MO) (N := 36) hx hb hU iw_MO hown hK hP 0 rfl rfl 26 (by decide) (hU _ uw_749) (fun _ h9 => h9) rfl d_MO_forget_108 ?_
                refine lv_iload_n hx hb d_MO_forget_111 rfl (lv_at hl 0 rfl) ?_
                refine lv_iconst (v := nI 0) hx hb d_MO_forget_112 (by decide +kernel) ?_
                refine xw_ist hx hb hK hP hD hS 7 0 rfl rfl (by omega) (by decide) d_MO_forget_113 (fun H locs hP hD hS => ?_)
                have hP : va_P D vwCl [(h0, .inr (10, [v_thrown, .int (nI wk), v_room, v_states, v_moves, v_told, .ref m_from, .ref m_to, .ref m_failWorker, .ref m_failLevel, .ref m_failTurn, .int (nI 0), v_x, .int (nI 0), .int (nI 0), .int (nI 0), .int (nI 0), .int (nI 0), .ref m_levelOf, .ref m_times, .ref m_sizes, .ref m_isNext, .ref m_isLive, .ref m_isLooked, .ref m_turnsOf, .ref m_takenOf, .ref m_stallsOf, .ref m_here, .ref m_stands, .ref m_nextMove, .ref m_queued, .ref m_queue, .ref m_failedWorker, .ref m_failedLevel, .ref m_failedTurns, .ref m_can])), (m_levelOf, .inl (cI, 200, .inl (fun _ => (-1)))), (m_times, .inl (cI, 200, .inl (fun _ => nI 0))), (m_isNext, .inl (cB, 200, .inl (fun _ => nI 0))), (m_isLive, .inl (cB, 16, .inl (xs_fg (i + 1) (fun j => if j < wk then nI 1 else nI 0) f_isLive))), (m_turnsOf, .inl (cI, 16, .inl (xs_fl (i + 1) (nI 0) f_turnsOf))), (m_takenOf, .inl (cI, 16, .inl (xs_fl (i + 1) (nI 0) f_takenOf))), (m_stallsOf, .inl (cI, 16, .inl (upd (xs_fl i (nI 0) f_stallsOf) i (nI 0)))), (m_queued, .inl (cI, 16, .inl (xs_fl i (nI 0) f_queued)))] H := hP
                have hD : va_D A [(h0, .inr (10, [v_thrown, .int (nI wk), v_room, v_states, v_moves, v_told, .ref m_from, .ref m_to, .ref m_failWorker, .ref m_failLevel, .ref m_failTurn, .int (nI 0), v_x, .int (nI 0), .int (nI 0), .int (nI 0), .int (nI 0), .int (nI 0), .ref m_levelOf, .ref m_times, .ref m_sizes, .ref m_isNext, .ref m_isLive, .ref m_isLooked, .ref m_turnsOf, .ref m_takenOf, .ref m_stallsOf, .ref m_here, .ref m_stands, .ref m_nextMove, .ref m_queued, .ref m_queue, .ref m_failedWorker, .ref m_failedLevel, .ref m_failedTurns, .ref m_can])), (m_levelOf, .inl (cI, 200, .inl (fun _ => (-1)))), (m_times, .inl (cI, 200, .inl (fun _ => nI 0))), (m_isNext, .inl (cB, 200, .inl (fun _ => nI 0))), (m_isLive, .inl (cB, 16, .inl (xs_fg (i + 1) (fun j => if j < wk then nI 1 else nI 0) f_isLive))), (m_turnsOf, .inl (cI, 16, .inl (xs_fl (i + 1) (nI 0) f_turnsOf))), (m_takenOf, .inl (cI, 16, .inl (xs_fl (i + 1) (nI 0) f_takenOf))), (m_stallsOf, .inl (cI, 16, .inl (upd (xs_fl i (nI 0) f_stallsOf) i (nI 0)))), (m_queued, .inl (cI, 16, .inl (xs_fl i (nI 0) f_queued)))] := hD
                have e_113 : upd (xs_fl i (nI 0) f_stallsOf) i (nI 0) = xs_fl (i + 1) (nI 0) f_stallsOf := xs_fl_s _ _ _
                rw [e_113] at hP hD
                have hP : va_P D vwCl [(h0, .inr (10, [v_thrown, .int (nI wk), v_room, v_states, v_moves, v_told, .ref m_from, .ref m_to, .ref m_failWorker, .ref m_failLevel, .ref m_failTurn, .int (nI 0), v_x, .int (nI 0), .int (nI 0), .int (nI 0), .int (nI 0), .int (nI 0), .ref m_levelOf, .ref m_times, .ref m_sizes, .ref m_isNext, .ref m_isLive, .ref m_isLooked, .ref m_turnsOf, .ref m_takenOf, .ref m_stallsOf, .ref m_here, .ref m_stands, .ref m_nextMove, .ref m_queued, .ref m_queue, .ref m_failedWorker, .ref m_failedLevel, .ref m_failedTurns, .ref m_can])), (m_levelOf, .inl (cI, 200, .inl (fun _ => (-1)))), (m_times, .inl (cI, 200, .inl (fun _ => nI 0))), (m_isNext, .inl (cB, 200, .inl (fun _ => nI 0))), (m_isLive, .inl (cB, 16, .inl (xs_fg (i + 1) (fun j => if j < wk then nI 1 else nI 0) f_isLive))), (m_turnsOf, .inl (cI, 16, .inl (xs_fl (i + 1) (nI 0) f_turnsOf))), (m_takenOf, .inl (cI, 16, .inl (xs_fl (i + 1) (nI 0) f_takenOf))), (m_stallsOf, .inl (cI, 16, .inl (xs_fl (i + 1) (nI 0) f_stallsOf))), (m_queued, .inl (cI, 16, .inl (xs_fl i (nI 0) f_queued)))] H := hP
                have hD : va_D A [(h0, .inr (10, [v_thrown, .int (nI wk), v_room, v_states, v_moves, v_told, .ref m_from, .ref m_to, .ref m_failWorker, .ref m_failLevel, .ref m_failTurn, .int (nI 0), v_x, .int (nI 0), .int (nI 0), .int (nI 0), .int (nI 0), .int (nI 0), .ref m_levelOf, .ref m_times, .ref m_sizes, .ref m_isNext, .ref m_isLive, .ref m_isLooked, .ref m_turnsOf, .ref m_takenOf, .ref m_stallsOf, .ref m_here, .ref m_stands, .ref m_nextMove, .ref m_queued, .ref m_queue, .ref m_failedWorker, .ref m_failedLevel, .ref m_failedTurns, .ref m_can])), (m_levelOf, .inl (cI, 200, .inl (fun _ => (-1)))), (m_times, .inl (cI, 200, .inl (fun _ => nI 0))), (m_isNext, .inl (cB, 200, .inl (fun _ => nI 0))), (m_isLive, .inl (cB, 16, .inl (xs_fg (i + 1) (fun j => if j < wk then nI 1 else nI 0) f_isLive))), (m_turnsOf, .inl (cI, 16, .inl (xs_fl (i + 1) (nI 0) f_turnsOf))), (m_takenOf, .inl (cI, 16, .inl (xs_fl (i + 1) (nI 0) f_takenOf))), (m_stallsOf, .inl (cI, 16, .inl (xs_fl (i + 1) (nI 0) f_stallsOf))), (m_queued, .inl (cI, 16, .inl (xs_fl i (nI 0) f_queued)))] := hD
                refine lv_aload_n hx hb d_MO_forget_114 rfl (lv_at hl 1 rfl) ?_
                refine va_get (D := D) (ci := 10) (v := .ref m_queued) (C := R_MO) (T := T_MO) (N := 36) hx hb hU iw_MO hown hK hP 0 rfl rfl 30 (by decide) (hU _ uw_753) (fun _ h9 => h9) rfl d_MO_forget_115 ?_
                refine lv_iload_n hx hb d_MO_forget_118 rfl (lv_at hl 0 rfl) ?_
                refine lv_iconst (v := nI 0) hx hb d_MO_forget_119 (by decide +kernel) ?_
                refine xw_ist hx hb hK hP hD hS 8 0 rfl rfl (by omega) (by decide) d_MO_forget_120 (fun H locs hP hD hS => ?_)
                have hP : va_P D vwCl [(h0, .inr (10, [v_thrown, .int (nI wk), v_room, v_states, v_moves, v_told, .ref m_from, .ref m_to, .ref m_failWorker, .ref m_failLevel, .ref m_failTurn, .int (nI 0), v_x, .int (nI 0), .int (nI 0), .int (nI 0), .int (nI 0), .int (nI 0), .ref m_levelOf, .ref m_times, .ref m_sizes, .ref m_isNext, .ref m_isLive, .ref m_isLooked, .ref m_turnsOf, .ref m_takenOf, .ref m_stallsOf, .ref m_here, .ref m_stands, .ref m_nextMove, .ref m_queued, .ref m_queue, .ref m_failedWorker, .ref m_failedLevel, .ref m_failedTurns, .ref m_can])), (m_levelOf, .inl (cI, 200, .inl (fun _ => (-1)))), (m_times, .inl (cI, 200, .inl (fun _ => nI 0))), (m_isNext, .inl (cB, 200, .inl (fun _ => nI 0))), (m_isLive, .inl (cB, 16, .inl (xs_fg (i + 1) (fun j => if j < wk then nI 1 else nI 0) f_isLive))), (m_turnsOf, .inl (cI, 16, .inl (xs_fl (i + 1) (nI 0) f_turnsOf))), (m_takenOf, .inl (cI, 16, .inl (xs_fl (i + 1) (nI 0) f_takenOf))), (m_stallsOf, .inl (cI, 16, .inl (xs_fl (i + 1) (nI 0) f_stallsOf))), (m_queued, .inl (cI, 16, .inl (upd (xs_fl i (nI 0) f_queued) i (nI 0))))] H := hP
                have hD : va_D A [(h0, .inr (10, [v_thrown, .int (nI wk), v_room, v_states, v_moves, v_told, .ref m_from, .ref m_to, .ref m_failWorker, .ref m_failLevel, .ref m_failTurn, .int (nI 0), v_x, .int (nI 0), .int (nI 0), .int (nI 0), .int (nI 0), .int (nI 0), .ref m_levelOf, .ref m_times, .ref m_sizes, .ref m_isNext, .ref m_isLive, .ref m_isLooked, .ref m_turnsOf, .ref m_takenOf, .ref m_stallsOf, .ref m_here, .ref m_stands, .ref m_nextMove, .ref m_queued, .ref m_queue, .ref m_failedWorker, .ref m_failedLevel, .ref m_failedTurns, .ref m_can])), (m_levelOf, .inl (cI, 200, .inl (fun _ => (-1)))), (m_times, .inl (cI, 200, .inl (fun _ => nI 0))), (m_isNext, .inl (cB, 200, .inl (fun _ => nI 0))), (m_isLive, .inl (cB, 16, .inl (xs_fg (i + 1) (fun j => if j < wk then nI 1 else nI 0) f_isLive))), (m_turnsOf, .inl (cI, 16, .inl (xs_fl (i + 1) (nI 0) f_turnsOf))), (m_takenOf, .inl (cI, 16, .inl (xs_fl (i + 1) (nI 0) f_takenOf))), (m_stallsOf, .inl (cI, 16, .inl (xs_fl (i + 1) (nI 0) f_stallsOf))), (m_queued, .inl (cI, 16, .inl (upd (xs_fl i (nI 0) f_queued) i (nI 0))))] := hD
                have e_120 : upd (xs_fl i (nI 0) f_queued) i (nI 0) = xs_fl (i + 1) (nI 0) f_queued := xs_fl_s _ _ _
                rw [e_120] at hP hD
                have hP : va_P D vwCl [(h0, .inr (10, [v_thrown, .int (nI wk), v_room, v_states, v_moves, v_told, .ref m_from, .ref m_to, .ref m_failWorker, .ref m_failLevel, .ref m_failTurn, .int (nI 0), v_x, .int (nI 0), .int (nI 0), .int (nI 0), .int (nI 0), .int (nI 0), .ref m_levelOf, .ref m_times, .ref m_sizes, .ref m_isNext, .ref m_isLive, .ref m_isLooked, .ref m_turnsOf, .ref m_takenOf, .ref m_stallsOf, .ref m_here, .ref m_stands, .ref m_nextMove, .ref m_queued, .ref m_queue, .ref m_failedWorker, .ref m_failedLevel, .ref m_failedTurns, .ref m_can])), (m_levelOf, .inl (cI, 200, .inl (fun _ => (-1)))), (m_times, .inl (cI, 200, .inl (fun _ => nI 0))), (m_isNext, .inl (cB, 200, .inl (fun _ => nI 0))), (m_isLive, .inl (cB, 16, .inl (xs_fg (i + 1) (fun j => if j < wk then nI 1 else nI 0) f_isLive))), (m_turnsOf, .inl (cI, 16, .inl (xs_fl (i + 1) (nI 0) f_turnsOf))), (m_takenOf, .inl (cI, 16, .inl (xs_fl (i + 1) (nI 0) f_takenOf))), (m_stallsOf, .inl (cI, 16, .inl (xs_fl (i + 1) (nI 0) f_stallsOf))), (m_queued, .inl (cI, 16, .inl (xs_fl (i + 1) (nI 0) f_queued)))] H := hP
                have hD : va_D A [(h0, .inr (10, [v_thrown, .int (nI wk), v_room, v_states, v_moves, v_told, .ref m_from, .ref m_to, .ref m_failWorker, .ref m_failLevel, .ref m_failTurn, .int (nI 0), v_x, .int (nI 0), .int (nI 0), .int (nI 0), .int (nI 0), .int (nI 0), .ref m_levelOf, .ref m_times, .ref m_sizes, .ref m_isNext, .ref m_isLive, .ref m_isLooked, .ref m_turnsOf, .ref m_takenOf, .ref m_stallsOf, .ref m_here, .ref m_stands, .ref m_nextMove, .ref m_queued, .ref m_queue, .ref m_failedWorker, .ref m_failedLevel, .ref m_failedTurns, .ref m_can])), (m_levelOf, .inl (cI, 200, .inl (fun _ => (-1)))), (m_times, .inl (cI, 200, .inl (fun _ => nI 0))), (m_isNext, .inl (cB, 200, .inl (fun _ => nI 0))), (m_isLive, .inl (cB, 16, .inl (xs_fg (i + 1) (fun j => if j < wk then nI 1 else nI 0) f_isLive))), (m_turnsOf, .inl (cI, 16, .inl (xs_fl (i + 1) (nI 0) f_turnsOf))), (m_takenOf, .inl (cI, 16, .inl (xs_fl (i + 1) (nI 0) f_takenOf))), (m_stallsOf, .inl (cI, 16, .inl (xs_fl (i + 1) (nI 0) f_stallsOf))), (m_queued, .inl (cI, 16, .inl (xs_fl (i + 1) (nI 0) f_queued)))] := hD
                refine lv_iinc (v := nI (i + 1)) (lv' := [(1, .int (nI (i + 1))), (0, .ref h0)]) hx hb d_MO_forget_121 hl (k := 0) rfl (xs_inc i 1) (by decide) rfl (fun ls hl => ?_)
                refine lv_goto (tgt := 68) hx hb d_MO_forget_124 (by decide) ?_
                exact ih (i + 1) _ _ _ (by omega) (xs_P_sub hP [0, 1, 2, 3, 4, 5, 6, 7, 8] rfl) (hD.sub [0, 1, 2, 3, 4, 5, 6, 7, 8] (by decide) rfl) hS (lv_sub hl [0, 1] rfl)
        exact lp_68 (16) 0 _ _ _ (by omega) hP hD hS (lv_sub hl [0, 1] rfl)
      · exact absurd (nI_le (a := 200) (b := i) (by omega) (by omega)) c_36
    | succ fu ih =>
      intro i H locs ls hi hP hD hS hl
      refine lv_iload_n hx hb d_MO_forget_32 rfl (lv_at hl 0 rfl) ?_
      refine lv_sipush (v := nI 200) hx hb d_MO_forget_33 (by decide +kernel) ?_
      refine lv_icmp_ge (tgt := 66) hx hb d_MO_forget_36 (by decide) (fun c_36 => ?_) (fun c_36 => ?_)
      · exact absurd c_36 (nI_ge (by omega) (by omega))
      · refine lv_aload_n hx hb d_MO_forget_39 rfl (lv_at hl 1 rfl) ?_
        refine va_get (D := D) (ci := 10) (v := .ref m_levelOf) (C := R_MO) (T := T_MO) (N := 36) hx hb hU iw_MO hown hK hP 0 rfl rfl 18 (by decide) (hU _ uw_741) (fun _ h9 => h9) rfl d_MO_forget_40 ?_
        refine lv_iload_n hx hb d_MO_forget_43 rfl (lv_at hl 0 rfl) ?_
        refine lv_iconst (v := (-1)) hx hb d_MO_forget_44 (by decide +kernel) ?_
        refine xw_ist hx hb hK hP hD hS 1 0 rfl rfl (by omega) (by decide) d_MO_forget_45 (fun H locs hP hD hS => ?_)
        have hP : va_P D vwCl [(h0, .inr (10, [v_thrown, .int (nI wk), v_room, v_states, v_moves, v_told, .ref m_from, .ref m_to, .ref m_failWorker, .ref m_failLevel, .ref m_failTurn, .int (nI 0), v_x, .int (nI 0), .int (nI 0), .int (nI 0), .int (nI 0), .int (nI 0), .ref m_levelOf, .ref m_times, .ref m_sizes, .ref m_isNext, .ref m_isLive, .ref m_isLooked, .ref m_turnsOf, .ref m_takenOf, .ref m_stallsOf, .ref m_here, .ref m_stands, .ref m_nextMove, .ref m_queued, .ref m_queue, .ref m_failedWorker, .ref m_failedLevel, .ref m_failedTurns, .ref m_can])), (m_levelOf, .inl (cI, 200, .inl (upd (xs_fl i (-1) f_levelOf) i (-1)))), (m_times, .inl (cI, 200, .inl (xs_fl i (nI 0) f_times))), (m_isNext, .inl (cB, 200, .inl (xs_fl i (nI 0) f_isNext))), (m_isLive, .inl (cB, 16, .inl f_isLive)), (m_turnsOf, .inl (cI, 16, .inl f_turnsOf)), (m_takenOf, .inl (cI, 16, .inl f_takenOf)), (m_stallsOf, .inl (cI, 16, .inl f_stallsOf)), (m_queued, .inl (cI, 16, .inl f_queued))] H := hP
        have hD : va_D A [(h0, .inr (10, [v_thrown, .int (nI wk), v_room, v_states, v_moves, v_told, .ref m_from, .ref m_to, .ref m_failWorker, .ref m_failLevel, .ref m_failTurn, .int (nI 0), v_x, .int (nI 0), .int (nI 0), .int (nI 0), .int (nI 0), .int (nI 0), .ref m_levelOf, .ref m_times, .ref m_sizes, .ref m_isNext, .ref m_isLive, .ref m_isLooked, .ref m_turnsOf, .ref m_takenOf, .ref m_stallsOf, .ref m_here, .ref m_stands, .ref m_nextMove, .ref m_queued, .ref m_queue, .ref m_failedWorker, .ref m_failedLevel, .ref m_failedTurns, .ref m_can])), (m_levelOf, .inl (cI, 200, .inl (upd (xs_fl i (-1) f_levelOf) i (-1)))), (m_times, .inl (cI, 200, .inl (xs_fl i (nI 0) f_times))), (m_isNext, .inl (cB, 200, .inl (xs_fl i (nI 0) f_isNext))), (m_isLive, .inl (cB, 16, .inl f_isLive)), (m_turnsOf, .inl (cI, 16, .inl f_turnsOf)), (m_takenOf, .inl (cI, 16, .inl f_takenOf)), (m_stallsOf, .inl (cI, 16, .inl f_stallsOf)), (m_queued, .inl (cI, 16, .inl f_queued))] := hD
        have e_45 : upd (xs_fl i (-1) f_levelOf) i (-1) = xs_fl (i + 1) (-1) f_levelOf := xs_fl_s _ _ _
        rw [e_45] at hP hD
        have hP : va_P D vwCl [(h0, .inr (10, [v_thrown, .int (nI wk), v_room, v_states, v_moves, v_told, .ref m_from, .ref m_to, .ref m_failWorker, .ref m_failLevel, .ref m_failTurn, .int (nI 0), v_x, .int (nI 0), .int (nI 0), .int (nI 0), .int (nI 0), .int (nI 0), .ref m_levelOf, .ref m_times, .ref m_sizes, .ref m_isNext, .ref m_isLive, .ref m_isLooked, .ref m_turnsOf, .ref m_takenOf, .ref m_stallsOf, .ref m_here, .ref m_stands, .ref m_nextMove, .ref m_queued, .ref m_queue, .ref m_failedWorker, .ref m_failedLevel, .ref m_failedTurns, .ref m_can])), (m_levelOf, .inl (cI, 200, .inl (xs_fl (i + 1) (-1) f_levelOf))), (m_times, .inl (cI, 200, .inl (xs_fl i (nI 0) f_times))), (m_isNext, .inl (cB, 200, .inl (xs_fl i (nI 0) f_isNext))), (m_isLive, .inl (cB, 16, .inl f_isLive)), (m_turnsOf, .inl (cI, 16, .inl f_turnsOf)), (m_takenOf, .inl (cI, 16, .inl f_takenOf)), (m_stallsOf, .inl (cI, 16, .inl f_stallsOf)), (m_queued, .inl (cI, 16, .inl f_queued))] H := hP
        have hD : va_D A [(h0, .inr (10, [v_thrown, .int (nI wk), v_room, v_states, v_moves, v_told, .ref m_from, .ref m_to, .ref m_failWorker, .ref m_failLevel, .ref m_failTurn, .int (nI 0), v_x, .int (nI 0), .int (nI 0), .int (nI 0), .int (nI 0), .int (nI 0), .ref m_levelOf, .ref m_times, .ref m_sizes, .ref m_isNext, .ref m_isLive, .ref m_isLooked, .ref m_turnsOf, .ref m_takenOf, .ref m_stallsOf, .ref m_here, .ref m_stands, .ref m_nextMove, .ref m_queued, .ref m_queue, .ref m_failedWorker, .ref m_failedLevel, .ref m_failedTurns, .ref m_can])), (m_levelOf, .inl (cI, 200, .inl (xs_fl (i + 1) (-1) f_levelOf))), (m_times, .inl (cI, 200, .inl (xs_fl i (nI 0) f_times))), (m_isNext, .inl (cB, 200, .inl (xs_fl i (nI 0) f_isNext))), (m_isLive, .inl (cB, 16, .inl f_isLive)), (m_turnsOf, .inl (cI, 16, .inl f_turnsOf)), (m_takenOf, .inl (cI, 16, .inl f_takenOf)), (m_stallsOf, .inl (cI, 16, .inl f_stallsOf)), (m_queued, .inl (cI, 16, .inl f_queued))] := hD
        refine lv_aload_n hx hb d_MO_forget_46 rfl (lv_at hl 1 rfl) ?_
        refine va_get (D := D) (ci := 10) (v := .ref m_times) (C := R_MO) (T := T_MO) (N := 36) hx hb hU iw_MO hown hK hP 0 rfl rfl 19 (by decide) (hU _ uw_742) (fun _ h9 => h9) rfl d_MO_forget_47 ?_
        refine lv_iload_n hx hb d_MO_forget_50 rfl (lv_at hl 0 rfl) ?_
        refine lv_iconst (v := nI 0) hx hb d_MO_forget_51 (by decide +kernel) ?_
        refine xw_ist hx hb hK hP hD hS 2 0 rfl rfl (by omega) (by decide) d_MO_forget_52 (fun H locs hP hD hS => ?_)
        have hP : va_P D vwCl [(h0, .inr (10, [v_thrown, .int (nI wk), v_room, v_states, v_moves, v_told, .ref m_from, .ref m_to, .ref m_failWorker, .ref m_failLevel, .ref m_failTurn, .int (nI 0), v_x, .int (nI 0), .int (nI 0), .int (nI 0), .int (nI 0), .int (nI 0), .ref m_levelOf, .ref m_times, .ref m_sizes, .ref m_isNext, .ref m_isLive, .ref m_isLooked, .ref m_turnsOf, .ref m_takenOf, .ref m_stallsOf, .ref m_here, .ref m_stands, .ref m_nextMove, .ref m_queued, .ref m_queue, .ref m_failedWorker, .ref m_failedLevel, .ref m_failedTurns, .ref m_can])), (m_levelOf, .inl (cI, 200, .inl (xs_fl (i + 1) (-1) f_levelOf))), (m_times, .inl (cI, 200, .inl (upd (xs_fl i (nI 0) f_times) i (nI 0)))), (m_isNext, .inl (cB, 200, .inl (xs_fl i (nI 0) f_isNext))), (m_isLive, .inl (cB, 16, .inl f_isLive)), (m_turnsOf, .inl (cI, 16, .inl f_turnsOf)), (m_takenOf, .inl (cI, 16, .inl f_takenOf)), (m_stallsOf, .inl (cI, 16, .inl f_stallsOf)), (m_queued, .inl (cI, 16, .inl f_queued))] H := hP
        have hD : va_D A [(h0, .inr (10, [v_thrown, .int (nI wk), v_room, v_states, v_moves, v_told, .ref m_from, .ref m_to, .ref m_failWorker, .ref m_failLevel, .ref m_failTurn, .int (nI 0), v_x, .int (nI 0), .int (nI 0), .int (nI 0), .int (nI 0), .int (nI 0), .ref m_levelOf, .ref m_times, .ref m_sizes, .ref m_isNext, .ref m_isLive, .ref m_isLooked, .ref m_turnsOf, .ref m_takenOf, .ref m_stallsOf, .ref m_here, .ref m_stands, .ref m_nextMove, .ref m_queued, .ref m_queue, .ref m_failedWorker, .ref m_failedLevel, .ref m_failedTurns, .ref m_can])), (m_levelOf, .inl (cI, 200, .inl (xs_fl (i + 1) (-1) f_levelOf))), (m_times, .inl (cI, 200, .inl (upd (xs_fl i (nI 0) f_times) i (nI 0)))), (m_isNext, .inl (cB, 200, .inl (xs_fl i (nI 0) f_isNext))), (m_isLive, .inl (cB, 16, .inl f_isLive)), (m_turnsOf, .inl (cI, 16, .inl f_turnsOf)), (m_takenOf, .inl (cI, 16, .inl f_takenOf)), (m_stallsOf, .inl (cI, 16, .inl f_stallsOf)), (m_queued, .inl (cI, 16, .inl f_queued))] := hD
        have e_52 : upd (xs_fl i (nI 0) f_times) i (nI 0) = xs_fl (i + 1) (nI 0) f_times := xs_fl_s _ _ _
        rw [e_52] at hP hD
        have hP : va_P D vwCl [(h0, .inr (10, [v_thrown, .int (nI wk), v_room, v_states, v_moves, v_told, .ref m_from, .ref m_to, .ref m_failWorker, .ref m_failLevel, .ref m_failTurn, .int (nI 0), v_x, .int (nI 0), .int (nI 0), .int (nI 0), .int (nI 0), .int (nI 0), .ref m_levelOf, .ref m_times, .ref m_sizes, .ref m_isNext, .ref m_isLive, .ref m_isLooked, .ref m_turnsOf, .ref m_takenOf, .ref m_stallsOf, .ref m_here, .ref m_stands, .ref m_nextMove, .ref m_queued, .ref m_queue, .ref m_failedWorker, .ref m_failedLevel, .ref m_failedTurns, .ref m_can])), (m_levelOf, .inl (cI, 200, .inl (xs_fl (i + 1) (-1) f_levelOf))), (m_times, .inl (cI, 200, .inl (xs_fl (i + 1) (nI 0) f_times))), (m_isNext, .inl (cB, 200, .inl (xs_fl i (nI 0) f_isNext))), (m_isLive, .inl (cB, 16, .inl f_isLive)), (m_turnsOf, .inl (cI, 16, .inl f_turnsOf)), (m_takenOf, .inl (cI, 16, .inl f_takenOf)), (m_stallsOf, .inl (cI, 16, .inl f_stallsOf)), (m_queued, .inl (cI, 16, .inl f_queued))] H := hP
        have hD : va_D A [(h0, .inr (10, [v_thrown, .int (nI wk), v_room, v_states, v_moves, v_told, .ref m_from, .ref m_to, .ref m_failWorker, .ref m_failLevel, .ref m_failTurn, .int (nI 0), v_x, .int (nI 0), .int (nI 0), .int (nI 0), .int (nI 0), .int (nI 0), .ref m_levelOf, .ref m_times, .ref m_sizes, .ref m_isNext, .ref m_isLive, .ref m_isLooked, .ref m_turnsOf, .ref m_takenOf, .ref m_stallsOf, .ref m_here, .ref m_stands, .ref m_nextMove, .ref m_queued, .ref m_queue, .ref m_failedWorker, .ref m_failedLevel, .ref m_failedTurns, .ref m_can])), (m_levelOf, .inl (cI, 200, .inl (xs_fl (i + 1) (-1) f_levelOf))), (m_times, .inl (cI, 200, .inl (xs_fl (i + 1) (nI 0) f_times))), (m_isNext, .inl (cB, 200, .inl (xs_fl i (nI 0) f_isNext))), (m_isLive, .inl (cB, 16, .inl f_isLive)), (m_turnsOf, .inl (cI, 16, .inl f_turnsOf)), (m_takenOf, .inl (cI, 16, .inl f_takenOf)), (m_stallsOf, .inl (cI, 16, .inl f_stallsOf)), (m_queued, .inl (cI, 16, .inl f_queued))] := hD
        refine lv_aload_n hx hb d_MO_forget_53 rfl (lv_at hl 1 rfl) ?_
        refine va_get (D := D) (ci := 10) (v := .ref m_isNext) (C := R_MO) (T := T_MO) (N := 36) hx hb hU iw_MO hown hK hP 0 rfl rfl 21 (by decide) (hU _ uw_744) (fun _ h9 => h9) rfl d_MO_forget_54 ?_
        refine lv_iload_n hx hb d_MO_forget_57 rfl (lv_at hl 0 rfl) ?_
        refine lv_iconst (v := nI 0) hx hb d_MO_forget_58 (by decide +kernel) ?_
        refine xw_zst hx hb hK hP hD hS 3 1 rfl rfl (by first | exact Or.inl rfl | exact Or.inr rfl) (by omega) (by decide) d_MO_forget_59 (fun H locs hP hD hS => ?_)
        have hP : va_P D vwCl [(h0, .inr (10, [v_thrown, .int (nI wk), v_room, v_states, v_moves, v_told, .ref m_from, .ref m_to, .ref m_failWorker, .ref m_failLevel, .ref m_failTurn, .int (nI 0), v_x, .int (nI 0), .int (nI 0), .int (nI 0), .int (nI 0), .int (nI 0), .ref m_levelOf, .ref m_times, .ref m_sizes, .ref m_isNext, .ref m_isLive, .ref m_isLooked, .ref m_turnsOf, .ref m_takenOf, .ref m_stallsOf, .ref m_here, .ref m_stands, .ref m_nextMove, .ref m_queued, .ref m_queue, .ref m_failedWorker, .ref m_failedLevel, .ref m_failedTurns, .ref m_can])), (m_levelOf, .inl (cI, 200, .inl (xs_fl (i + 1) (-1) f_levelOf))), (m_times, .inl (cI, 200, .inl (xs_fl (i + 1) (nI 0) f_times))), (m_isNext, .inl (cB, 200, .inl (upd (xs_fl i (nI 0) f_isNext) i (nI 0)))), (m_isLive, .inl (cB, 16, .inl f_isLive)), (m_turnsOf, .inl (cI, 16, .inl f_turnsOf)), (m_takenOf, .inl (cI, 16, .inl f_takenOf)), (m_stallsOf, .inl (cI, 16, .inl f_stallsOf)), (m_queued, .inl (cI, 16, .inl f_queued))] H := hP
        have hD : va_D A [(h0, .inr (10, [v_thrown, .int (nI wk), v_room, v_states, v_moves, v_told, .ref m_from, .ref m_to, .ref m_failWorker, .ref m_failLevel, .ref m_failTurn, .int (nI 0), v_x, .int (nI 0), .int (nI 0), .int (nI 0), .int (nI 0), .int (nI 0), .ref m_levelOf, .ref m_times, .ref m_sizes, .ref m_isNext, .ref m_isLive, .ref m_isLooked, .ref m_turnsOf, .ref m_takenOf, .ref m_stallsOf, .ref m_here, .ref m_stands, .ref m_nextMove, .ref m_queued, .ref m_queue, .ref m_failedWorker, .ref m_failedLevel, .ref m_failedTurns, .ref m_can])), (m_levelOf, .inl (cI, 200, .inl (xs_fl (i + 1) (-1) f_levelOf))), (m_times, .inl (cI, 200, .inl (xs_fl (i + 1) (nI 0) f_times))), (m_isNext, .inl (cB, 200, .inl (upd (xs_fl i (nI 0) f_isNext) i (nI 0)))), (m_isLive, .inl (cB, 16, .inl f_isLive)), (m_turnsOf, .inl (cI, 16, .inl f_turnsOf)), (m_takenOf, .inl (cI, 16, .inl f_takenOf)), (m_stallsOf, .inl (cI, 16, .inl f_stallsOf)), (m_queued, .inl (cI, 16, .inl f_queued))] := hD
        have e_59 : upd (xs_fl i (nI 0) f_isNext) i (nI 0) = xs_fl (i + 1) (nI 0) f_isNext := xs_fl_s _ _ _
        rw [e_59] at hP hD
        have hP : va_P D vwCl [(h0, .inr (10, [v_thrown, .int (nI wk), v_room, v_states, v_moves, v_told, .ref m_from, .ref m_to, .ref m_failWorker, .ref m_failLevel, .ref m_failTurn, .int (nI 0), v_x, .int (nI 0), .int (nI 0), .int (nI 0), .int (nI 0), .int (nI 0), .ref m_levelOf, .ref m_times, .ref m_sizes, .ref m_isNext, .ref m_isLive, .ref m_isLooked, .ref m_turnsOf, .ref m_takenOf, .ref m_stallsOf, .ref m_here, .ref m_stands, .ref m_nextMove, .ref m_queued, .ref m_queue, .ref m_failedWorker, .ref m_failedLevel, .ref m_failedTurns, .ref m_can])), (m_levelOf, .inl (cI, 200, .inl (xs_fl (i + 1) (-1) f_levelOf))), (m_times, .inl (cI, 200, .inl (xs_fl (i + 1) (nI 0) f_times))), (m_isNext, .inl (cB, 200, .inl (xs_fl (i + 1) (nI 0) f_isNext))), (m_isLive, .inl (cB, 16, .inl f_isLive)), (m_turnsOf, .inl (cI, 16, .inl f_turnsOf)), (m_takenOf, .inl (cI, 16, .inl f_takenOf)), (m_stallsOf, .inl (cI, 16, .inl f_stallsOf)), (m_queued, .inl (cI, 16, .inl f_queued))] H := hP
        have hD : va_D A [(h0, .inr (10, [v_thrown, .int (nI wk), v_room, v_states, v_moves, v_told, .ref m_from, .ref m_to, .ref m_failWorker, .ref m_failLevel, .ref m_failTurn, .int (nI 0), v_x, .int (nI 0), .int (nI 0), .int (nI 0), .int (nI 0), .int (nI 0), .ref m_levelOf, .ref m_times, .ref m_sizes, .ref m_isNext, .ref m_isLive, .ref m_isLooked, .ref m_turnsOf, .ref m_takenOf, .ref m_stallsOf, .ref m_here, .ref m_stands, .ref m_nextMove, .ref m_queued, .ref m_queue, .ref m_failedWorker, .ref m_failedLevel, .ref m_failedTurns, .ref m_can])), (m_levelOf, .inl (cI, 200, .inl (xs_fl (i + 1) (-1) f_levelOf))), (m_times, .inl (cI, 200, .inl (xs_fl (i + 1) (nI 0) f_times))), (m_isNext, .inl (cB, 200, .inl (xs_fl (i + 1) (nI 0) f_isNext))), (m_isLive, .inl (cB, 16, .inl f_isLive)), (m_turnsOf, .inl (cI, 16, .inl f_turnsOf)), (m_takenOf, .inl (cI, 16, .inl f_takenOf)), (m_stallsOf, .inl (cI, 16, .inl f_stallsOf)), (m_queued, .inl (cI, 16, .inl f_queued))] := hD
        refine lv_iinc (v := nI (i + 1)) (lv' := [(1, .int (nI (i + 1))), (0, .ref h0)]) hx hb d_MO_forget_60 hl (k := 0) rfl (xs_inc i 1) (by decide) rfl (fun ls hl => ?_)
        refine lv_goto (tgt := 32) hx hb d_MO_forget_63 (by decide) ?_
        exact ih (i + 1) _ _ _ (by omega) (xs_P_sub hP [0, 1, 2, 3, 4, 5, 6, 7, 8] rfl) (hD.sub [0, 1, 2, 3, 4, 5, 6, 7, 8] (by decide) rfl) hS (lv_sub hl [0, 1] rfl)
  exact lp_32 (200) 0 _ _ _ (by omega) hP hD hS (lv_sub hl [0, 1] rfl)
end
section
set_option maxHeartbeats 4000000 in
set_option maxRecDepth 100000 in
/-- new ExploreSharesModel -/
theorem c_MO_init (l : Launch) (D : va_G) (cI cB cL : ClassId) (h0 : Nat) (a : Int32) (b : Int32) (jw : Nat) (jq : Nat) (ha : (a - nI 1) &&& nI 15 = nI jw) (hj : jw < 16) (hb9 : (b - nI 1) &&& nI 7 = nI jq) (hq : jq < 8) : xG (σ := Nat × Nat × Nat × Nat × Nat × Nat × Nat × Nat × Nat × Nat × Nat × Nat × Nat × Nat × Nat × Nat × Nat × Nat × Nat × Nat × Nat × Nat × Nat) l y_MO_init w_MO_init ({ frames := 1, cells := 23, slots := 2581, locals := 21  } : Room) D vwCl (xs_tys cI cB cL) [.ref h0, .int a, .int b] [(h0, .inr (10, [.int (nI 0), .int (nI 0), .int (nI 0), .int (nI 0), .int (nI 0), .int (nI 0), .null, .null, .null, .null, .null, .int (nI 0), .int (nI 0), .int (nI 0), .int (nI 0), .int (nI 0), .int (nI 0), .int (nI 0), .null, .null, .null, .null, .null, .null, .null, .null, .null, .null, .null, .null, .null, .null, .null, .null, .null, .null]))] (fun (m_from, m_to, m_failWorker, m_failLevel, m_failTurn, m_levelOf, m_times, m_sizes, m_isNext, m_isLive, m_isLooked, m_turnsOf, m_takenOf, m_stallsOf, m_here, m_stands, m_nextMove, m_queued, m_queue, m_failedWorker, m_failedLevel, m_failedTurns, m_can) => True) (fun (m_from, m_to, m_failWorker, m_failLevel, m_failTurn, m_levelOf, m_times, m_sizes, m_isNext, m_isLive, m_isLooked, m_turnsOf, m_takenOf, m_stallsOf, m_here, m_stands, m_nextMove, m_queued, m_queue, m_failedWorker, m_failedLevel, m_failedTurns, m_can) => none) (fun (m_from, m_to, m_failWorker, m_failLevel, m_failTurn, m_levelOf, m_times, m_sizes, m_isNext, m_isLive, m_isLooked, m_turnsOf, m_takenOf, m_stallsOf, m_here, m_stands, m_nextMove, m_queued, m_queue, m_failedWorker, m_failedLevel, m_failedTurns, m_can) => [(h0, .inr (10, [.int (nI 0), .int (nI (1 + jw)), .int (nI (1 + jq)), .int (nI 0), .int (nI 0), .int (nI 0), .ref m_from, .ref m_to, .ref m_failWorker, .ref m_failLevel, .ref m_failTurn, .int (nI 0), .int (nI 0), .int (nI 0), .int (nI 0), .int (nI 0), .int (nI 0), .int (nI 0), .ref m_levelOf, .ref m_times, .ref m_sizes, .ref m_isNext, .ref m_isLive, .ref m_isLooked, .ref m_turnsOf, .ref m_takenOf, .ref m_stallsOf, .ref m_here, .ref m_stands, .ref m_nextMove, .ref m_queued, .ref m_queue, .ref m_failedWorker, .ref m_failedLevel, .ref m_failedTurns, .ref m_can])), (m_failWorker, .inl (cI, 20, .inl (fun _ => 0))), (m_failLevel, .inl (cI, 20, .inl (fun _ => 0))), (m_failTurn, .inl (cI, 20, .inl (fun _ => 0))), (m_levelOf, .inl (cI, 200, .inl (fun _ => (-1)))), (m_times, .inl (cI, 200, .inl (fun _ => nI 0))), (m_isNext, .inl (cB, 200, .inl (fun _ => nI 0))), (m_isLive, .inl (cB, 16, .inl (fun j => if j < (1 + jw) then nI 1 else nI 0))), (m_turnsOf, .inl (cI, 16, .inl (fun _ => nI 0))), (m_takenOf, .inl (cI, 16, .inl (fun _ => nI 0))), (m_stallsOf, .inl (cI, 16, .inl (fun _ => nI 0))), (m_queued, .inl (cI, 16, .inl (fun _ => nI 0)))]) := by
  refine xG.of b_MO_init 3 (none) (by decide +kernel) rfl (Nat.le_of_ble_eq_true rfl) ?_
  intro p e s m below meth c A ls hAe C0 hP hD hS hl
  obtain ⟨hx, hb, hr, hml, hown, hlocks, hts, hnm, hN, hK, hA⟩ := C0
  have hU : ∀ w ∈ xU, w.before #[.ref h0, .int a, .int b] s = true := fun w h => hts w (List.mem_cons_of_mem _ h)
  have hl : lv_has ls 3 [(0, .ref h0), (1, .int a), (2, .int b)] := hl
  refine lv_aload_n hx hb d_MO_init_0 rfl (lv_at hl 0 rfl) ?_
  refine W.objInit hx hb hown (hU _ uw_718) (hU _ uw_27) (hU _ uw_28) rfl (by rw [hml]; exact hl.1) rfl d_MO_init_1 (Nat.le_of_ble_eq_true rfl) (Nat.le_of_ble_eq_true rfl) ?_
  refine W.eq (g2 := F0 m 4 ls []) rfl ?_
  refine lv_aload_n hx hb d_MO_init_4 rfl (lv_at hl 0 rfl) ?_
  refine lv_sipush (v := nI 600) hx hb d_MO_init_5 (by decide +kernel) ?_
  refine xw_newI (N := 600) hx hb (hU _ uw_64) hK 0 rfl hP hD hS hA (by decide +kernel) (by decide +kernel) (by decide) (Nat.le_of_ble_eq_true rfl) (Nat.le_of_ble_eq_true rfl) d_MO_init_8 (fun q_1 H hP hD hS => ?_)
  have hP : va_P D vwCl [(h0, .inr (10, [.int (nI 0), .int (nI 0), .int (nI 0), .int (nI 0), .int (nI 0), .int (nI 0), .null, .null, .null, .null, .null, .int (nI 0), .int (nI 0), .int (nI 0), .int (nI 0), .int (nI 0), .int (nI 0), .int (nI 0), .null, .null, .null, .null, .null, .null, .null, .null, .null, .null, .null, .null, .null, .null, .null, .null, .null, .null])), (q_1, .inl (cI, 600, .inl (fun _ => 0)))] H := hP
  have hD : va_D A [(h0, .inr (10, [.int (nI 0), .int (nI 0), .int (nI 0), .int (nI 0), .int (nI 0), .int (nI 0), .null, .null, .null, .null, .null, .int (nI 0), .int (nI 0), .int (nI 0), .int (nI 0), .int (nI 0), .int (nI 0), .int (nI 0), .null, .null, .null, .null, .null, .null, .null, .null, .null, .null, .null, .null, .null, .null, .null, .null, .null, .null])), (q_1, .inl (cI, 600, .inl (fun _ => 0)))] := hD
  refine W.widen (k := 1) (n := 600) (Nat.le_of_ble_eq_true rfl) (Nat.le_of_ble_eq_true rfl) ?_
  refine va_putF (D := D) (ci := 10) (v := .ref q_1) (ty := (.array .int)) (C := R_MO) (T := T_MO) (N := 36) hx hb hU iw_MO ty_MO ty_MO_ok nm_MO hown hK hP hD hS 0 rfl rfl 6 (by decide) (hU _ uw_729) (fun _ h9 => h9) rfl hnm rfl (by decide +kernel) (by first | rfl | decide +kernel) (by first | rfl | decide +kernel) (Nat.le_of_ble_eq_true rfl) d_MO_init_10 (fun H locs hP hD hS => ?_)
  have hP : va_P D vwCl [(h0, .inr (10, [.int (nI 0), .int (nI 0), .int (nI 0), .int (nI 0), .int (nI 0), .int (nI 0), .ref q_1, .null, .null, .null, .null, .int (nI 0), .int (nI 0), .int (nI 0), .int (nI 0), .int (nI 0), .int (nI 0), .int (nI 0), .null, .null, .null, .null, .null, .null, .null, .null, .null, .null, .null, .null, .null, .null, .null, .null, .null, .null])), (q_1, .inl (cI, 600, .inl (fun _ => 0)))] H := hP
  have hD : va_D A [(h0, .inr (10, [.int (nI 0), .int (nI 0), .int (nI 0), .int (nI 0), .int (nI 0), .int (nI 0), .ref q_1, .null, .null, .null, .null, .int (nI 0), .int (nI 0), .int (nI 0), .int (nI 0), .int (nI 0), .int (nI 0), .int (nI 0), .null, .null, .null, .null, .null, .null, .null, .null, .null, .null, .null, .null, .null, .null, .null, .null, .null, .null])), (q_1, .inl (cI, 600, .inl (fun _ => 0)))] := hD
  refine lv_aload_n hx hb d_MO_init_13 rfl (lv_at hl 0 rfl) ?_
  refine lv_sipush (v := nI 600) hx hb d_MO_init_14 (by decide +kernel) ?_
  refine xw_newI (N := 600) hx hb (hU _ uw_64) hK 0 rfl hP hD hS hA (by decide +kernel) (by decide +kernel) (by decide) (Nat.le_of_ble_eq_true rfl) (Nat.le_of_ble_eq_true rfl) d_MO_init_17 (fun q_2 H hP hD hS => ?_)
  have hP : va_P D vwCl [(h0, .inr (10, [.int (nI 0), .int (nI 0), .int (nI 0), .int (nI 0), .int (nI 0), .int (nI 0), .ref q_1, .null, .null, .null, .null, .int (nI 0), .int (nI 0), .int (nI 0), .int (nI 0), .int (nI 0), .int (nI 0), .int (nI 0), .null, .null, .null, .null, .null, .null, .null, .null, .null, .null, .null, .null, .null, .null, .null, .null, .null, .null])), (q_1, .inl (cI, 600, .inl (fun _ => 0))), (q_2, .inl (cI, 600, .inl (fun _ => 0)))] H := hP
  have hD : va_D A [(h0, .inr (10, [.int (nI 0), .int (nI 0), .int (nI 0), .int (nI 0), .int (nI 0), .int (nI 0), .ref q_1, .null, .null, .null, .null, .int (nI 0), .int (nI 0), .int (nI 0), .int (nI 0), .int (nI 0), .int (nI 0), .int (nI 0), .null, .null, .null, .null, .null, .null, .null, .null, .null, .null, .null, .null, .null, .null, .null, .null, .null, .null])), (q_1, .inl (cI, 600, .inl (fun _ => 0))), (q_2, .inl (cI, 600, .inl (fun _ => 0)))] := hD
  refine W.widen (k := 2) (n := 1200) (Nat.le_of_ble_eq_true rfl) (Nat.le_of_ble_eq_true rfl) ?_
  refine va_putF (D := D) (ci := 10) (v := .ref q_2) (ty := (.array .int)) (C := R_MO) (T := T_MO) (N := 36) hx hb hU iw_MO ty_MO ty_MO_ok nm_MO hown hK hP hD hS 0 rfl rfl 7 (by decide) (hU _ uw_730) (fun _ h9 => h9) rfl hnm rfl (by decide +kernel) (by first | rfl | decide +kernel) (by first | rfl | decide +kernel) (Nat.le_of_ble_eq_true rfl) d_MO_init_19 (fun H locs hP hD hS => ?_)
  have hP : va_P D vwCl [(h0, .inr (10, [.int (nI 0), .int (nI 0), .int (nI 0), .int (nI 0), .int (nI 0), .int (nI 0), .ref q_1, .ref q_2, .null, .null, .null, .int (nI 0), .int (nI 0), .int (nI 0), .int (nI 0), .int (nI 0), .int (nI 0), .int (nI 0), .null, .null, .null, .null, .null, .null, .null, .null, .null, .null, .null, .null, .null, .null, .null, .null, .null, .null])), (q_1, .inl (cI, 600, .inl (fun _ => 0))), (q_2, .inl (cI, 600, .inl (fun _ => 0)))] H := hP
  have hD : va_D A [(h0, .inr (10, [.int (nI 0), .int (nI 0), .int (nI 0), .int (nI 0), .int (nI 0), .int (nI 0), .ref q_1, .ref q_2, .null, .null, .null, .int (nI 0), .int (nI 0), .int (nI 0), .int (nI 0), .int (nI 0), .int (nI 0), .int (nI 0), .null, .null, .null, .null, .null, .null, .null, .null, .null, .null, .null, .null, .null, .null, .null, .null, .null, .null])), (q_1, .inl (cI, 600, .inl (fun _ => 0))), (q_2, .inl (cI, 600, .inl (fun _ => 0)))] := hD
  refine lv_aload_n hx hb d_MO_init_22 rfl (lv_at hl 0 rfl) ?_
  refine lv_bipush (v := nI 20) hx hb d_MO_init_23 (by decide +kernel) ?_
  refine xw_newI (N := 20) hx hb (hU _ uw_64) hK 0 rfl hP hD hS hA (by decide +kernel) (by decide +kernel) (by decide) (Nat.le_of_ble_eq_true rfl) (Nat.le_of_ble_eq_true rfl) d_MO_init_25 (fun q_3 H hP hD hS => ?_)
  have hP : va_P D vwCl [(h0, .inr (10, [.int (nI 0), .int (nI 0), .int (nI 0), .int (nI 0), .int (nI 0), .int (nI 0), .ref q_1, .ref q_2, .null, .null, .null, .int (nI 0), .int (nI 0), .int (nI 0), .int (nI 0), .int (nI 0), .int (nI 0), .int (nI 0), .null, .null, .null, .null, .null, .null, .null, .null, .null, .null, .null, .null, .null, .null, .null, .null, .null, .null])), (q_1, .inl (cI, 600, .inl (fun _ => 0))), (q_2, .inl (cI, 600, .inl (fun _ => 0))), (q_3, .inl (cI, 20, .inl (fun _ => 0)))] H := hP
  have hD : va_D A [(h0, .inr (10, [.int (nI 0), .int (nI 0), .int (nI 0), .int (nI 0), .int (nI 0), .int (nI 0), .ref q_1, .ref q_2, .null, .null, .null, .int (nI 0), .int (nI 0), .int (nI 0), .int (nI 0), .int (nI 0), .int (nI 0), .int (nI 0), .null, .null, .null, .null, .null, .null, .null, .null, .null, .null, .null, .null, .null, .null, .null, .null, .null, .null])), (q_1, .inl (cI, 600, .inl (fun _ => 0))), (q_2, .inl (cI, 600, .inl (fun _ => 0))), (q_3, .inl (cI, 20, .inl (fun _ => 0)))] := hD
  refine W.widen (k := 3) (n := 1220) (Nat.le_of_ble_eq_true rfl) (Nat.le_of_ble_eq_true rfl) ?_
  refine va_putF (D := D) (ci := 10) (v := .ref q_3) (ty := (.array .int)) (C := R_MO) (T := T_MO) (N := 36) hx hb hU iw_MO ty_MO ty_MO_ok nm_MO hown hK hP hD hS 0 rfl rfl 8 (by decide) (hU _ uw_731) (fun _ h9 => h9) rfl hnm rfl (by decide +kernel) (by first | rfl | decide +kernel) (by first | rfl | decide +kernel) (Nat.le_of_ble_eq_true rfl) d_MO_init_27 (fun H locs hP hD hS => ?_)
  have hP : va_P D vwCl [(h0, .inr (10, [.int (nI 0), .int (nI 0), .int (nI 0), .int (nI 0), .int (nI 0), .int (nI 0), .ref q_1, .ref q_2, .ref q_3, .null, .null, .int (nI 0), .int (nI 0), .int (nI 0), .int (nI 0), .int (nI 0), .int (nI 0), .int (nI 0), .null, .null, .null, .null, .null, .null, .null, .null, .null, .null, .null, .null, .null, .null, .null, .null, .null, .null])), (q_1, .inl (cI, 600, .inl (fun _ => 0))), (q_2, .inl (cI, 600, .inl (fun _ => 0))), (q_3, .inl (cI, 20, .inl (fun _ => 0)))] H := hP
  have hD : va_D A [(h0, .inr (10, [.int (nI 0), .int (nI 0), .int (nI 0), .int (nI 0), .int (nI 0), .int (nI 0), .ref q_1, .ref q_2, .ref q_3, .null, .null, .int (nI 0), .int (nI 0), .int (nI 0), .int (nI 0), .int (nI 0), .int (nI 0), .int (nI 0), .null, .null, .null, .null, .null, .null, .null, .null, .null, .null, .null, .null, .null, .null, .null, .null, .null, .null])), (q_1, .inl (cI, 600, .inl (fun _ => 0))), (q_2, .inl (cI, 600, .inl (fun _ => 0))), (q_3, .inl (cI, 20, .inl (fun _ => 0)))] := hD
  refine lv_aload_n hx hb d_MO_init_30 rfl (lv_at hl 0 rfl) ?_
  refine lv_bipush (v := nI 20) hx hb d_MO_init_31 (by decide +kernel) ?_
  refine xw_newI (N := 20) hx hb (hU _ uw_64) hK 0 rfl hP hD hS hA (by decide +kernel) (by decide +kernel) (by decide) (Nat.le_of_ble_eq_true rfl) (Nat.le_of_ble_eq_true rfl) d_MO_init_33 (fun q_4 H hP hD hS => ?_)
  have hP : va_P D vwCl [(h0, .inr (10, [.int (nI 0), .int (nI 0), .int (nI 0), .int (nI 0), .int (nI 0), .int (nI 0), .ref q_1, .ref q_2, .ref q_3, .null, .null, .int (nI 0), .int (nI 0), .int (nI 0), .int (nI 0), .int (nI 0), .int (nI 0), .int (nI 0), .null, .null, .null, .null, .null, .null, .null, .null, .null, .null, .null, .null, .null, .null, .null, .null, .null, .null])), (q_1, .inl (cI, 600, .inl (fun _ => 0))), (q_2, .inl (cI, 600, .inl (fun _ => 0))), (q_3, .inl (cI, 20, .inl (fun _ => 0))), (q_4, .inl (cI, 20, .inl (fun _ => 0)))] H := hP
  have hD : va_D A [(h0, .inr (10, [.int (nI 0), .int (nI 0), .int (nI 0), .int (nI 0), .int (nI 0), .int (nI 0), .ref q_1, .ref q_2, .ref q_3, .null, .null, .int (nI 0), .int (nI 0), .int (nI 0), .int (nI 0), .int (nI 0), .int (nI 0), .int (nI 0), .null, .null, .null, .null, .null, .null, .null, .null, .null, .null, .null, .null, .null, .null, .null, .null, .null, .null])), (q_1, .inl (cI, 600, .inl (fun _ => 0))), (q_2, .inl (cI, 600, .inl (fun _ => 0))), (q_3, .inl (cI, 20, .inl (fun _ => 0))), (q_4, .inl (cI, 20, .inl (fun _ => 0)))] := hD
  refine W.widen (k := 4) (n := 1240) (Nat.le_of_ble_eq_true rfl) (Nat.le_of_ble_eq_true rfl) ?_
  refine va_putF (D := D) (ci := 10) (v := .ref q_4) (ty := (.array .int)) (C := R_MO) (T := T_MO) (N := 36) hx hb hU iw_MO ty_MO ty_MO_ok nm_MO hown hK hP hD hS 0 rfl rfl 9 (by decide) (hU _ uw_732) (fun _ h9 => h9) rfl hnm rfl (by decide +kernel) (by first | rfl | decide +kernel) (by first | rfl | decide +kernel) (Nat.le_of_ble_eq_true rfl) d_MO_init_35 (fun H locs hP hD hS => ?_)
  have hP : va_P D vwCl [(h0, .inr (10, [.int (nI 0), .int (nI 0), .int (nI 0), .int (nI 0), .int (nI 0), .int (nI 0), .ref q_1, .ref q_2, .ref q_3, .ref q_4, .null, .int (nI 0), .int (nI 0), .int (nI 0), .int (nI 0), .int (nI 0), .int (nI 0), .int (nI 0), .null, .null, .null, .null, .null, .null, .null, .null, .null, .null, .null, .null, .null, .null, .null, .null, .null, .null])), (q_1, .inl (cI, 600, .inl (fun _ => 0))), (q_2, .inl (cI, 600, .inl (fun _ => 0))), (q_3, .inl (cI, 20, .inl (fun _ => 0))), (q_4, .inl (cI, 20, .inl (fun _ => 0)))] H := hP
  have hD : va_D A [(h0, .inr (10, [.int (nI 0), .int (nI 0), .int (nI 0), .int (nI 0), .int (nI 0), .int (nI 0), .ref q_1, .ref q_2, .ref q_3, .ref q_4, .null, .int (nI 0), .int (nI 0), .int (nI 0), .int (nI 0), .int (nI 0), .int (nI 0), .int (nI 0), .null, .null, .null, .null, .null, .null, .null, .null, .null, .null, .null, .null, .null, .null, .null, .null, .null, .null])), (q_1, .inl (cI, 600, .inl (fun _ => 0))), (q_2, .inl (cI, 600, .inl (fun _ => 0))), (q_3, .inl (cI, 20, .inl (fun _ => 0))), (q_4, .inl (cI, 20, .inl (fun _ => 0)))] := hD
  refine lv_aload_n hx hb d_MO_init_38 rfl (lv_at hl 0 rfl) ?_
  refine lv_bipush (v := nI 20) hx hb d_MO_init_39 (by decide +kernel) ?_
  refine xw_newI (N := 20) hx hb (hU _ uw_64) hK 0 rfl hP hD hS hA (by decide +kernel) (by decide +kernel) (by decide) (Nat.le_of_ble_eq_true rfl) (Nat.le_of_ble_eq_true rfl) d_MO_init_41 (fun q_5 H hP hD hS => ?_)
  have hP : va_P D vwCl [(h0, .inr (10, [.int (nI 0), .int (nI 0), .int (nI 0), .int (nI 0), .int (nI 0), .int (nI 0), .ref q_1, .ref q_2, .ref q_3, .ref q_4, .null, .int (nI 0), .int (nI 0), .int (nI 0), .int (nI 0), .int (nI 0), .int (nI 0), .int (nI 0), .null, .null, .null, .null, .null, .null, .null, .null, .null, .null, .null, .null, .null, .null, .null, .null, .null, .null])), (q_1, .inl (cI, 600, .inl (fun _ => 0))), (q_2, .inl (cI, 600, .inl (fun _ => 0))), (q_3, .inl (cI, 20, .inl (fun _ => 0))), (q_4, .inl (cI, 20, .inl (fun _ => 0))), (q_5, .inl (cI, 20, .inl (fun _ => 0)))] H := hP
  have hD : va_D A [(h0, .inr (10, [.int (nI 0), .int (nI 0), .int (nI 0), .int (nI 0), .int (nI 0), .int (nI 0), .ref q_1, .ref q_2, .ref q_3, .ref q_4, .null, .int (nI 0), .int (nI 0), .int (nI 0), .int (nI 0), .int (nI 0), .int (nI 0), .int (nI 0), .null, .null, .null, .null, .null, .null, .null, .null, .null, .null, .null, .null, .null, .null, .null, .null, .null, .null])), (q_1, .inl (cI, 600, .inl (fun _ => 0))), (q_2, .inl (cI, 600, .inl (fun _ => 0))), (q_3, .inl (cI, 20, .inl (fun _ => 0))), (q_4, .inl (cI, 20, .inl (fun _ => 0))), (q_5, .inl (cI, 20, .inl (fun _ => 0)))] := hD
  refine W.widen (k := 5) (n := 1260) (Nat.le_of_ble_eq_true rfl) (Nat.le_of_ble_eq_true rfl) ?_
  refine va_putF (D := D) (ci := 10) (v := .ref q_5) (ty := (.array .int)) (C := R_MO) (T := T_MO) (N := 36) hx hb hU iw_MO ty_MO ty_MO_ok nm_MO hown hK hP hD hS 0 rfl rfl 10 (by decide) (hU _ uw_733) (fun _ h9 => h9) rfl hnm rfl (by decide +kernel) (by first | rfl | decide +kernel) (by first | rfl | decide +kernel) (Nat.le_of_ble_eq_true rfl) d_MO_init_43 (fun H locs hP hD hS => ?_)
  have hP : va_P D vwCl [(h0, .inr (10, [.int (nI 0), .int (nI 0), .int (nI 0), .int (nI 0), .int (nI 0), .int (nI 0), .ref q_1, .ref q_2, .ref q_3, .ref q_4, .ref q_5, .int (nI 0), .int (nI 0), .int (nI 0), .int (nI 0), .int (nI 0), .int (nI 0), .int (nI 0), .null, .null, .null, .null, .null, .null, .null, .null, .null, .null, .null, .null, .null, .null, .null, .null, .null, .null])), (q_1, .inl (cI, 600, .inl (fun _ => 0))), (q_2, .inl (cI, 600, .inl (fun _ => 0))), (q_3, .inl (cI, 20, .inl (fun _ => 0))), (q_4, .inl (cI, 20, .inl (fun _ => 0))), (q_5, .inl (cI, 20, .inl (fun _ => 0)))] H := hP
  have hD : va_D A [(h0, .inr (10, [.int (nI 0), .int (nI 0), .int (nI 0), .int (nI 0), .int (nI 0), .int (nI 0), .ref q_1, .ref q_2, .ref q_3, .ref q_4, .ref q_5, .int (nI 0), .int (nI 0), .int (nI 0), .int (nI 0), .int (nI 0), .int (nI 0), .int (nI 0), .null, .null, .null, .null, .null, .null, .null, .null, .null, .null, .null, .null, .null, .null, .null, .null, .null, .null])), (q_1, .inl (cI, 600, .inl (fun _ => 0))), (q_2, .inl (cI, 600, .inl (fun _ => 0))), (q_3, .inl (cI, 20, .inl (fun _ => 0))), (q_4, .inl (cI, 20, .inl (fun _ => 0))), (q_5, .inl (cI, 20, .inl (fun _ => 0)))] := hD
  refine lv_aload_n hx hb d_MO_init_46 rfl (lv_at hl 0 rfl) ?_
  refine lv_sipush (v := nI 200) hx hb d_MO_init_47 (by decide +kernel) ?_
  refine xw_newI (N := 200) hx hb (hU _ uw_64) hK 0 rfl hP hD hS hA (by decide +kernel) (by decide +kernel) (by decide) (Nat.le_of_ble_eq_true rfl) (Nat.le_of_ble_eq_true rfl) d_MO_init_50 (fun q_6 H hP hD hS => ?_)
  have hP : va_P D vwCl [(h0, .inr (10, [.int (nI 0), .int (nI 0), .int (nI 0), .int (nI 0), .int (nI 0), .int (nI 0), .ref q_1, .ref q_2, .ref q_3, .ref q_4, .ref q_5, .int (nI 0), .int (nI 0), .int (nI 0), .int (nI 0), .int (nI 0), .int (nI 0), .int (nI 0), .null, .null, .null, .null, .null, .null, .null, .null, .null, .null, .null, .null, .null, .null, .null, .null, .null, .null])), (q_1, .inl (cI, 600, .inl (fun _ => 0))), (q_2, .inl (cI, 600, .inl (fun _ => 0))), (q_3, .inl (cI, 20, .inl (fun _ => 0))), (q_4, .inl (cI, 20, .inl (fun _ => 0))), (q_5, .inl (cI, 20, .inl (fun _ => 0))), (q_6, .inl (cI, 200, .inl (fun _ => 0)))] H := hP
  have hD : va_D A [(h0, .inr (10, [.int (nI 0), .int (nI 0), .int (nI 0), .int (nI 0), .int (nI 0), .int (nI 0), .ref q_1, .ref q_2, .ref q_3, .ref q_4, .ref q_5, .int (nI 0), .int (nI 0), .int (nI 0), .int (nI 0), .int (nI 0), .int (nI 0), .int (nI 0), .null, .null, .null, .null, .null, .null, .null, .null, .null, .null, .null, .null, .null, .null, .null, .null, .null, .null])), (q_1, .inl (cI, 600, .inl (fun _ => 0))), (q_2, .inl (cI, 600, .inl (fun _ => 0))), (q_3, .inl (cI, 20, .inl (fun _ => 0))), (q_4, .inl (cI, 20, .inl (fun _ => 0))), (q_5, .inl (cI, 20, .inl (fun _ => 0))), (q_6, .inl (cI, 200, .inl (fun _ => 0)))] := hD
  refine W.widen (k := 6) (n := 1460) (Nat.le_of_ble_eq_true rfl) (Nat.le_of_ble_eq_true rfl) ?_
  refine va_putF (D := D) (ci := 10) (v := .ref q_6) (ty := (.array .int)) (C := R_MO) (T := T_MO) (N := 36) hx hb hU iw_MO ty_MO ty_MO_ok nm_MO hown hK hP hD hS 0 rfl rfl 18 (by decide) (hU _ uw_741) (fun _ h9 => h9) rfl hnm rfl (by decide +kernel) (by first | rfl | decide +kernel) (by first | rfl | decide +kernel) (Nat.le_of_ble_eq_true rfl) d_MO_init_52 (fun H locs hP hD hS => ?_)
  have hP : va_P D vwCl [(h0, .inr (10, [.int (nI 0), .int (nI 0), .int (nI 0), .int (nI 0), .int (nI 0), .int (nI 0), .ref q_1, .ref q_2, .ref q_3, .ref q_4, .ref q_5, .int (nI 0), .int (nI 0), .int (nI 0), .int (nI 0), .int (nI 0), .int (nI 0), .int (nI 0), .ref q_6, .null, .null, .null, .null, .null, .null, .null, .null, .null, .null, .null, .null, .null, .null, .null, .null, .null])), (q_1, .inl (cI, 600, .inl (fun _ => 0))), (q_2, .inl (cI, 600, .inl (fun _ => 0))), (q_3, .inl (cI, 20, .inl (fun _ => 0))), (q_4, .inl (cI, 20, .inl (fun _ => 0))), (q_5, .inl (cI, 20, .inl (fun _ => 0))), (q_6, .inl (cI, 200, .inl (fun _ => 0)))] H := hP
  have hD : va_D A [(h0, .inr (10, [.int (nI 0), .int (nI 0), .int (nI 0), .int (nI 0), .int (nI 0), .int (nI 0), .ref q_1, .ref q_2, .ref q_3, .ref q_4, .ref q_5, .int (nI 0), .int (nI 0), .int (nI 0), .int (nI 0), .int (nI 0), .int (nI 0), .int (nI 0), .ref q_6, .null, .null, .null, .null, .null, .null, .null, .null, .null, .null, .null, .null, .null, .null, .null, .null, .null])), (q_1, .inl (cI, 600, .inl (fun _ => 0))), (q_2, .inl (cI, 600, .inl (fun _ => 0))), (q_3, .inl (cI, 20, .inl (fun _ => 0))), (q_4, .inl (cI, 20, .inl (fun _ => 0))), (q_5, .inl (cI, 20, .inl (fun _ => 0))), (q_6, .inl (cI, 200, .inl (fun _ => 0)))] := hD
  refine lv_aload_n hx hb d_MO_init_55 rfl (lv_at hl 0 rfl) ?_
  refine lv_sipush (v := nI 200) hx hb d_MO_init_56 (by decide +kernel) ?_
  refine xw_newI (N := 200) hx hb (hU _ uw_64) hK 0 rfl hP hD hS hA (by decide +kernel) (by decide +kernel) (by decide) (Nat.le_of_ble_eq_true rfl) (Nat.le_of_ble_eq_true rfl) d_MO_init_59 (fun q_7 H hP hD hS => ?_)
  have hP : va_P D vwCl [(h0, .inr (10, [.int (nI 0), .int (nI 0), .int (nI 0), .int (nI 0), .int (nI 0), .int (nI 0), .ref q_1, .ref q_2, .ref q_3, .ref q_4, .ref q_5, .int (nI 0), .int (nI 0), .int (nI 0), .int (nI 0), .int (nI 0), .int (nI 0), .int (nI 0), .ref q_6, .null, .null, .null, .null, .null, .null, .null, .null, .null, .null, .null, .null, .null, .null, .null, .null, .null])), (q_1, .inl (cI, 600, .inl (fun _ => 0))), (q_2, .inl (cI, 600, .inl (fun _ => 0))), (q_3, .inl (cI, 20, .inl (fun _ => 0))), (q_4, .inl (cI, 20, .inl (fun _ => 0))), (q_5, .inl (cI, 20, .inl (fun _ => 0))), (q_6, .inl (cI, 200, .inl (fun _ => 0))), (q_7, .inl (cI, 200, .inl (fun _ => 0)))] H := hP
  have hD : va_D A [(h0, .inr (10, [.int (nI 0), .int (nI 0), .int (nI 0), .int (nI 0), .int (nI 0), .int (nI 0), .ref q_1, .ref q_2, .ref q_3, .ref q_4, .ref q_5, .int (nI 0), .int (nI 0), .int (nI 0), .int (nI 0), .int (nI 0), .int (nI 0), .int (nI 0), .ref q_6, .null, .null, .null, .null, .null, .null, .null, .null, .null, .null, .null, .null, .null, .null, .null, .null, .null])), (q_1, .inl (cI, 600, .inl (fun _ => 0))), (q_2, .inl (cI, 600, .inl (fun _ => 0))), (q_3, .inl (cI, 20, .inl (fun _ => 0))), (q_4, .inl (cI, 20, .inl (fun _ => 0))), (q_5, .inl (cI, 20, .inl (fun _ => 0))), (q_6, .inl (cI, 200, .inl (fun _ => 0))), (q_7, .inl (cI, 200, .inl (fun _ => 0)))] := hD
  refine W.widen (k := 7) (n := 1660) (Nat.le_of_ble_eq_true rfl) (Nat.le_of_ble_eq_true rfl) ?_
  refine va_putF (D := D) (ci := 10) (v := .ref q_7) (ty := (.array .int)) (C := R_MO) (T := T_MO) (N := 36) hx hb hU iw_MO ty_MO ty_MO_ok nm_MO hown hK hP hD hS 0 rfl rfl 19 (by decide) (hU _ uw_742) (fun _ h9 => h9) rfl hnm rfl (by decide +kernel) (by first | rfl | decide +kernel) (by first | rfl | decide +kernel) (Nat.le_of_ble_eq_true rfl) d_MO_init_61 (fun H locs hP hD hS => ?_)
  have hP : va_P D vwCl [(h0, .inr (10, [.int (nI 0), .int (nI 0), .int (nI 0), .int (nI 0), .int (nI 0), .int (nI 0), .ref q_1, .ref q_2, .ref q_3, .ref q_4, .ref q_5, .int (nI 0), .int (nI 0), .int (nI 0), .int (nI 0), .int (nI 0), .int (nI 0), .int (nI 0), .ref q_6, .ref q_7, .null, .null, .null, .null, .null, .null, .null, .null, .null, .null, .null, .null, .null, .null, .null, .null])), (q_1, .inl (cI, 600, .inl (fun _ => 0))), (q_2, .inl (cI, 600, .inl (fun _ => 0))), (q_3, .inl (cI, 20, .inl (fun _ => 0))), (q_4, .inl (cI, 20, .inl (fun _ => 0))), (q_5, .inl (cI, 20, .inl (fun _ => 0))), (q_6, .inl (cI, 200, .inl (fun _ => 0))), (q_7, .inl (cI, 200, .inl (fun _ => 0)))] H := hP
  have hD : va_D A [(h0, .inr (10, [.int (nI 0), .int (nI 0), .int (nI 0), .int (nI 0), .int (nI 0), .int (nI 0), .ref q_1, .ref q_2, .ref q_3, .ref q_4, .ref q_5, .int (nI 0), .int (nI 0), .int (nI 0), .int (nI 0), .int (nI 0), .int (nI 0), .int (nI 0), .ref q_6, .ref q_7, .null, .null, .null, .null, .null, .null, .null, .null, .null, .null, .null, .null, .null, .null, .null, .null])), (q_1, .inl (cI, 600, .inl (fun _ => 0))), (q_2, .inl (cI, 600, .inl (fun _ => 0))), (q_3, .inl (cI, 20, .inl (fun _ => 0))), (q_4, .inl (cI, 20, .inl (fun _ => 0))), (q_5, .inl (cI, 20, .inl (fun _ => 0))), (q_6, .inl (cI, 200, .inl (fun _ => 0))), (q_7, .inl (cI, 200, .inl (fun _ => 0)))] := hD
  refine lv_aload_n hx hb d_MO_init_64 rfl (lv_at hl 0 rfl) ?_
  refine lv_sipush (v := nI 201) hx hb d_MO_init_65 (by decide +kernel) ?_
  refine xw_newI (N := 201) hx hb (hU _ uw_64) hK 0 rfl hP hD hS hA (by decide +kernel) (by decide +kernel) (by decide) (Nat.le_of_ble_eq_true rfl) (Nat.le_of_ble_eq_true rfl) d_MO_init_68 (fun q_8 H hP hD hS => ?_)
  have hP : va_P D vwCl [(h0, .inr (10, [.int (nI 0), .int (nI 0), .int (nI 0), .int (nI 0), .int (nI 0), .int (nI 0), .ref q_1, .ref q_2, .ref q_3, .ref q_4, .ref q_5, .int (nI 0), .int (nI 0), .int (nI 0), .int (nI 0), .int (nI 0), .int (nI 0), .int (nI 0), .ref q_6, .ref q_7, .null, .null, .null, .null, .null, .null, .null, .null, .null, .null, .null, .null, .null, .null, .null, .null])), (q_1, .inl (cI, 600, .inl (fun _ => 0))), (q_2, .inl (cI, 600, .inl (fun _ => 0))), (q_3, .inl (cI, 20, .inl (fun _ => 0))), (q_4, .inl (cI, 20, .inl (fun _ => 0))), (q_5, .inl (cI, 20, .inl (fun _ => 0))), (q_6, .inl (cI, 200, .inl (fun _ => 0))), (q_7, .inl (cI, 200, .inl (fun _ => 0))), (q_8, .inl (cI, 201, .inl (fun _ => 0)))] H := hP
  have hD : va_D A [(h0, .inr (10, [.int (nI 0), .int (nI 0), .int (nI 0), .int (nI 0), .int (nI 0), .int (nI 0), .ref q_1, .ref q_2, .ref q_3, .ref q_4, .ref q_5, .int (nI 0), .int (nI 0), .int (nI 0), .int (nI 0), .int (nI 0), .int (nI 0), .int (nI 0), .ref q_6, .ref q_7, .null, .null, .null, .null, .null, .null, .null, .null, .null, .null, .null, .null, .null, .null, .null, .null])), (q_1, .inl (cI, 600, .inl (fun _ => 0))), (q_2, .inl (cI, 600, .inl (fun _ => 0))), (q_3, .inl (cI, 20, .inl (fun _ => 0))), (q_4, .inl (cI, 20, .inl (fun _ => 0))), (q_5, .inl (cI, 20, .inl (fun _ => 0))), (q_6, .inl (cI, 200, .inl (fun _ => 0))), (q_7, .inl (cI, 200, .inl (fun _ => 0))), (q_8, .inl (cI, 201, .inl (fun _ => 0)))] := hD
  refine W.widen (k := 8) (n := 1861) (Nat.le_of_ble_eq_true rfl) (Nat.le_of_ble_eq_true rfl) ?_
  refine va_putF (D := D) (ci := 10) (v := .ref q_8) (ty := (.array .int)) (C := R_MO) (T := T_MO) (N := 36) hx hb hU iw_MO ty_MO ty_MO_ok nm_MO hown hK hP hD hS 0 rfl rfl 20 (by decide) (hU _ uw_743) (fun _ h9 => h9) rfl hnm rfl (by decide +kernel) (by first | rfl | decide +kernel) (by first | rfl | decide +kernel) (Nat.le_of_ble_eq_true rfl) d_MO_init_70 (fun H locs hP hD hS => ?_)
  have hP : va_P D vwCl [(h0, .inr (10, [.int (nI 0), .int (nI 0), .int (nI 0), .int (nI 0), .int (nI 0), .int (nI 0), .ref q_1, .ref q_2, .ref q_3, .ref q_4, .ref q_5, .int (nI 0), .int (nI 0), .int (nI 0), .int (nI 0), .int (nI 0), .int (nI 0), .int (nI 0), .ref q_6, .ref q_7, .ref q_8, .null, .null, .null, .null, .null, .null, .null, .null, .null, .null, .null, .null, .null, .null, .null])), (q_1, .inl (cI, 600, .inl (fun _ => 0))), (q_2, .inl (cI, 600, .inl (fun _ => 0))), (q_3, .inl (cI, 20, .inl (fun _ => 0))), (q_4, .inl (cI, 20, .inl (fun _ => 0))), (q_5, .inl (cI, 20, .inl (fun _ => 0))), (q_6, .inl (cI, 200, .inl (fun _ => 0))), (q_7, .inl (cI, 200, .inl (fun _ => 0))), (q_8, .inl (cI, 201, .inl (fun _ => 0)))] H := hP
  have hD : va_D A [(h0, .inr (10, [.int (nI 0), .int (nI 0), .int (nI 0), .int (nI 0), .int (nI 0), .int (nI 0), .ref q_1, .ref q_2, .ref q_3, .ref q_4, .ref q_5, .int (nI 0), .int (nI 0), .int (nI 0), .int (nI 0), .int (nI 0), .int (nI 0), .int (nI 0), .ref q_6, .ref q_7, .ref q_8, .null, .null, .null, .null, .null, .null, .null, .null, .null, .null, .null, .null, .null, .null, .null])), (q_1, .inl (cI, 600, .inl (fun _ => 0))), (q_2, .inl (cI, 600, .inl (fun _ => 0))), (q_3, .inl (cI, 20, .inl (fun _ => 0))), (q_4, .inl (cI, 20, .inl (fun _ => 0))), (q_5, .inl (cI, 20, .inl (fun _ => 0))), (q_6, .inl (cI, 200, .inl (fun _ => 0))), (q_7, .inl (cI, 200, .inl (fun _ => 0))), (q_8, .inl (cI, 201, .inl (fun _ => 0)))] := hD
  refine lv_aload_n hx hb d_MO_init_73 rfl (lv_at hl 0 rfl) ?_
  refine lv_sipush (v := nI 200) hx hb d_MO_init_74 (by decide +kernel) ?_
  refine xw_newB (N := 200) hx hb (hU _ uw_115) hK 1 rfl hP hD hS hA (by decide +kernel) (by decide +kernel) (by decide) (Nat.le_of_ble_eq_true rfl) (Nat.le_of_ble_eq_true rfl) d_MO_init_77 (fun q_9 H hP hD hS => ?_)
  have hP : va_P D vwCl [(h0, .inr (10, [.int (nI 0), .int (nI 0), .int (nI 0), .int (nI 0), .int (nI 0), .int (nI 0), .ref q_1, .ref q_2, .ref q_3, .ref q_4, .ref q_5, .int (nI 0), .int (nI 0), .int (nI 0), .int (nI 0), .int (nI 0), .int (nI 0), .int (nI 0), .ref q_6, .ref q_7, .ref q_8, .null, .null, .null, .null, .null, .null, .null, .null, .null, .null, .null, .null, .null, .null, .null])), (q_1, .inl (cI, 600, .inl (fun _ => 0))), (q_2, .inl (cI, 600, .inl (fun _ => 0))), (q_3, .inl (cI, 20, .inl (fun _ => 0))), (q_4, .inl (cI, 20, .inl (fun _ => 0))), (q_5, .inl (cI, 20, .inl (fun _ => 0))), (q_6, .inl (cI, 200, .inl (fun _ => 0))), (q_7, .inl (cI, 200, .inl (fun _ => 0))), (q_8, .inl (cI, 201, .inl (fun _ => 0))), (q_9, .inl (cB, 200, .inl (fun _ => 0)))] H := hP
  have hD : va_D A [(h0, .inr (10, [.int (nI 0), .int (nI 0), .int (nI 0), .int (nI 0), .int (nI 0), .int (nI 0), .ref q_1, .ref q_2, .ref q_3, .ref q_4, .ref q_5, .int (nI 0), .int (nI 0), .int (nI 0), .int (nI 0), .int (nI 0), .int (nI 0), .int (nI 0), .ref q_6, .ref q_7, .ref q_8, .null, .null, .null, .null, .null, .null, .null, .null, .null, .null, .null, .null, .null, .null, .null])), (q_1, .inl (cI, 600, .inl (fun _ => 0))), (q_2, .inl (cI, 600, .inl (fun _ => 0))), (q_3, .inl (cI, 20, .inl (fun _ => 0))), (q_4, .inl (cI, 20, .inl (fun _ => 0))), (q_5, .inl (cI, 20, .inl (fun _ => 0))), (q_6, .inl (cI, 200, .inl (fun _ => 0))), (q_7, .inl (cI, 200, .inl (fun _ => 0))), (q_8, .inl (cI, 201, .inl (fun _ => 0))), (q_9, .inl (cB, 200, .inl (fun _ => 0)))] := hD
  refine W.widen (k := 9) (n := 2061) (Nat.le_of_ble_eq_true rfl) (Nat.le_of_ble_eq_true rfl) ?_
  refine va_putF (D := D) (ci := 10) (v := .ref q_9) (ty := (.array .boolean)) (C := R_MO) (T := T_MO) (N := 36) hx hb hU iw_MO ty_MO ty_MO_ok nm_MO hown hK hP hD hS 0 rfl rfl 21 (by decide) (hU _ uw_744) (fun _ h9 => h9) rfl hnm rfl (by decide +kernel) (by first | rfl | decide +kernel) (by first | rfl | decide +kernel) (Nat.le_of_ble_eq_true rfl) d_MO_init_79 (fun H locs hP hD hS => ?_)
  have hP : va_P D vwCl [(h0, .inr (10, [.int (nI 0), .int (nI 0), .int (nI 0), .int (nI 0), .int (nI 0), .int (nI 0), .ref q_1, .ref q_2, .ref q_3, .ref q_4, .ref q_5, .int (nI 0), .int (nI 0), .int (nI 0), .int (nI 0), .int (nI 0), .int (nI 0), .int (nI 0), .ref q_6, .ref q_7, .ref q_8, .ref q_9, .null, .null, .null, .null, .null, .null, .null, .null, .null, .null, .null, .null, .null, .null])), (q_1, .inl (cI, 600, .inl (fun _ => 0))), (q_2, .inl (cI, 600, .inl (fun _ => 0))), (q_3, .inl (cI, 20, .inl (fun _ => 0))), (q_4, .inl (cI, 20, .inl (fun _ => 0))), (q_5, .inl (cI, 20, .inl (fun _ => 0))), (q_6, .inl (cI, 200, .inl (fun _ => 0))), (q_7, .inl (cI, 200, .inl (fun _ => 0))), (q_8, .inl (cI, 201, .inl (fun _ => 0))), (q_9, .inl (cB, 200, .inl (fun _ => 0)))] H := hP
  have hD : va_D A [(h0, .inr (10, [.int (nI 0), .int (nI 0), .int (nI 0), .int (nI 0), .int (nI 0), .int (nI 0), .ref q_1, .ref q_2, .ref q_3, .ref q_4, .ref q_5, .int (nI 0), .int (nI 0), .int (nI 0), .int (nI 0), .int (nI 0), .int (nI 0), .int (nI 0), .ref q_6, .ref q_7, .ref q_8, .ref q_9, .null, .null, .null, .null, .null, .null, .null, .null, .null, .null, .null, .null, .null, .null])), (q_1, .inl (cI, 600, .inl (fun _ => 0))), (q_2, .inl (cI, 600, .inl (fun _ => 0))), (q_3, .inl (cI, 20, .inl (fun _ => 0))), (q_4, .inl (cI, 20, .inl (fun _ => 0))), (q_5, .inl (cI, 20, .inl (fun _ => 0))), (q_6, .inl (cI, 200, .inl (fun _ => 0))), (q_7, .inl (cI, 200, .inl (fun _ => 0))), (q_8, .inl (cI, 201, .inl (fun _ => 0))), (q_9, .inl (cB, 200, .inl (fun _ => 0)))] := hD
  refine lv_aload_n hx hb d_MO_init_82 rfl (lv_at hl 0 rfl) ?_
  refine lv_bipush (v := nI 16) hx hb d_MO_init_83 (by decide +kernel) ?_
  refine xw_newB (N := 16) hx hb (hU _ uw_115) hK 1 rfl hP hD hS hA (by decide +kernel) (by decide +kernel) (by decide) (Nat.le_of_ble_eq_true rfl) (Nat.le_of_ble_eq_true rfl) d_MO_init_85 (fun q_10 H hP hD hS => ?_)
  have hP : va_P D vwCl [(h0, .inr (10, [.int (nI 0), .int (nI 0), .int (nI 0), .int (nI 0), .int (nI 0), .int (nI 0), .ref q_1, .ref q_2, .ref q_3, .ref q_4, .ref q_5, .int (nI 0), .int (nI 0), .int (nI 0), .int (nI 0), .int (nI 0), .int (nI 0), .int (nI 0), .ref q_6, .ref q_7, .ref q_8, .ref q_9, .null, .null, .null, .null, .null, .null, .null, .null, .null, .null, .null, .null, .null, .null])), (q_1, .inl (cI, 600, .inl (fun _ => 0))), (q_2, .inl (cI, 600, .inl (fun _ => 0))), (q_3, .inl (cI, 20, .inl (fun _ => 0))), (q_4, .inl (cI, 20, .inl (fun _ => 0))), (q_5, .inl (cI, 20, .inl (fun _ => 0))), (q_6, .inl (cI, 200, .inl (fun _ => 0))), (q_7, .inl (cI, 200, .inl (fun _ => 0))), (q_8, .inl (cI, 201, .inl (fun _ => 0))), (q_9, .inl (cB, 200, .inl (fun _ => 0))), (q_10, .inl (cB, 16, .inl (fun _ => 0)))] H := hP
  have hD : va_D A [(h0, .inr (10, [.int (nI 0), .int (nI 0), .int (nI 0), .int (nI 0), .int (nI 0), .int (nI 0), .ref q_1, .ref q_2, .ref q_3, .ref q_4, .ref q_5, .int (nI 0), .int (nI 0), .int (nI 0), .int (nI 0), .int (nI 0), .int (nI 0), .int (nI 0), .ref q_6, .ref q_7, .ref q_8, .ref q_9, .null, .null, .null, .null, .null, .null, .null, .null, .null, .null, .null, .null, .null, .null])), (q_1, .inl (cI, 600, .inl (fun _ => 0))), (q_2, .inl (cI, 600, .inl (fun _ => 0))), (q_3, .inl (cI, 20, .inl (fun _ => 0))), (q_4, .inl (cI, 20, .inl (fun _ => 0))), (q_5, .inl (cI, 20, .inl (fun _ => 0))), (q_6, .inl (cI, 200, .inl (fun _ => 0))), (q_7, .inl (cI, 200, .inl (fun _ => 0))), (q_8, .inl (cI, 201, .inl (fun _ => 0))), (q_9, .inl (cB, 200, .inl (fun _ => 0))), (q_10, .inl (cB, 16, .inl (fun _ => 0)))] := hD
  refine W.widen (k := 10) (n := 2077) (Nat.le_of_ble_eq_true rfl) (Nat.le_of_ble_eq_true rfl) ?_
  refine va_putF (D := D) (ci := 10) (v := .ref q_10) (ty := (.array .boolean)) (C := R_MO) (T := T_MO) (N := 36) hx hb hU iw_MO ty_MO ty_MO_ok nm_MO hown hK hP hD hS 0 rfl rfl 22 (by decide) (hU _ uw_745) (fun _ h9 => h9) rfl hnm rfl (by decide +kernel) (by first | rfl | decide +kernel) (by first | rfl | decide +kernel) (Nat.le_of_ble_eq_true rfl) d_MO_init_87 (fun H locs hP hD hS => ?_)
  have hP : va_P D vwCl [(h0, .inr (10, [.int (nI 0), .int (nI 0), .int (nI 0), .int (nI 0), .int (nI 0), .int (nI 0), .ref q_1, .ref q_2, .ref q_3, .ref q_4, .ref q_5, .int (nI 0), .int (nI 0), .int (nI 0), .int (nI 0), .int (nI 0), .int (nI 0), .int (nI 0), .ref q_6, .ref q_7, .ref q_8, .ref q_9, .ref q_10, .null, .null, .null, .null, .null, .null, .null, .null, .null, .null, .null, .null, .null])), (q_1, .inl (cI, 600, .inl (fun _ => 0))), (q_2, .inl (cI, 600, .inl (fun _ => 0))), (q_3, .inl (cI, 20, .inl (fun _ => 0))), (q_4, .inl (cI, 20, .inl (fun _ => 0))), (q_5, .inl (cI, 20, .inl (fun _ => 0))), (q_6, .inl (cI, 200, .inl (fun _ => 0))), (q_7, .inl (cI, 200, .inl (fun _ => 0))), (q_8, .inl (cI, 201, .inl (fun _ => 0))), (q_9, .inl (cB, 200, .inl (fun _ => 0))), (q_10, .inl (cB, 16, .inl (fun _ => 0)))] H := hP
  have hD : va_D A [(h0, .inr (10, [.int (nI 0), .int (nI 0), .int (nI 0), .int (nI 0), .int (nI 0), .int (nI 0), .ref q_1, .ref q_2, .ref q_3, .ref q_4, .ref q_5, .int (nI 0), .int (nI 0), .int (nI 0), .int (nI 0), .int (nI 0), .int (nI 0), .int (nI 0), .ref q_6, .ref q_7, .ref q_8, .ref q_9, .ref q_10, .null, .null, .null, .null, .null, .null, .null, .null, .null, .null, .null, .null, .null])), (q_1, .inl (cI, 600, .inl (fun _ => 0))), (q_2, .inl (cI, 600, .inl (fun _ => 0))), (q_3, .inl (cI, 20, .inl (fun _ => 0))), (q_4, .inl (cI, 20, .inl (fun _ => 0))), (q_5, .inl (cI, 20, .inl (fun _ => 0))), (q_6, .inl (cI, 200, .inl (fun _ => 0))), (q_7, .inl (cI, 200, .inl (fun _ => 0))), (q_8, .inl (cI, 201, .inl (fun _ => 0))), (q_9, .inl (cB, 200, .inl (fun _ => 0))), (q_10, .inl (cB, 16, .inl (fun _ => 0)))] := hD
  refine lv_aload_n hx hb d_MO_init_90 rfl (lv_at hl 0 rfl) ?_
  refine lv_bipush (v := nI 16) hx hb d_MO_init_91 (by decide +kernel) ?_
  refine xw_newB (N := 16) hx hb (hU _ uw_115) hK 1 rfl hP hD hS hA (by decide +kernel) (by decide +kernel) (by decide) (Nat.le_of_ble_eq_true rfl) (Nat.le_of_ble_eq_true rfl) d_MO_init_93 (fun q_11 H hP hD hS => ?_)
  have hP : va_P D vwCl [(h0, .inr (10, [.int (nI 0), .int (nI 0), .int (nI 0), .int (nI 0), .int (nI 0), .int (nI 0), .ref q_1, .ref q_2, .ref q_3, .ref q_4, .ref q_5, .int (nI 0), .int (nI 0), .int (nI 0), .int (nI 0), .int (nI 0), .int (nI 0), .int (nI 0), .ref q_6, .ref q_7, .ref q_8, .ref q_9, .ref q_10, .null, .null, .null, .null, .null, .null, .null, .null, .null, .null, .null, .null, .null])), (q_1, .inl (cI, 600, .inl (fun _ => 0))), (q_2, .inl (cI, 600, .inl (fun _ => 0))), (q_3, .inl (cI, 20, .inl (fun _ => 0))), (q_4, .inl (cI, 20, .inl (fun _ => 0))), (q_5, .inl (cI, 20, .inl (fun _ => 0))), (q_6, .inl (cI, 200, .inl (fun _ => 0))), (q_7, .inl (cI, 200, .inl (fun _ => 0))), (q_8, .inl (cI, 201, .inl (fun _ => 0))), (q_9, .inl (cB, 200, .inl (fun _ => 0))), (q_10, .inl (cB, 16, .inl (fun _ => 0))), (q_11, .inl (cB, 16, .inl (fun _ => 0)))] H := hP
  have hD : va_D A [(h0, .inr (10, [.int (nI 0), .int (nI 0), .int (nI 0), .int (nI 0), .int (nI 0), .int (nI 0), .ref q_1, .ref q_2, .ref q_3, .ref q_4, .ref q_5, .int (nI 0), .int (nI 0), .int (nI 0), .int (nI 0), .int (nI 0), .int (nI 0), .int (nI 0), .ref q_6, .ref q_7, .ref q_8, .ref q_9, .ref q_10, .null, .null, .null, .null, .null, .null, .null, .null, .null, .null, .null, .null, .null])), (q_1, .inl (cI, 600, .inl (fun _ => 0))), (q_2, .inl (cI, 600, .inl (fun _ => 0))), (q_3, .inl (cI, 20, .inl (fun _ => 0))), (q_4, .inl (cI, 20, .inl (fun _ => 0))), (q_5, .inl (cI, 20, .inl (fun _ => 0))), (q_6, .inl (cI, 200, .inl (fun _ => 0))), (q_7, .inl (cI, 200, .inl (fun _ => 0))), (q_8, .inl (cI, 201, .inl (fun _ => 0))), (q_9, .inl (cB, 200, .inl (fun _ => 0))), (q_10, .inl (cB, 16, .inl (fun _ => 0))), (q_11, .inl (cB, 16, .inl (fun _ => 0)))] := hD
  refine W.widen (k := 11) (n := 2093) (Nat.le_of_ble_eq_true rfl) (Nat.le_of_ble_eq_true rfl) ?_
  refine va_putF (D := D) (ci := 10) (v := .ref q_11) (ty := (.array .boolean)) (C := R_MO) (T := T_MO) (N := 36) hx hb hU iw_MO ty_MO ty_MO_ok nm_MO hown hK hP hD hS 0 rfl rfl 23 (by decide) (hU _ uw_746) (fun _ h9 => h9) rfl hnm rfl (by decide +kernel) (by first | rfl | decide +kernel) (by first | rfl | decide +kernel) (Nat.le_of_ble_eq_true rfl) d_MO_init_95 (fun H locs hP hD hS => ?_)
  have hP : va_P D vwCl [(h0, .inr (10, [.int (nI 0), .int (nI 0), .int (nI 0), .int (nI 0), .int (nI 0), .int (nI 0), .ref q_1, .ref q_2, .ref q_3, .ref q_4, .ref q_5, .int (nI 0), .int (nI 0), .int (nI 0), .int (nI 0), .int (nI 0), .int (nI 0), .int (nI 0), .ref q_6, .ref q_7, .ref q_8, .ref q_9, .ref q_10, .ref q_11, .null, .null, .null, .null, .null, .null, .null, .null, .null, .null, .null, .null])), (q_1, .inl (cI, 600, .inl (fun _ => 0))), (q_2, .inl (cI, 600, .inl (fun _ => 0))), (q_3, .inl (cI, 20, .inl (fun _ => 0))), (q_4, .inl (cI, 20, .inl (fun _ => 0))), (q_5, .inl (cI, 20, .inl (fun _ => 0))), (q_6, .inl (cI, 200, .inl (fun _ => 0))), (q_7, .inl (cI, 200, .inl (fun _ => 0))), (q_8, .inl (cI, 201, .inl (fun _ => 0))), (q_9, .inl (cB, 200, .inl (fun _ => 0))), (q_10, .inl (cB, 16, .inl (fun _ => 0))), (q_11, .inl (cB, 16, .inl (fun _ => 0)))] H := hP
  have hD : va_D A [(h0, .inr (10, [.int (nI 0), .int (nI 0), .int (nI 0), .int (nI 0), .int (nI 0), .int (nI 0), .ref q_1, .ref q_2, .ref q_3, .ref q_4, .ref q_5, .int (nI 0), .int (nI 0), .int (nI 0), .int (nI 0), .int (nI 0), .int (nI 0), .int (nI 0), .ref q_6, .ref q_7, .ref q_8, .ref q_9, .ref q_10, .ref q_11, .null, .null, .null, .null, .null, .null, .null, .null, .null, .null, .null, .null])), (q_1, .inl (cI, 600, .inl (fun _ => 0))), (q_2, .inl (cI, 600, .inl (fun _ => 0))), (q_3, .inl (cI, 20, .inl (fun _ => 0))), (q_4, .inl (cI, 20, .inl (fun _ => 0))), (q_5, .inl (cI, 20, .inl (fun _ => 0))), (q_6, .inl (cI, 200, .inl (fun _ => 0))), (q_7, .inl (cI, 200, .inl (fun _ => 0))), (q_8, .inl (cI, 201, .inl (fun _ => 0))), (q_9, .inl (cB, 200, .inl (fun _ => 0))), (q_10, .inl (cB, 16, .inl (fun _ => 0))), (q_11, .inl (cB, 16, .inl (fun _ => 0)))] := hD
  refine lv_aload_n hx hb d_MO_init_98 rfl (lv_at hl 0 rfl) ?_
  refine lv_bipush (v := nI 16) hx hb d_MO_init_99 (by decide +kernel) ?_
  refine xw_newI (N := 16) hx hb (hU _ uw_64) hK 0 rfl hP hD hS hA (by decide +kernel) (by decide +kernel) (by decide) (Nat.le_of_ble_eq_true rfl) (Nat.le_of_ble_eq_true rfl) d_MO_init_101 (fun q_12 H hP hD hS => ?_)
  have hP : va_P D vwCl [(h0, .inr (10, [.int (nI 0), .int (nI 0), .int (nI 0), .int (nI 0), .int (nI 0), .int (nI 0), .ref q_1, .ref q_2, .ref q_3, .ref q_4, .ref q_5, .int (nI 0), .int (nI 0), .int (nI 0), .int (nI 0), .int (nI 0), .int (nI 0), .int (nI 0), .ref q_6, .ref q_7, .ref q_8, .ref q_9, .ref q_10, .ref q_11, .null, .null, .null, .null, .null, .null, .null, .null, .null, .null, .null, .null])), (q_1, .inl (cI, 600, .inl (fun _ => 0))), (q_2, .inl (cI, 600, .inl (fun _ => 0))), (q_3, .inl (cI, 20, .inl (fun _ => 0))), (q_4, .inl (cI, 20, .inl (fun _ => 0))), (q_5, .inl (cI, 20, .inl (fun _ => 0))), (q_6, .inl (cI, 200, .inl (fun _ => 0))), (q_7, .inl (cI, 200, .inl (fun _ => 0))), (q_8, .inl (cI, 201, .inl (fun _ => 0))), (q_9, .inl (cB, 200, .inl (fun _ => 0))), (q_10, .inl (cB, 16, .inl (fun _ => 0))), (q_11, .inl (cB, 16, .inl (fun _ => 0))), (q_12, .inl (cI, 16, .inl (fun _ => 0)))] H := hP
  have hD : va_D A [(h0, .inr (10, [.int (nI 0), .int (nI 0), .int (nI 0), .int (nI 0), .int (nI 0), .int (nI 0), .ref q_1, .ref q_2, .ref q_3, .ref q_4, .ref q_5, .int (nI 0), .int (nI 0), .int (nI 0), .int (nI 0), .int (nI 0), .int (nI 0), .int (nI 0), .ref q_6, .ref q_7, .ref q_8, .ref q_9, .ref q_10, .ref q_11, .null, .null, .null, .null, .null, .null, .null, .null, .null, .null, .null, .null])), (q_1, .inl (cI, 600, .inl (fun _ => 0))), (q_2, .inl (cI, 600, .inl (fun _ => 0))), (q_3, .inl (cI, 20, .inl (fun _ => 0))), (q_4, .inl (cI, 20, .inl (fun _ => 0))), (q_5, .inl (cI, 20, .inl (fun _ => 0))), (q_6, .inl (cI, 200, .inl (fun _ => 0))), (q_7, .inl (cI, 200, .inl (fun _ => 0))), (q_8, .inl (cI, 201, .inl (fun _ => 0))), (q_9, .inl (cB, 200, .inl (fun _ => 0))), (q_10, .inl (cB, 16, .inl (fun _ => 0))), (q_11, .inl (cB, 16, .inl (fun _ => 0))), (q_12, .inl (cI, 16, .inl (fun _ => 0)))] := hD
  refine W.widen (k := 12) (n := 2109) (Nat.le_of_ble_eq_true rfl) (Nat.le_of_ble_eq_true rfl) ?_
  refine va_putF (D := D) (ci := 10) (v := .ref q_12) (ty := (.array .int)) (C := R_MO) (T := T_MO) (N := 36) hx hb hU iw_MO ty_MO ty_MO_ok nm_MO hown hK hP hD hS 0 rfl rfl 24 (by decide) (hU _ uw_747) (fun _ h9 => h9) rfl hnm rfl (by decide +kernel) (by first | rfl | decide +kernel) (by first | rfl | decide +kernel) (Nat.le_of_ble_eq_true rfl) d_MO_init_103 (fun H locs hP hD hS => ?_)
  have hP : va_P D vwCl [(h0, .inr (10, [.int (nI 0), .int (nI 0), .int (nI 0), .int (nI 0), .int (nI 0), .int (nI 0), .ref q_1, .ref q_2, .ref q_3, .ref q_4, .ref q_5, .int (nI 0), .int (nI 0), .int (nI 0), .int (nI 0), .int (nI 0), .int (nI 0), .int (nI 0), .ref q_6, .ref q_7, .ref q_8, .ref q_9, .ref q_10, .ref q_11, .ref q_12, .null, .null, .null, .null, .null, .null, .null, .null, .null, .null, .null])), (q_1, .inl (cI, 600, .inl (fun _ => 0))), (q_2, .inl (cI, 600, .inl (fun _ => 0))), (q_3, .inl (cI, 20, .inl (fun _ => 0))), (q_4, .inl (cI, 20, .inl (fun _ => 0))), (q_5, .inl (cI, 20, .inl (fun _ => 0))), (q_6, .inl (cI, 200, .inl (fun _ => 0))), (q_7, .inl (cI, 200, .inl (fun _ => 0))), (q_8, .inl (cI, 201, .inl (fun _ => 0))), (q_9, .inl (cB, 200, .inl (fun _ => 0))), (q_10, .inl (cB, 16, .inl (fun _ => 0))), (q_11, .inl (cB, 16, .inl (fun _ => 0))), (q_12, .inl (cI, 16, .inl (fun _ => 0)))] H := hP
  have hD : va_D A [(h0, .inr (10, [.int (nI 0), .int (nI 0), .int (nI 0), .int (nI 0), .int (nI 0), .int (nI 0), .ref q_1, .ref q_2, .ref q_3, .ref q_4, .ref q_5, .int (nI 0), .int (nI 0), .int (nI 0), .int (nI 0), .int (nI 0), .int (nI 0), .int (nI 0), .ref q_6, .ref q_7, .ref q_8, .ref q_9, .ref q_10, .ref q_11, .ref q_12, .null, .null, .null, .null, .null, .null, .null, .null, .null, .null, .null])), (q_1, .inl (cI, 600, .inl (fun _ => 0))), (q_2, .inl (cI, 600, .inl (fun _ => 0))), (q_3, .inl (cI, 20, .inl (fun _ => 0))), (q_4, .inl (cI, 20, .inl (fun _ => 0))), (q_5, .inl (cI, 20, .inl (fun _ => 0))), (q_6, .inl (cI, 200, .inl (fun _ => 0))), (q_7, .inl (cI, 200, .inl (fun _ => 0))), (q_8, .inl (cI, 201, .inl (fun _ => 0))), (q_9, .inl (cB, 200, .inl (fun _ => 0))), (q_10, .inl (cB, 16, .inl (fun _ => 0))), (q_11, .inl (cB, 16, .inl (fun _ => 0))), (q_12, .inl (cI, 16, .inl (fun _ => 0)))] := hD
  refine lv_aload_n hx hb d_MO_init_106 rfl (lv_at hl 0 rfl) ?_
  refine lv_bipush (v := nI 16) hx hb d_MO_init_107 (by decide +kernel) ?_
  refine xw_newI (N := 16) hx hb (hU _ uw_64) hK 0 rfl hP hD hS hA (by decide +kernel) (by decide +kernel) (by decide) (Nat.le_of_ble_eq_true rfl) (Nat.le_of_ble_eq_true rfl) d_MO_init_109 (fun q_13 H hP hD hS => ?_)
  have hP : va_P D vwCl [(h0, .inr (10, [.int (nI 0), .int (nI 0), .int (nI 0), .int (nI 0), .int (nI 0), .int (nI 0), .ref q_1, .ref q_2, .ref q_3, .ref q_4, .ref q_5, .int (nI 0), .int (nI 0), .int (nI 0), .int (nI 0), .int (nI 0), .int (nI 0), .int (nI 0), .ref q_6, .ref q_7, .ref q_8, .ref q_9, .ref q_10, .ref q_11, .ref q_12, .null, .null, .null, .null, .null, .null, .null, .null, .null, .null, .null])), (q_1, .inl (cI, 600, .inl (fun _ => 0))), (q_2, .inl (cI, 600, .inl (fun _ => 0))), (q_3, .inl (cI, 20, .inl (fun _ => 0))), (q_4, .inl (cI, 20, .inl (fun _ => 0))), (q_5, .inl (cI, 20, .inl (fun _ => 0))), (q_6, .inl (cI, 200, .inl (fun _ => 0))), (q_7, .inl (cI, 200, .inl (fun _ => 0))), (q_8, .inl (cI, 201, .inl (fun _ => 0))), (q_9, .inl (cB, 200, .inl (fun _ => 0))), (q_10, .inl (cB, 16, .inl (fun _ => 0))), (q_11, .inl (cB, 16, .inl (fun _ => 0))), (q_12, .inl (cI, 16, .inl (fun _ => 0))), (q_13, .inl (cI, 16, .inl (fun _ => 0)))] H := hP
  have hD : va_D A [(h0, .inr (10, [.int (nI 0), .int (nI 0), .int (nI 0), .int (nI 0), .int (nI 0), .int (nI 0), .ref q_1, .ref q_2, .ref q_3, .ref q_4, .ref q_5, .int (nI 0), .int (nI 0), .int (nI 0), .int (nI 0), .int (nI 0), .int (nI 0), .int (nI 0), .ref q_6, .ref q_7, .ref q_8, .ref q_9, .ref q_10, .ref q_11, .ref q_12, .null, .null, .null, .null, .null, .null, .null, .null, .null, .null, .null])), (q_1, .inl (cI, 600, .inl (fun _ => 0))), (q_2, .inl (cI, 600, .inl (fun _ => 0))), (q_3, .inl (cI, 20, .inl (fun _ => 0))), (q_4, .inl (cI, 20, .inl (fun _ => 0))), (q_5, .inl (cI, 20, .inl (fun _ => 0))), (q_6, .inl (cI, 200, .inl (fun _ => 0))), (q_7, .inl (cI, 200, .inl (fun _ => 0))), (q_8, .inl (cI, 201, .inl (fun _ => 0))), (q_9, .inl (cB, 200, .inl (fun _ => 0))), (q_10, .inl (cB, 16, .inl (fun _ => 0))), (q_11, .inl (cB, 16, .inl (fun _ => 0))), (q_12, .inl (cI, 16, .inl (fun _ => 0))), (q_13, .inl (cI, 16, .inl (fun _ => 0)))] := hD
  refine W.widen (k := 13) (n := 2125) (Nat.le_of_ble_eq_true rfl) (Nat.le_of_ble_eq_true rfl) ?_
  refine va_putF (D := D) (ci := 10) (v := .ref q_13) (ty := (.array .int)) (C := R_MO) (T := T_MO) (N := 36) hx hb hU iw_MO ty_MO ty_MO_ok nm_MO hown hK hP hD hS 0 rfl rfl 25 (by decide) (hU _ uw_748) (fun _ h9 => h9) rfl hnm rfl (by decide +kernel) (by first | rfl | decide +kernel) (by first | rfl | decide +kernel) (Nat.le_of_ble_eq_true rfl) d_MO_init_111 (fun H locs hP hD hS => ?_)
  have hP : va_P D vwCl [(h0, .inr (10, [.int (nI 0), .int (nI 0), .int (nI 0), .int (nI 0), .int (nI 0), .int (nI 0), .ref q_1, .ref q_2, .ref q_3, .ref q_4, .ref q_5, .int (nI 0), .int (nI 0), .int (nI 0), .int (nI 0), .int (nI 0), .int (nI 0), .int (nI 0), .ref q_6, .ref q_7, .ref q_8, .ref q_9, .ref q_10, .ref q_11, .ref q_12, .ref q_13, .null, .null, .null, .null, .null, .null, .null, .null, .null, .null])), (q_1, .inl (cI, 600, .inl (fun _ => 0))), (q_2, .inl (cI, 600, .inl (fun _ => 0))), (q_3, .inl (cI, 20, .inl (fun _ => 0))), (q_4, .inl (cI, 20, .inl (fun _ => 0))), (q_5, .inl (cI, 20, .inl (fun _ => 0))), (q_6, .inl (cI, 200, .inl (fun _ => 0))), (q_7, .inl (cI, 200, .inl (fun _ => 0))), (q_8, .inl (cI, 201, .inl (fun _ => 0))), (q_9, .inl (cB, 200, .inl (fun _ => 0))), (q_10, .inl (cB, 16, .inl (fun _ => 0))), (q_11, .inl (cB, 16, .inl (fun _ => 0))), (q_12, .inl (cI, 16, .inl (fun _ => 0))), (q_13, .inl (cI, 16, .inl (fun _ => 0)))] H := hP
  have hD : va_D A [(h0, .inr (10, [.int (nI 0), .int (nI 0), .int (nI 0), .int (nI 0), .int (nI 0), .int (nI 0), .ref q_1, .ref q_2, .ref q_3, .ref q_4, .ref q_5, .int (nI 0), .int (nI 0), .int (nI 0), .int (nI 0), .int (nI 0), .int (nI 0), .int (nI 0), .ref q_6, .ref q_7, .ref q_8, .ref q_9, .ref q_10, .ref q_11, .ref q_12, .ref q_13, .null, .null, .null, .null, .null, .null, .null, .null, .null, .null])), (q_1, .inl (cI, 600, .inl (fun _ => 0))), (q_2, .inl (cI, 600, .inl (fun _ => 0))), (q_3, .inl (cI, 20, .inl (fun _ => 0))), (q_4, .inl (cI, 20, .inl (fun _ => 0))), (q_5, .inl (cI, 20, .inl (fun _ => 0))), (q_6, .inl (cI, 200, .inl (fun _ => 0))), (q_7, .inl (cI, 200, .inl (fun _ => 0))), (q_8, .inl (cI, 201, .inl (fun _ => 0))), (q_9, .inl (cB, 200, .inl (fun _ => 0))), (q_10, .inl (cB, 16, .inl (fun _ => 0))), (q_11, .inl (cB, 16, .inl (fun _ => 0))), (q_12, .inl (cI, 16, .inl (fun _ => 0))), (q_13, .inl (cI, 16, .inl (fun _ => 0)))] := hD
  refine lv_aload_n hx hb d_MO_init_114 rfl (lv_at hl 0 rfl) ?_
  refine lv_bipush (v := nI 16) hx hb d_MO_init_115 (by decide +kernel) ?_
  refine xw_newI (N := 16) hx hb (hU _ uw_64) hK 0 rfl hP hD hS hA (by decide +kernel) (by decide +kernel) (by decide) (Nat.le_of_ble_eq_true rfl) (Nat.le_of_ble_eq_true rfl) d_MO_init_117 (fun q_14 H hP hD hS => ?_)
  have hP : va_P D vwCl [(h0, .inr (10, [.int (nI 0), .int (nI 0), .int (nI 0), .int (nI 0), .int (nI 0), .int (nI 0), .ref q_1, .ref q_2, .ref q_3, .ref q_4, .ref q_5, .int (nI 0), .int (nI 0), .int (nI 0), .int (nI 0), .int (nI 0), .int (nI 0), .int (nI 0), .ref q_6, .ref q_7, .ref q_8, .ref q_9, .ref q_10, .ref q_11, .ref q_12, .ref q_13, .null, .null, .null, .null, .null, .null, .null, .null, .null, .null])), (q_1, .inl (cI, 600, .inl (fun _ => 0))), (q_2, .inl (cI, 600, .inl (fun _ => 0))), (q_3, .inl (cI, 20, .inl (fun _ => 0))), (q_4, .inl (cI, 20, .inl (fun _ => 0))), (q_5, .inl (cI, 20, .inl (fun _ => 0))), (q_6, .inl (cI, 200, .inl (fun _ => 0))), (q_7, .inl (cI, 200, .inl (fun _ => 0))), (q_8, .inl (cI, 201, .inl (fun _ => 0))), (q_9, .inl (cB, 200, .inl (fun _ => 0))), (q_10, .inl (cB, 16, .inl (fun _ => 0))), (q_11, .inl (cB, 16, .inl (fun _ => 0))), (q_12, .inl (cI, 16, .inl (fun _ => 0))), (q_13, .inl (cI, 16, .inl (fun _ => 0))), (q_14, .inl (cI, 16, .inl (fun _ => 0)))] H := hP
  have hD : va_D A [(h0, .inr (10, [.int (nI 0), .int (nI 0), .int (nI 0), .int (nI 0), .int (nI 0), .int (nI 0), .ref q_1, .ref q_2, .ref q_3, .ref q_4, .ref q_5, .int (nI 0), .int (nI 0), .int (nI 0), .int (nI 0), .int (nI 0), .int (nI 0), .int (nI 0), .ref q_6, .ref q_7, .ref q_8, .ref q_9, .ref q_10, .ref q_11, .ref q_12, .ref q_13, .null, .null, .null, .null, .null, .null, .null, .null, .null, .null])), (q_1, .inl (cI, 600, .inl (fun _ => 0))), (q_2, .inl (cI, 600, .inl (fun _ => 0))), (q_3, .inl (cI, 20, .inl (fun _ => 0))), (q_4, .inl (cI, 20, .inl (fun _ => 0))), (q_5, .inl (cI, 20, .inl (fun _ => 0))), (q_6, .inl (cI, 200, .inl (fun _ => 0))), (q_7, .inl (cI, 200, .inl (fun _ => 0))), (q_8, .inl (cI, 201, .inl (fun _ => 0))), (q_9, .inl (cB, 200, .inl (fun _ => 0))), (q_10, .inl (cB, 16, .inl (fun _ => 0))), (q_11, .inl (cB, 16, .inl (fun _ => 0))), (q_12, .inl (cI, 16, .inl (fun _ => 0))), (q_13, .inl (cI, 16, .inl (fun _ => 0))), (q_14, .inl (cI, 16, .inl (fun _ => 0)))] := hD
  refine W.widen (k := 14) (n := 2141) (Nat.le_of_ble_eq_true rfl) (Nat.le_of_ble_eq_true rfl) ?_
  refine va_putF (D := D) (ci := 10) (v := .ref q_14) (ty := (.array .int)) (C := R_MO) (T := T_MO) (N := 36) hx hb hU iw_MO ty_MO ty_MO_ok nm_MO hown hK hP hD hS 0 rfl rfl 26 (by decide) (hU _ uw_749) (fun _ h9 => h9) rfl hnm rfl (by decide +kernel) (by first | rfl | decide +kernel) (by first | rfl | decide +kernel) (Nat.le_of_ble_eq_true rfl) d_MO_init_119 (fun H locs hP hD hS => ?_)
  have hP : va_P D vwCl [(h0, .inr (10, [.int (nI 0), .int (nI 0), .int (nI 0), .int (nI 0), .int (nI 0), .int (nI 0), .ref q_1, .ref q_2, .ref q_3, .ref q_4, .ref q_5, .int (nI 0), .int (nI 0), .int (nI 0), .int (nI 0), .int (nI 0), .int (nI 0), .int (nI 0), .ref q_6, .ref q_7, .ref q_8, .ref q_9, .ref q_10, .ref q_11, .ref q_12, .ref q_13, .ref q_14, .null, .null, .null, .null, .null, .null, .null, .null, .null])), (q_1, .inl (cI, 600, .inl (fun _ => 0))), (q_2, .inl (cI, 600, .inl (fun _ => 0))), (q_3, .inl (cI, 20, .inl (fun _ => 0))), (q_4, .inl (cI, 20, .inl (fun _ => 0))), (q_5, .inl (cI, 20, .inl (fun _ => 0))), (q_6, .inl (cI, 200, .inl (fun _ => 0))), (q_7, .inl (cI, 200, .inl (fun _ => 0))), (q_8, .inl (cI, 201, .inl (fun _ => 0))), (q_9, .inl (cB, 200, .inl (fun _ => 0))), (q_10, .inl (cB, 16, .inl (fun _ => 0))), (q_11, .inl (cB, 16, .inl (fun _ => 0))), (q_12, .inl (cI, 16, .inl (fun _ => 0))), (q_13, .inl (cI, 16, .inl (fun _ => 0))), (q_14, .inl (cI, 16, .inl (fun _ => 0)))] H := hP
  have hD : va_D A [(h0, .inr (10, [.int (nI 0), .int (nI 0), .int (nI 0), .int (nI 0), .int (nI 0), .int (nI 0), .ref q_1, .ref q_2, .ref q_3, .ref q_4, .ref q_5, .int (nI 0), .int (nI 0), .int (nI 0), .int (nI 0), .int (nI 0), .int (nI 0), .int (nI 0), .ref q_6, .ref q_7, .ref q_8, .ref q_9, .ref q_10, .ref q_11, .ref q_12, .ref q_13, .ref q_14, .null, .null, .null, .null, .null, .null, .null, .null, .null])), (q_1, .inl (cI, 600, .inl (fun _ => 0))), (q_2, .inl (cI, 600, .inl (fun _ => 0))), (q_3, .inl (cI, 20, .inl (fun _ => 0))), (q_4, .inl (cI, 20, .inl (fun _ => 0))), (q_5, .inl (cI, 20, .inl (fun _ => 0))), (q_6, .inl (cI, 200, .inl (fun _ => 0))), (q_7, .inl (cI, 200, .inl (fun _ => 0))), (q_8, .inl (cI, 201, .inl (fun _ => 0))), (q_9, .inl (cB, 200, .inl (fun _ => 0))), (q_10, .inl (cB, 16, .inl (fun _ => 0))), (q_11, .inl (cB, 16, .inl (fun _ => 0))), (q_12, .inl (cI, 16, .inl (fun _ => 0))), (q_13, .inl (cI, 16, .inl (fun _ => 0))), (q_14, .inl (cI, 16, .inl (fun _ => 0)))] := hD
  refine lv_aload_n hx hb d_MO_init_122 rfl (lv_at hl 0 rfl) ?_
  refine lv_bipush (v := nI 16) hx hb d_MO_init_123 (by decide +kernel) ?_
  refine xw_newI (N := 16) hx hb (hU _ uw_64) hK 0 rfl hP hD hS hA (by decide +kernel) (by decide +kernel) (by decide) (Nat.le_of_ble_eq_true rfl) (Nat.le_of_ble_eq_true rfl) d_MO_init_125 (fun q_15 H hP hD hS => ?_)
  have hP : va_P D vwCl [(h0, .inr (10, [.int (nI 0), .int (nI 0), .int (nI 0), .int (nI 0), .int (nI 0), .int (nI 0), .ref q_1, .ref q_2, .ref q_3, .ref q_4, .ref q_5, .int (nI 0), .int (nI 0), .int (nI 0), .int (nI 0), .int (nI 0), .int (nI 0), .int (nI 0), .ref q_6, .ref q_7, .ref q_8, .ref q_9, .ref q_10, .ref q_11, .ref q_12, .ref q_13, .ref q_14, .null, .null, .null, .null, .null, .null, .null, .null, .null])), (q_1, .inl (cI, 600, .inl (fun _ => 0))), (q_2, .inl (cI, 600, .inl (fun _ => 0))), (q_3, .inl (cI, 20, .inl (fun _ => 0))), (q_4, .inl (cI, 20, .inl (fun _ => 0))), (q_5, .inl (cI, 20, .inl (fun _ => 0))), (q_6, .inl (cI, 200, .inl (fun _ => 0))), (q_7, .inl (cI, 200, .inl (fun _ => 0))), (q_8, .inl (cI, 201, .inl (fun _ => 0))), (q_9, .inl (cB, 200, .inl (fun _ => 0))), (q_10, .inl (cB, 16, .inl (fun _ => 0))), (q_11, .inl (cB, 16, .inl (fun _ => 0))), (q_12, .inl (cI, 16, .inl (fun _ => 0))), (q_13, .inl (cI, 16, .inl (fun _ => 0))), (q_14, .inl (cI, 16, .inl (fun _ => 0))), (q_15, .inl (cI, 16, .inl (fun _ => 0)))] H := hP
  have hD : va_D A [(h0, .inr (10, [.int (nI 0), .int (nI 0), .int (nI 0), .int (nI 0), .int (nI 0), .int (nI 0), .ref q_1, .ref q_2, .ref q_3, .ref q_4, .ref q_5, .int (nI 0), .int (nI 0), .int (nI 0), .int (nI 0), .int (nI 0), .int (nI 0), .int (nI 0), .ref q_6, .ref q_7, .ref q_8, .ref q_9, .ref q_10, .ref q_11, .ref q_12, .ref q_13, .ref q_14, .null, .null, .null, .null, .null, .null, .null, .null, .null])), (q_1, .inl (cI, 600, .inl (fun _ => 0))), (q_2, .inl (cI, 600, .inl (fun _ => 0))), (q_3, .inl (cI, 20, .inl (fun _ => 0))), (q_4, .inl (cI, 20, .inl (fun _ => 0))), (q_5, .inl (cI, 20, .inl (fun _ => 0))), (q_6, .inl (cI, 200, .inl (fun _ => 0))), (q_7, .inl (cI, 200, .inl (fun _ => 0))), (q_8, .inl (cI, 201, .inl (fun _ => 0))), (q_9, .inl (cB, 200, .inl (fun _ => 0))), (q_10, .inl (cB, 16, .inl (fun _ => 0))), (q_11, .inl (cB, 16, .inl (fun _ => 0))), (q_12, .inl (cI, 16, .inl (fun _ => 0))), (q_13, .inl (cI, 16, .inl (fun _ => 0))), (q_14, .inl (cI, 16, .inl (fun _ => 0))), (q_15, .inl (cI, 16, .inl (fun _ => 0)))] := hD
  refine W.widen (k := 15) (n := 2157) (Nat.le_of_ble_eq_true rfl) (Nat.le_of_ble_eq_true rfl) ?_
  refine va_putF (D := D) (ci := 10) (v := .ref q_15) (ty := (.array .int)) (C := R_MO) (T := T_MO) (N := 36) hx hb hU iw_MO ty_MO ty_MO_ok nm_MO hown hK hP hD hS 0 rfl rfl 27 (by decide) (hU _ uw_750) (fun _ h9 => h9) rfl hnm rfl (by decide +kernel) (by first | rfl | decide +kernel) (by first | rfl | decide +kernel) (Nat.le_of_ble_eq_true rfl) d_MO_init_127 (fun H locs hP hD hS => ?_)
  have hP : va_P D vwCl [(h0, .inr (10, [.int (nI 0), .int (nI 0), .int (nI 0), .int (nI 0), .int (nI 0), .int (nI 0), .ref q_1, .ref q_2, .ref q_3, .ref q_4, .ref q_5, .int (nI 0), .int (nI 0), .int (nI 0), .int (nI 0), .int (nI 0), .int (nI 0), .int (nI 0), .ref q_6, .ref q_7, .ref q_8, .ref q_9, .ref q_10, .ref q_11, .ref q_12, .ref q_13, .ref q_14, .ref q_15, .null, .null, .null, .null, .null, .null, .null, .null])), (q_1, .inl (cI, 600, .inl (fun _ => 0))), (q_2, .inl (cI, 600, .inl (fun _ => 0))), (q_3, .inl (cI, 20, .inl (fun _ => 0))), (q_4, .inl (cI, 20, .inl (fun _ => 0))), (q_5, .inl (cI, 20, .inl (fun _ => 0))), (q_6, .inl (cI, 200, .inl (fun _ => 0))), (q_7, .inl (cI, 200, .inl (fun _ => 0))), (q_8, .inl (cI, 201, .inl (fun _ => 0))), (q_9, .inl (cB, 200, .inl (fun _ => 0))), (q_10, .inl (cB, 16, .inl (fun _ => 0))), (q_11, .inl (cB, 16, .inl (fun _ => 0))), (q_12, .inl (cI, 16, .inl (fun _ => 0))), (q_13, .inl (cI, 16, .inl (fun _ => 0))), (q_14, .inl (cI, 16, .inl (fun _ => 0))), (q_15, .inl (cI, 16, .inl (fun _ => 0)))] H := hP
  have hD : va_D A [(h0, .inr (10, [.int (nI 0), .int (nI 0), .int (nI 0), .int (nI 0), .int (nI 0), .int (nI 0), .ref q_1, .ref q_2, .ref q_3, .ref q_4, .ref q_5, .int (nI 0), .int (nI 0), .int (nI 0), .int (nI 0), .int (nI 0), .int (nI 0), .int (nI 0), .ref q_6, .ref q_7, .ref q_8, .ref q_9, .ref q_10, .ref q_11, .ref q_12, .ref q_13, .ref q_14, .ref q_15, .null, .null, .null, .null, .null, .null, .null, .null])), (q_1, .inl (cI, 600, .inl (fun _ => 0))), (q_2, .inl (cI, 600, .inl (fun _ => 0))), (q_3, .inl (cI, 20, .inl (fun _ => 0))), (q_4, .inl (cI, 20, .inl (fun _ => 0))), (q_5, .inl (cI, 20, .inl (fun _ => 0))), (q_6, .inl (cI, 200, .inl (fun _ => 0))), (q_7, .inl (cI, 200, .inl (fun _ => 0))), (q_8, .inl (cI, 201, .inl (fun _ => 0))), (q_9, .inl (cB, 200, .inl (fun _ => 0))), (q_10, .inl (cB, 16, .inl (fun _ => 0))), (q_11, .inl (cB, 16, .inl (fun _ => 0))), (q_12, .inl (cI, 16, .inl (fun _ => 0))), (q_13, .inl (cI, 16, .inl (fun _ => 0))), (q_14, .inl (cI, 16, .inl (fun _ => 0))), (q_15, .inl (cI, 16, .inl (fun _ => 0)))] := hD
  refine lv_aload_n hx hb d_MO_init_130 rfl (lv_at hl 0 rfl) ?_
  refine lv_bipush (v := nI 16) hx hb d_MO_init_131 (by decide +kernel) ?_
  refine xw_newI (N := 16) hx hb (hU _ uw_64) hK 0 rfl hP hD hS hA (by decide +kernel) (by decide +kernel) (by decide) (Nat.le_of_ble_eq_true rfl) (Nat.le_of_ble_eq_true rfl) d_MO_init_133 (fun q_16 H hP hD hS => ?_)
  have hP : va_P D vwCl [(h0, .inr (10, [.int (nI 0), .int (nI 0), .int (nI 0), .int (nI 0), .int (nI 0), .int (nI 0), .ref q_1, .ref q_2, .ref q_3, .ref q_4, .ref q_5, .int (nI 0), .int (nI 0), .int (nI 0), .int (nI 0), .int (nI 0), .int (nI 0), .int (nI 0), .ref q_6, .ref q_7, .ref q_8, .ref q_9, .ref q_10, .ref q_11, .ref q_12, .ref q_13, .ref q_14, .ref q_15, .null, .null, .null, .null, .null, .null, .null, .null])), (q_1, .inl (cI, 600, .inl (fun _ => 0))), (q_2, .inl (cI, 600, .inl (fun _ => 0))), (q_3, .inl (cI, 20, .inl (fun _ => 0))), (q_4, .inl (cI, 20, .inl (fun _ => 0))), (q_5, .inl (cI, 20, .inl (fun _ => 0))), (q_6, .inl (cI, 200, .inl (fun _ => 0))), (q_7, .inl (cI, 200, .inl (fun _ => 0))), (q_8, .inl (cI, 201, .inl (fun _ => 0))), (q_9, .inl (cB, 200, .inl (fun _ => 0))), (q_10, .inl (cB, 16, .inl (fun _ => 0))), (q_11, .inl (cB, 16, .inl (fun _ => 0))), (q_12, .inl (cI, 16, .inl (fun _ => 0))), (q_13, .inl (cI, 16, .inl (fun _ => 0))), (q_14, .inl (cI, 16, .inl (fun _ => 0))), (q_15, .inl (cI, 16, .inl (fun _ => 0))), (q_16, .inl (cI, 16, .inl (fun _ => 0)))] H := hP
  have hD : va_D A [(h0, .inr (10, [.int (nI 0), .int (nI 0), .int (nI 0), .int (nI 0), .int (nI 0), .int (nI 0), .ref q_1, .ref q_2, .ref q_3, .ref q_4, .ref q_5, .int (nI 0), .int (nI 0), .int (nI 0), .int (nI 0), .int (nI 0), .int (nI 0), .int (nI 0), .ref q_6, .ref q_7, .ref q_8, .ref q_9, .ref q_10, .ref q_11, .ref q_12, .ref q_13, .ref q_14, .ref q_15, .null, .null, .null, .null, .null, .null, .null, .null])), (q_1, .inl (cI, 600, .inl (fun _ => 0))), (q_2, .inl (cI, 600, .inl (fun _ => 0))), (q_3, .inl (cI, 20, .inl (fun _ => 0))), (q_4, .inl (cI, 20, .inl (fun _ => 0))), (q_5, .inl (cI, 20, .inl (fun _ => 0))), (q_6, .inl (cI, 200, .inl (fun _ => 0))), (q_7, .inl (cI, 200, .inl (fun _ => 0))), (q_8, .inl (cI, 201, .inl (fun _ => 0))), (q_9, .inl (cB, 200, .inl (fun _ => 0))), (q_10, .inl (cB, 16, .inl (fun _ => 0))), (q_11, .inl (cB, 16, .inl (fun _ => 0))), (q_12, .inl (cI, 16, .inl (fun _ => 0))), (q_13, .inl (cI, 16, .inl (fun _ => 0))), (q_14, .inl (cI, 16, .inl (fun _ => 0))), (q_15, .inl (cI, 16, .inl (fun _ => 0))), (q_16, .inl (cI, 16, .inl (fun _ => 0)))] := hD
  refine W.widen (k := 16) (n := 2173) (Nat.le_of_ble_eq_true rfl) (Nat.le_of_ble_eq_true rfl) ?_
  refine va_putF (D := D) (ci := 10) (v := .ref q_16) (ty := (.array .int)) (C := R_MO) (T := T_MO) (N := 36) hx hb hU iw_MO ty_MO ty_MO_ok nm_MO hown hK hP hD hS 0 rfl rfl 28 (by decide) (hU _ uw_751) (fun _ h9 => h9) rfl hnm rfl (by decide +kernel) (by first | rfl | decide +kernel) (by first | rfl | decide +kernel) (Nat.le_of_ble_eq_true rfl) d_MO_init_135 (fun H locs hP hD hS => ?_)
  have hP : va_P D vwCl [(h0, .inr (10, [.int (nI 0), .int (nI 0), .int (nI 0), .int (nI 0), .int (nI 0), .int (nI 0), .ref q_1, .ref q_2, .ref q_3, .ref q_4, .ref q_5, .int (nI 0), .int (nI 0), .int (nI 0), .int (nI 0), .int (nI 0), .int (nI 0), .int (nI 0), .ref q_6, .ref q_7, .ref q_8, .ref q_9, .ref q_10, .ref q_11, .ref q_12, .ref q_13, .ref q_14, .ref q_15, .ref q_16, .null, .null, .null, .null, .null, .null, .null])), (q_1, .inl (cI, 600, .inl (fun _ => 0))), (q_2, .inl (cI, 600, .inl (fun _ => 0))), (q_3, .inl (cI, 20, .inl (fun _ => 0))), (q_4, .inl (cI, 20, .inl (fun _ => 0))), (q_5, .inl (cI, 20, .inl (fun _ => 0))), (q_6, .inl (cI, 200, .inl (fun _ => 0))), (q_7, .inl (cI, 200, .inl (fun _ => 0))), (q_8, .inl (cI, 201, .inl (fun _ => 0))), (q_9, .inl (cB, 200, .inl (fun _ => 0))), (q_10, .inl (cB, 16, .inl (fun _ => 0))), (q_11, .inl (cB, 16, .inl (fun _ => 0))), (q_12, .inl (cI, 16, .inl (fun _ => 0))), (q_13, .inl (cI, 16, .inl (fun _ => 0))), (q_14, .inl (cI, 16, .inl (fun _ => 0))), (q_15, .inl (cI, 16, .inl (fun _ => 0))), (q_16, .inl (cI, 16, .inl (fun _ => 0)))] H := hP
  have hD : va_D A [(h0, .inr (10, [.int (nI 0), .int (nI 0), .int (nI 0), .int (nI 0), .int (nI 0), .int (nI 0), .ref q_1, .ref q_2, .ref q_3, .ref q_4, .ref q_5, .int (nI 0), .int (nI 0), .int (nI 0), .int (nI 0), .int (nI 0), .int (nI 0), .int (nI 0), .ref q_6, .ref q_7, .ref q_8, .ref q_9, .ref q_10, .ref q_11, .ref q_12, .ref q_13, .ref q_14, .ref q_15, .ref q_16, .null, .null, .null, .null, .null, .null, .null])), (q_1, .inl (cI, 600, .inl (fun _ => 0))), (q_2, .inl (cI, 600, .inl (fun _ => 0))), (q_3, .inl (cI, 20, .inl (fun _ => 0))), (q_4, .inl (cI, 20, .inl (fun _ => 0))), (q_5, .inl (cI, 20, .inl (fun _ => 0))), (q_6, .inl (cI, 200, .inl (fun _ => 0))), (q_7, .inl (cI, 200, .inl (fun _ => 0))), (q_8, .inl (cI, 201, .inl (fun _ => 0))), (q_9, .inl (cB, 200, .inl (fun _ => 0))), (q_10, .inl (cB, 16, .inl (fun _ => 0))), (q_11, .inl (cB, 16, .inl (fun _ => 0))), (q_12, .inl (cI, 16, .inl (fun _ => 0))), (q_13, .inl (cI, 16, .inl (fun _ => 0))), (q_14, .inl (cI, 16, .inl (fun _ => 0))), (q_15, .inl (cI, 16, .inl (fun _ => 0))), (q_16, .inl (cI, 16, .inl (fun _ => 0)))] := hD
  refine lv_aload_n hx hb d_MO_init_138 rfl (lv_at hl 0 rfl) ?_
  refine lv_bipush (v := nI 16) hx hb d_MO_init_139 (by decide +kernel) ?_
  refine xw_newI (N := 16) hx hb (hU _ uw_64) hK 0 rfl hP hD hS hA (by decide +kernel) (by decide +kernel) (by decide) (Nat.le_of_ble_eq_true rfl) (Nat.le_of_ble_eq_true rfl) d_MO_init_141 (fun q_17 H hP hD hS => ?_)
  have hP : va_P D vwCl [(h0, .inr (10, [.int (nI 0), .int (nI 0), .int (nI 0), .int (nI 0), .int (nI 0), .int (nI 0), .ref q_1, .ref q_2, .ref q_3, .ref q_4, .ref q_5, .int (nI 0), .int (nI 0), .int (nI 0), .int (nI 0), .int (nI 0), .int (nI 0), .int (nI 0), .ref q_6, .ref q_7, .ref q_8, .ref q_9, .ref q_10, .ref q_11, .ref q_12, .ref q_13, .ref q_14, .ref q_15, .ref q_16, .null, .null, .null, .null, .null, .null, .null])), (q_1, .inl (cI, 600, .inl (fun _ => 0))), (q_2, .inl (cI, 600, .inl (fun _ => 0))), (q_3, .inl (cI, 20, .inl (fun _ => 0))), (q_4, .inl (cI, 20, .inl (fun _ => 0))), (q_5, .inl (cI, 20, .inl (fun _ => 0))), (q_6, .inl (cI, 200, .inl (fun _ => 0))), (q_7, .inl (cI, 200, .inl (fun _ => 0))), (q_8, .inl (cI, 201, .inl (fun _ => 0))), (q_9, .inl (cB, 200, .inl (fun _ => 0))), (q_10, .inl (cB, 16, .inl (fun _ => 0))), (q_11, .inl (cB, 16, .inl (fun _ => 0))), (q_12, .inl (cI, 16, .inl (fun _ => 0))), (q_13, .inl (cI, 16, .inl (fun _ => 0))), (q_14, .inl (cI, 16, .inl (fun _ => 0))), (q_15, .inl (cI, 16, .inl (fun _ => 0))), (q_16, .inl (cI, 16, .inl (fun _ => 0))), (q_17, .inl (cI, 16, .inl (fun _ => 0)))] H := hP
  have hD : va_D A [(h0, .inr (10, [.int (nI 0), .int (nI 0), .int (nI 0), .int (nI 0), .int (nI 0), .int (nI 0), .ref q_1, .ref q_2, .ref q_3, .ref q_4, .ref q_5, .int (nI 0), .int (nI 0), .int (nI 0), .int (nI 0), .int (nI 0), .int (nI 0), .int (nI 0), .ref q_6, .ref q_7, .ref q_8, .ref q_9, .ref q_10, .ref q_11, .ref q_12, .ref q_13, .ref q_14, .ref q_15, .ref q_16, .null, .null, .null, .null, .null, .null, .null])), (q_1, .inl (cI, 600, .inl (fun _ => 0))), (q_2, .inl (cI, 600, .inl (fun _ => 0))), (q_3, .inl (cI, 20, .inl (fun _ => 0))), (q_4, .inl (cI, 20, .inl (fun _ => 0))), (q_5, .inl (cI, 20, .inl (fun _ => 0))), (q_6, .inl (cI, 200, .inl (fun _ => 0))), (q_7, .inl (cI, 200, .inl (fun _ => 0))), (q_8, .inl (cI, 201, .inl (fun _ => 0))), (q_9, .inl (cB, 200, .inl (fun _ => 0))), (q_10, .inl (cB, 16, .inl (fun _ => 0))), (q_11, .inl (cB, 16, .inl (fun _ => 0))), (q_12, .inl (cI, 16, .inl (fun _ => 0))), (q_13, .inl (cI, 16, .inl (fun _ => 0))), (q_14, .inl (cI, 16, .inl (fun _ => 0))), (q_15, .inl (cI, 16, .inl (fun _ => 0))), (q_16, .inl (cI, 16, .inl (fun _ => 0))), (q_17, .inl (cI, 16, .inl (fun _ => 0)))] := hD
  refine W.widen (k := 17) (n := 2189) (Nat.le_of_ble_eq_true rfl) (Nat.le_of_ble_eq_true rfl) ?_
  refine va_putF (D := D) (ci := 10) (v := .ref q_17) (ty := (.array .int)) (C := R_MO) (T := T_MO) (N := 36) hx hb hU iw_MO ty_MO ty_MO_ok nm_MO hown hK hP hD hS 0 rfl rfl 29 (by decide) (hU _ uw_752) (fun _ h9 => h9) rfl hnm rfl (by decide +kernel) (by first | rfl | decide +kernel) (by first | rfl | decide +kernel) (Nat.le_of_ble_eq_true rfl) d_MO_init_143 (fun H locs hP hD hS => ?_)
  have hP : va_P D vwCl [(h0, .inr (10, [.int (nI 0), .int (nI 0), .int (nI 0), .int (nI 0), .int (nI 0), .int (nI 0), .ref q_1, .ref q_2, .ref q_3, .ref q_4, .ref q_5, .int (nI 0), .int (nI 0), .int (nI 0), .int (nI 0), .int (nI 0), .int (nI 0), .int (nI 0), .ref q_6, .ref q_7, .ref q_8, .ref q_9, .ref q_10, .ref q_11, .ref q_12, .ref q_13, .ref q_14, .ref q_15, .ref q_16, .ref q_17, .null, .null, .null, .null, .null, .null])), (q_1, .inl (cI, 600, .inl (fun _ => 0))), (q_2, .inl (cI, 600, .inl (fun _ => 0))), (q_3, .inl (cI, 20, .inl (fun _ => 0))), (q_4, .inl (cI, 20, .inl (fun _ => 0))), (q_5, .inl (cI, 20, .inl (fun _ => 0))), (q_6, .inl (cI, 200, .inl (fun _ => 0))), (q_7, .inl (cI, 200, .inl (fun _ => 0))), (q_8, .inl (cI, 201, .inl (fun _ => 0))), (q_9, .inl (cB, 200, .inl (fun _ => 0))), (q_10, .inl (cB, 16, .inl (fun _ => 0))), (q_11, .inl (cB, 16, .inl (fun _ => 0))), (q_12, .inl (cI, 16, .inl (fun _ => 0))), (q_13, .inl (cI, 16, .inl (fun _ => 0))), (q_14, .inl (cI, 16, .inl (fun _ => 0))), (q_15, .inl (cI, 16, .inl (fun _ => 0))), (q_16, .inl (cI, 16, .inl (fun _ => 0))), (q_17, .inl (cI, 16, .inl (fun _ => 0)))] H := hP
  have hD : va_D A [(h0, .inr (10, [.int (nI 0), .int (nI 0), .int (nI 0), .int (nI 0), .int (nI 0), .int (nI 0), .ref q_1, .ref q_2, .ref q_3, .ref q_4, .ref q_5, .int (nI 0), .int (nI 0), .int (nI 0), .int (nI 0), .int (nI 0), .int (nI 0), .int (nI 0), .ref q_6, .ref q_7, .ref q_8, .ref q_9, .ref q_10, .ref q_11, .ref q_12, .ref q_13, .ref q_14, .ref q_15, .ref q_16, .ref q_17, .null, .null, .null, .null, .null, .null])), (q_1, .inl (cI, 600, .inl (fun _ => 0))), (q_2, .inl (cI, 600, .inl (fun _ => 0))), (q_3, .inl (cI, 20, .inl (fun _ => 0))), (q_4, .inl (cI, 20, .inl (fun _ => 0))), (q_5, .inl (cI, 20, .inl (fun _ => 0))), (q_6, .inl (cI, 200, .inl (fun _ => 0))), (q_7, .inl (cI, 200, .inl (fun _ => 0))), (q_8, .inl (cI, 201, .inl (fun _ => 0))), (q_9, .inl (cB, 200, .inl (fun _ => 0))), (q_10, .inl (cB, 16, .inl (fun _ => 0))), (q_11, .inl (cB, 16, .inl (fun _ => 0))), (q_12, .inl (cI, 16, .inl (fun _ => 0))), (q_13, .inl (cI, 16, .inl (fun _ => 0))), (q_14, .inl (cI, 16, .inl (fun _ => 0))), (q_15, .inl (cI, 16, .inl (fun _ => 0))), (q_16, .inl (cI, 16, .inl (fun _ => 0))), (q_17, .inl (cI, 16, .inl (fun _ => 0)))] := hD
  refine lv_aload_n hx hb d_MO_init_146 rfl (lv_at hl 0 rfl) ?_
  refine lv_bipush (v := nI 16) hx hb d_MO_init_147 (by decide +kernel) ?_
  refine xw_newI (N := 16) hx hb (hU _ uw_64) hK 0 rfl hP hD hS hA (by decide +kernel) (by decide +kernel) (by decide) (Nat.le_of_ble_eq_true rfl) (Nat.le_of_ble_eq_true rfl) d_MO_init_149 (fun q_18 H hP hD hS => ?_)
  have hP : va_P D vwCl [(h0, .inr (10, [.int (nI 0), .int (nI 0), .int (nI 0), .int (nI 0), .int (nI 0), .int (nI 0), .ref q_1, .ref q_2, .ref q_3, .ref q_4, .ref q_5, .int (nI 0), .int (nI 0), .int (nI 0), .int (nI 0), .int (nI 0), .int (nI 0), .int (nI 0), .ref q_6, .ref q_7, .ref q_8, .ref q_9, .ref q_10, .ref q_11, .ref q_12, .ref q_13, .ref q_14, .ref q_15, .ref q_16, .ref q_17, .null, .null, .null, .null, .null, .null])), (q_1, .inl (cI, 600, .inl (fun _ => 0))), (q_2, .inl (cI, 600, .inl (fun _ => 0))), (q_3, .inl (cI, 20, .inl (fun _ => 0))), (q_4, .inl (cI, 20, .inl (fun _ => 0))), (q_5, .inl (cI, 20, .inl (fun _ => 0))), (q_6, .inl (cI, 200, .inl (fun _ => 0))), (q_7, .inl (cI, 200, .inl (fun _ => 0))), (q_8, .inl (cI, 201, .inl (fun _ => 0))), (q_9, .inl (cB, 200, .inl (fun _ => 0))), (q_10, .inl (cB, 16, .inl (fun _ => 0))), (q_11, .inl (cB, 16, .inl (fun _ => 0))), (q_12, .inl (cI, 16, .inl (fun _ => 0))), (q_13, .inl (cI, 16, .inl (fun _ => 0))), (q_14, .inl (cI, 16, .inl (fun _ => 0))), (q_15, .inl (cI, 16, .inl (fun _ => 0))), (q_16, .inl (cI, 16, .inl (fun _ => 0))), (q_17, .inl (cI, 16, .inl (fun _ => 0))), (q_18, .inl (cI, 16, .inl (fun _ => 0)))] H := hP
  have hD : va_D A [(h0, .inr (10, [.int (nI 0), .int (nI 0), .int (nI 0), .int (nI 0), .int (nI 0), .int (nI 0), .ref q_1, .ref q_2, .ref q_3, .ref q_4, .ref q_5, .int (nI 0), .int (nI 0), .int (nI 0), .int (nI 0), .int (nI 0), .int (nI 0), .int (nI 0), .ref q_6, .ref q_7, .ref q_8, .ref q_9, .ref q_10, .ref q_11, .ref q_12, .ref q_13, .ref q_14, .ref q_15, .ref q_16, .ref q_17, .null, .null, .null, .null, .null, .null])), (q_1, .inl (cI, 600, .inl (fun _ => 0))), (q_2, .inl (cI, 600, .inl (fun _ => 0))), (q_3, .inl (cI, 20, .inl (fun _ => 0))), (q_4, .inl (cI, 20, .inl (fun _ => 0))), (q_5, .inl (cI, 20, .inl (fun _ => 0))), (q_6, .inl (cI, 200, .inl (fun _ => 0))), (q_7, .inl (cI, 200, .inl (fun _ => 0))), (q_8, .inl (cI, 201, .inl (fun _ => 0))), (q_9, .inl (cB, 200, .inl (fun _ => 0))), (q_10, .inl (cB, 16, .inl (fun _ => 0))), (q_11, .inl (cB, 16, .inl (fun _ => 0))), (q_12, .inl (cI, 16, .inl (fun _ => 0))), (q_13, .inl (cI, 16, .inl (fun _ => 0))), (q_14, .inl (cI, 16, .inl (fun _ => 0))), (q_15, .inl (cI, 16, .inl (fun _ => 0))), (q_16, .inl (cI, 16, .inl (fun _ => 0))), (q_17, .inl (cI, 16, .inl (fun _ => 0))), (q_18, .inl (cI, 16, .inl (fun _ => 0)))] := hD
  refine W.widen (k := 18) (n := 2205) (Nat.le_of_ble_eq_true rfl) (Nat.le_of_ble_eq_true rfl) ?_
  refine va_putF (D := D) (ci := 10) (v := .ref q_18) (ty := (.array .int)) (C := R_MO) (T := T_MO) (N := 36) hx hb hU iw_MO ty_MO ty_MO_ok nm_MO hown hK hP hD hS 0 rfl rfl 30 (by decide) (hU _ uw_753) (fun _ h9 => h9) rfl hnm rfl (by decide +kernel) (by first | rfl | decide +kernel) (by first | rfl | decide +kernel) (Nat.le_of_ble_eq_true rfl) d_MO_init_151 (fun H locs hP hD hS => ?_)
  have hP : va_P D vwCl [(h0, .inr (10, [.int (nI 0), .int (nI 0), .int (nI 0), .int (nI 0), .int (nI 0), .int (nI 0), .ref q_1, .ref q_2, .ref q_3, .ref q_4, .ref q_5, .int (nI 0), .int (nI 0), .int (nI 0), .int (nI 0), .int (nI 0), .int (nI 0), .int (nI 0), .ref q_6, .ref q_7, .ref q_8, .ref q_9, .ref q_10, .ref q_11, .ref q_12, .ref q_13, .ref q_14, .ref q_15, .ref q_16, .ref q_17, .ref q_18, .null, .null, .null, .null, .null])), (q_1, .inl (cI, 600, .inl (fun _ => 0))), (q_2, .inl (cI, 600, .inl (fun _ => 0))), (q_3, .inl (cI, 20, .inl (fun _ => 0))), (q_4, .inl (cI, 20, .inl (fun _ => 0))), (q_5, .inl (cI, 20, .inl (fun _ => 0))), (q_6, .inl (cI, 200, .inl (fun _ => 0))), (q_7, .inl (cI, 200, .inl (fun _ => 0))), (q_8, .inl (cI, 201, .inl (fun _ => 0))), (q_9, .inl (cB, 200, .inl (fun _ => 0))), (q_10, .inl (cB, 16, .inl (fun _ => 0))), (q_11, .inl (cB, 16, .inl (fun _ => 0))), (q_12, .inl (cI, 16, .inl (fun _ => 0))), (q_13, .inl (cI, 16, .inl (fun _ => 0))), (q_14, .inl (cI, 16, .inl (fun _ => 0))), (q_15, .inl (cI, 16, .inl (fun _ => 0))), (q_16, .inl (cI, 16, .inl (fun _ => 0))), (q_17, .inl (cI, 16, .inl (fun _ => 0))), (q_18, .inl (cI, 16, .inl (fun _ => 0)))] H := hP
  have hD : va_D A [(h0, .inr (10, [.int (nI 0), .int (nI 0), .int (nI 0), .int (nI 0), .int (nI 0), .int (nI 0), .ref q_1, .ref q_2, .ref q_3, .ref q_4, .ref q_5, .int (nI 0), .int (nI 0), .int (nI 0), .int (nI 0), .int (nI 0), .int (nI 0), .int (nI 0), .ref q_6, .ref q_7, .ref q_8, .ref q_9, .ref q_10, .ref q_11, .ref q_12, .ref q_13, .ref q_14, .ref q_15, .ref q_16, .ref q_17, .ref q_18, .null, .null, .null, .null, .null])), (q_1, .inl (cI, 600, .inl (fun _ => 0))), (q_2, .inl (cI, 600, .inl (fun _ => 0))), (q_3, .inl (cI, 20, .inl (fun _ => 0))), (q_4, .inl (cI, 20, .inl (fun _ => 0))), (q_5, .inl (cI, 20, .inl (fun _ => 0))), (q_6, .inl (cI, 200, .inl (fun _ => 0))), (q_7, .inl (cI, 200, .inl (fun _ => 0))), (q_8, .inl (cI, 201, .inl (fun _ => 0))), (q_9, .inl (cB, 200, .inl (fun _ => 0))), (q_10, .inl (cB, 16, .inl (fun _ => 0))), (q_11, .inl (cB, 16, .inl (fun _ => 0))), (q_12, .inl (cI, 16, .inl (fun _ => 0))), (q_13, .inl (cI, 16, .inl (fun _ => 0))), (q_14, .inl (cI, 16, .inl (fun _ => 0))), (q_15, .inl (cI, 16, .inl (fun _ => 0))), (q_16, .inl (cI, 16, .inl (fun _ => 0))), (q_17, .inl (cI, 16, .inl (fun _ => 0))), (q_18, .inl (cI, 16, .inl (fun _ => 0)))] := hD
  refine lv_aload_n hx hb d_MO_init_154 rfl (lv_at hl 0 rfl) ?_
  refine lv_sipush (v := nI 128) hx hb d_MO_init_155 (by decide +kernel) ?_
  refine xw_newI (N := 128) hx hb (hU _ uw_64) hK 0 rfl hP hD hS hA (by decide +kernel) (by decide +kernel) (by decide) (Nat.le_of_ble_eq_true rfl) (Nat.le_of_ble_eq_true rfl) d_MO_init_158 (fun q_19 H hP hD hS => ?_)
  have hP : va_P D vwCl [(h0, .inr (10, [.int (nI 0), .int (nI 0), .int (nI 0), .int (nI 0), .int (nI 0), .int (nI 0), .ref q_1, .ref q_2, .ref q_3, .ref q_4, .ref q_5, .int (nI 0), .int (nI 0), .int (nI 0), .int (nI 0), .int (nI 0), .int (nI 0), .int (nI 0), .ref q_6, .ref q_7, .ref q_8, .ref q_9, .ref q_10, .ref q_11, .ref q_12, .ref q_13, .ref q_14, .ref q_15, .ref q_16, .ref q_17, .ref q_18, .null, .null, .null, .null, .null])), (q_1, .inl (cI, 600, .inl (fun _ => 0))), (q_2, .inl (cI, 600, .inl (fun _ => 0))), (q_3, .inl (cI, 20, .inl (fun _ => 0))), (q_4, .inl (cI, 20, .inl (fun _ => 0))), (q_5, .inl (cI, 20, .inl (fun _ => 0))), (q_6, .inl (cI, 200, .inl (fun _ => 0))), (q_7, .inl (cI, 200, .inl (fun _ => 0))), (q_8, .inl (cI, 201, .inl (fun _ => 0))), (q_9, .inl (cB, 200, .inl (fun _ => 0))), (q_10, .inl (cB, 16, .inl (fun _ => 0))), (q_11, .inl (cB, 16, .inl (fun _ => 0))), (q_12, .inl (cI, 16, .inl (fun _ => 0))), (q_13, .inl (cI, 16, .inl (fun _ => 0))), (q_14, .inl (cI, 16, .inl (fun _ => 0))), (q_15, .inl (cI, 16, .inl (fun _ => 0))), (q_16, .inl (cI, 16, .inl (fun _ => 0))), (q_17, .inl (cI, 16, .inl (fun _ => 0))), (q_18, .inl (cI, 16, .inl (fun _ => 0))), (q_19, .inl (cI, 128, .inl (fun _ => 0)))] H := hP
  have hD : va_D A [(h0, .inr (10, [.int (nI 0), .int (nI 0), .int (nI 0), .int (nI 0), .int (nI 0), .int (nI 0), .ref q_1, .ref q_2, .ref q_3, .ref q_4, .ref q_5, .int (nI 0), .int (nI 0), .int (nI 0), .int (nI 0), .int (nI 0), .int (nI 0), .int (nI 0), .ref q_6, .ref q_7, .ref q_8, .ref q_9, .ref q_10, .ref q_11, .ref q_12, .ref q_13, .ref q_14, .ref q_15, .ref q_16, .ref q_17, .ref q_18, .null, .null, .null, .null, .null])), (q_1, .inl (cI, 600, .inl (fun _ => 0))), (q_2, .inl (cI, 600, .inl (fun _ => 0))), (q_3, .inl (cI, 20, .inl (fun _ => 0))), (q_4, .inl (cI, 20, .inl (fun _ => 0))), (q_5, .inl (cI, 20, .inl (fun _ => 0))), (q_6, .inl (cI, 200, .inl (fun _ => 0))), (q_7, .inl (cI, 200, .inl (fun _ => 0))), (q_8, .inl (cI, 201, .inl (fun _ => 0))), (q_9, .inl (cB, 200, .inl (fun _ => 0))), (q_10, .inl (cB, 16, .inl (fun _ => 0))), (q_11, .inl (cB, 16, .inl (fun _ => 0))), (q_12, .inl (cI, 16, .inl (fun _ => 0))), (q_13, .inl (cI, 16, .inl (fun _ => 0))), (q_14, .inl (cI, 16, .inl (fun _ => 0))), (q_15, .inl (cI, 16, .inl (fun _ => 0))), (q_16, .inl (cI, 16, .inl (fun _ => 0))), (q_17, .inl (cI, 16, .inl (fun _ => 0))), (q_18, .inl (cI, 16, .inl (fun _ => 0))), (q_19, .inl (cI, 128, .inl (fun _ => 0)))] := hD
  refine W.widen (k := 19) (n := 2333) (Nat.le_of_ble_eq_true rfl) (Nat.le_of_ble_eq_true rfl) ?_
  refine va_putF (D := D) (ci := 10) (v := .ref q_19) (ty := (.array .int)) (C := R_MO) (T := T_MO) (N := 36) hx hb hU iw_MO ty_MO ty_MO_ok nm_MO hown hK hP hD hS 0 rfl rfl 31 (by decide) (hU _ uw_754) (fun _ h9 => h9) rfl hnm rfl (by decide +kernel) (by first | rfl | decide +kernel) (by first | rfl | decide +kernel) (Nat.le_of_ble_eq_true rfl) d_MO_init_160 (fun H locs hP hD hS => ?_)
  have hP : va_P D vwCl [(h0, .inr (10, [.int (nI 0), .int (nI 0), .int (nI 0), .int (nI 0), .int (nI 0), .int (nI 0), .ref q_1, .ref q_2, .ref q_3, .ref q_4, .ref q_5, .int (nI 0), .int (nI 0), .int (nI 0), .int (nI 0), .int (nI 0), .int (nI 0), .int (nI 0), .ref q_6, .ref q_7, .ref q_8, .ref q_9, .ref q_10, .ref q_11, .ref q_12, .ref q_13, .ref q_14, .ref q_15, .ref q_16, .ref q_17, .ref q_18, .ref q_19, .null, .null, .null, .null])), (q_1, .inl (cI, 600, .inl (fun _ => 0))), (q_2, .inl (cI, 600, .inl (fun _ => 0))), (q_3, .inl (cI, 20, .inl (fun _ => 0))), (q_4, .inl (cI, 20, .inl (fun _ => 0))), (q_5, .inl (cI, 20, .inl (fun _ => 0))), (q_6, .inl (cI, 200, .inl (fun _ => 0))), (q_7, .inl (cI, 200, .inl (fun _ => 0))), (q_8, .inl (cI, 201, .inl (fun _ => 0))), (q_9, .inl (cB, 200, .inl (fun _ => 0))), (q_10, .inl (cB, 16, .inl (fun _ => 0))), (q_11, .inl (cB, 16, .inl (fun _ => 0))), (q_12, .inl (cI, 16, .inl (fun _ => 0))), (q_13, .inl (cI, 16, .inl (fun _ => 0))), (q_14, .inl (cI, 16, .inl (fun _ => 0))), (q_15, .inl (cI, 16, .inl (fun _ => 0))), (q_16, .inl (cI, 16, .inl (fun _ => 0))), (q_17, .inl (cI, 16, .inl (fun _ => 0))), (q_18, .inl (cI, 16, .inl (fun _ => 0))), (q_19, .inl (cI, 128, .inl (fun _ => 0)))] H := hP
  have hD : va_D A [(h0, .inr (10, [.int (nI 0), .int (nI 0), .int (nI 0), .int (nI 0), .int (nI 0), .int (nI 0), .ref q_1, .ref q_2, .ref q_3, .ref q_4, .ref q_5, .int (nI 0), .int (nI 0), .int (nI 0), .int (nI 0), .int (nI 0), .int (nI 0), .int (nI 0), .ref q_6, .ref q_7, .ref q_8, .ref q_9, .ref q_10, .ref q_11, .ref q_12, .ref q_13, .ref q_14, .ref q_15, .ref q_16, .ref q_17, .ref q_18, .ref q_19, .null, .null, .null, .null])), (q_1, .inl (cI, 600, .inl (fun _ => 0))), (q_2, .inl (cI, 600, .inl (fun _ => 0))), (q_3, .inl (cI, 20, .inl (fun _ => 0))), (q_4, .inl (cI, 20, .inl (fun _ => 0))), (q_5, .inl (cI, 20, .inl (fun _ => 0))), (q_6, .inl (cI, 200, .inl (fun _ => 0))), (q_7, .inl (cI, 200, .inl (fun _ => 0))), (q_8, .inl (cI, 201, .inl (fun _ => 0))), (q_9, .inl (cB, 200, .inl (fun _ => 0))), (q_10, .inl (cB, 16, .inl (fun _ => 0))), (q_11, .inl (cB, 16, .inl (fun _ => 0))), (q_12, .inl (cI, 16, .inl (fun _ => 0))), (q_13, .inl (cI, 16, .inl (fun _ => 0))), (q_14, .inl (cI, 16, .inl (fun _ => 0))), (q_15, .inl (cI, 16, .inl (fun _ => 0))), (q_16, .inl (cI, 16, .inl (fun _ => 0))), (q_17, .inl (cI, 16, .inl (fun _ => 0))), (q_18, .inl (cI, 16, .inl (fun _ => 0))), (q_19, .inl (cI, 128, .inl (fun _ => 0)))] := hD
  refine lv_aload_n hx hb d_MO_init_163 rfl (lv_at hl 0 rfl) ?_
  refine lv_bipush (v := nI 16) hx hb d_MO_init_164 (by decide +kernel) ?_
  refine xw_newI (N := 16) hx hb (hU _ uw_64) hK 0 rfl hP hD hS hA (by decide +kernel) (by decide +kernel) (by decide) (Nat.le_of_ble_eq_true rfl) (Nat.le_of_ble_eq_true rfl) d_MO_init_166 (fun q_20 H hP hD hS => ?_)
  have hP : va_P D vwCl [(h0, .inr (10, [.int (nI 0), .int (nI 0), .int (nI 0), .int (nI 0), .int (nI 0), .int (nI 0), .ref q_1, .ref q_2, .ref q_3, .ref q_4, .ref q_5, .int (nI 0), .int (nI 0), .int (nI 0), .int (nI 0), .int (nI 0), .int (nI 0), .int (nI 0), .ref q_6, .ref q_7, .ref q_8, .ref q_9, .ref q_10, .ref q_11, .ref q_12, .ref q_13, .ref q_14, .ref q_15, .ref q_16, .ref q_17, .ref q_18, .ref q_19, .null, .null, .null, .null])), (q_1, .inl (cI, 600, .inl (fun _ => 0))), (q_2, .inl (cI, 600, .inl (fun _ => 0))), (q_3, .inl (cI, 20, .inl (fun _ => 0))), (q_4, .inl (cI, 20, .inl (fun _ => 0))), (q_5, .inl (cI, 20, .inl (fun _ => 0))), (q_6, .inl (cI, 200, .inl (fun _ => 0))), (q_7, .inl (cI, 200, .inl (fun _ => 0))), (q_8, .inl (cI, 201, .inl (fun _ => 0))), (q_9, .inl (cB, 200, .inl (fun _ => 0))), (q_10, .inl (cB, 16, .inl (fun _ => 0))), (q_11, .inl (cB, 16, .inl (fun _ => 0))), (q_12, .inl (cI, 16, .inl (fun _ => 0))), (q_13, .inl (cI, 16, .inl (fun _ => 0))), (q_14, .inl (cI, 16, .inl (fun _ => 0))), (q_15, .inl (cI, 16, .inl (fun _ => 0))), (q_16, .inl (cI, 16, .inl (fun _ => 0))), (q_17, .inl (cI, 16, .inl (fun _ => 0))), (q_18, .inl (cI, 16, .inl (fun _ => 0))), (q_19, .inl (cI, 128, .inl (fun _ => 0))), (q_20, .inl (cI, 16, .inl (fun _ => 0)))] H := hP
  have hD : va_D A [(h0, .inr (10, [.int (nI 0), .int (nI 0), .int (nI 0), .int (nI 0), .int (nI 0), .int (nI 0), .ref q_1, .ref q_2, .ref q_3, .ref q_4, .ref q_5, .int (nI 0), .int (nI 0), .int (nI 0), .int (nI 0), .int (nI 0), .int (nI 0), .int (nI 0), .ref q_6, .ref q_7, .ref q_8, .ref q_9, .ref q_10, .ref q_11, .ref q_12, .ref q_13, .ref q_14, .ref q_15, .ref q_16, .ref q_17, .ref q_18, .ref q_19, .null, .null, .null, .null])), (q_1, .inl (cI, 600, .inl (fun _ => 0))), (q_2, .inl (cI, 600, .inl (fun _ => 0))), (q_3, .inl (cI, 20, .inl (fun _ => 0))), (q_4, .inl (cI, 20, .inl (fun _ => 0))), (q_5, .inl (cI, 20, .inl (fun _ => 0))), (q_6, .inl (cI, 200, .inl (fun _ => 0))), (q_7, .inl (cI, 200, .inl (fun _ => 0))), (q_8, .inl (cI, 201, .inl (fun _ => 0))), (q_9, .inl (cB, 200, .inl (fun _ => 0))), (q_10, .inl (cB, 16, .inl (fun _ => 0))), (q_11, .inl (cB, 16, .inl (fun _ => 0))), (q_12, .inl (cI, 16, .inl (fun _ => 0))), (q_13, .inl (cI, 16, .inl (fun _ => 0))), (q_14, .inl (cI, 16, .inl (fun _ => 0))), (q_15, .inl (cI, 16, .inl (fun _ => 0))), (q_16, .inl (cI, 16, .inl (fun _ => 0))), (q_17, .inl (cI, 16, .inl (fun _ => 0))), (q_18, .inl (cI, 16, .inl (fun _ => 0))), (q_19, .inl (cI, 128, .inl (fun _ => 0))), (q_20, .inl (cI, 16, .inl (fun _ => 0)))] := hD
  refine W.widen (k := 20) (n := 2349) (Nat.le_of_ble_eq_true rfl) (Nat.le_of_ble_eq_true rfl) ?_
  refine va_putF (D := D) (ci := 10) (v := .ref q_20) (ty := (.array .int)) (C := R_MO) (T := T_MO) (N := 36) hx hb hU iw_MO ty_MO ty_MO_ok nm_MO hown hK hP hD hS 0 rfl rfl 32 (by decide) (hU _ uw_755) (fun _ h9 => h9) rfl hnm rfl (by decide +kernel) (by first | rfl | decide +kernel) (by first | rfl | decide +kernel) (Nat.le_of_ble_eq_true rfl) d_MO_init_168 (fun H locs hP hD hS => ?_)
  have hP : va_P D vwCl [(h0, .inr (10, [.int (nI 0), .int (nI 0), .int (nI 0), .int (nI 0), .int (nI 0), .int (nI 0), .ref q_1, .ref q_2, .ref q_3, .ref q_4, .ref q_5, .int (nI 0), .int (nI 0), .int (nI 0), .int (nI 0), .int (nI 0), .int (nI 0), .int (nI 0), .ref q_6, .ref q_7, .ref q_8, .ref q_9, .ref q_10, .ref q_11, .ref q_12, .ref q_13, .ref q_14, .ref q_15, .ref q_16, .ref q_17, .ref q_18, .ref q_19, .ref q_20, .null, .null, .null])), (q_1, .inl (cI, 600, .inl (fun _ => 0))), (q_2, .inl (cI, 600, .inl (fun _ => 0))), (q_3, .inl (cI, 20, .inl (fun _ => 0))), (q_4, .inl (cI, 20, .inl (fun _ => 0))), (q_5, .inl (cI, 20, .inl (fun _ => 0))), (q_6, .inl (cI, 200, .inl (fun _ => 0))), (q_7, .inl (cI, 200, .inl (fun _ => 0))), (q_8, .inl (cI, 201, .inl (fun _ => 0))), (q_9, .inl (cB, 200, .inl (fun _ => 0))), (q_10, .inl (cB, 16, .inl (fun _ => 0))), (q_11, .inl (cB, 16, .inl (fun _ => 0))), (q_12, .inl (cI, 16, .inl (fun _ => 0))), (q_13, .inl (cI, 16, .inl (fun _ => 0))), (q_14, .inl (cI, 16, .inl (fun _ => 0))), (q_15, .inl (cI, 16, .inl (fun _ => 0))), (q_16, .inl (cI, 16, .inl (fun _ => 0))), (q_17, .inl (cI, 16, .inl (fun _ => 0))), (q_18, .inl (cI, 16, .inl (fun _ => 0))), (q_19, .inl (cI, 128, .inl (fun _ => 0))), (q_20, .inl (cI, 16, .inl (fun _ => 0)))] H := hP
  have hD : va_D A [(h0, .inr (10, [.int (nI 0), .int (nI 0), .int (nI 0), .int (nI 0), .int (nI 0), .int (nI 0), .ref q_1, .ref q_2, .ref q_3, .ref q_4, .ref q_5, .int (nI 0), .int (nI 0), .int (nI 0), .int (nI 0), .int (nI 0), .int (nI 0), .int (nI 0), .ref q_6, .ref q_7, .ref q_8, .ref q_9, .ref q_10, .ref q_11, .ref q_12, .ref q_13, .ref q_14, .ref q_15, .ref q_16, .ref q_17, .ref q_18, .ref q_19, .ref q_20, .null, .null, .null])), (q_1, .inl (cI, 600, .inl (fun _ => 0))), (q_2, .inl (cI, 600, .inl (fun _ => 0))), (q_3, .inl (cI, 20, .inl (fun _ => 0))), (q_4, .inl (cI, 20, .inl (fun _ => 0))), (q_5, .inl (cI, 20, .inl (fun _ => 0))), (q_6, .inl (cI, 200, .inl (fun _ => 0))), (q_7, .inl (cI, 200, .inl (fun _ => 0))), (q_8, .inl (cI, 201, .inl (fun _ => 0))), (q_9, .inl (cB, 200, .inl (fun _ => 0))), (q_10, .inl (cB, 16, .inl (fun _ => 0))), (q_11, .inl (cB, 16, .inl (fun _ => 0))), (q_12, .inl (cI, 16, .inl (fun _ => 0))), (q_13, .inl (cI, 16, .inl (fun _ => 0))), (q_14, .inl (cI, 16, .inl (fun _ => 0))), (q_15, .inl (cI, 16, .inl (fun _ => 0))), (q_16, .inl (cI, 16, .inl (fun _ => 0))), (q_17, .inl (cI, 16, .inl (fun _ => 0))), (q_18, .inl (cI, 16, .inl (fun _ => 0))), (q_19, .inl (cI, 128, .inl (fun _ => 0))), (q_20, .inl (cI, 16, .inl (fun _ => 0)))] := hD
  refine lv_aload_n hx hb d_MO_init_171 rfl (lv_at hl 0 rfl) ?_
  refine lv_bipush (v := nI 16) hx hb d_MO_init_172 (by decide +kernel) ?_
  refine xw_newI (N := 16) hx hb (hU _ uw_64) hK 0 rfl hP hD hS hA (by decide +kernel) (by decide +kernel) (by decide) (Nat.le_of_ble_eq_true rfl) (Nat.le_of_ble_eq_true rfl) d_MO_init_174 (fun q_21 H hP hD hS => ?_)
  have hP : va_P D vwCl [(h0, .inr (10, [.int (nI 0), .int (nI 0), .int (nI 0), .int (nI 0), .int (nI 0), .int (nI 0), .ref q_1, .ref q_2, .ref q_3, .ref q_4, .ref q_5, .int (nI 0), .int (nI 0), .int (nI 0), .int (nI 0), .int (nI 0), .int (nI 0), .int (nI 0), .ref q_6, .ref q_7, .ref q_8, .ref q_9, .ref q_10, .ref q_11, .ref q_12, .ref q_13, .ref q_14, .ref q_15, .ref q_16, .ref q_17, .ref q_18, .ref q_19, .ref q_20, .null, .null, .null])), (q_1, .inl (cI, 600, .inl (fun _ => 0))), (q_2, .inl (cI, 600, .inl (fun _ => 0))), (q_3, .inl (cI, 20, .inl (fun _ => 0))), (q_4, .inl (cI, 20, .inl (fun _ => 0))), (q_5, .inl (cI, 20, .inl (fun _ => 0))), (q_6, .inl (cI, 200, .inl (fun _ => 0))), (q_7, .inl (cI, 200, .inl (fun _ => 0))), (q_8, .inl (cI, 201, .inl (fun _ => 0))), (q_9, .inl (cB, 200, .inl (fun _ => 0))), (q_10, .inl (cB, 16, .inl (fun _ => 0))), (q_11, .inl (cB, 16, .inl (fun _ => 0))), (q_12, .inl (cI, 16, .inl (fun _ => 0))), (q_13, .inl (cI, 16, .inl (fun _ => 0))), (q_14, .inl (cI, 16, .inl (fun _ => 0))), (q_15, .inl (cI, 16, .inl (fun _ => 0))), (q_16, .inl (cI, 16, .inl (fun _ => 0))), (q_17, .inl (cI, 16, .inl (fun _ => 0))), (q_18, .inl (cI, 16, .inl (fun _ => 0))), (q_19, .inl (cI, 128, .inl (fun _ => 0))), (q_20, .inl (cI, 16, .inl (fun _ => 0))), (q_21, .inl (cI, 16, .inl (fun _ => 0)))] H := hP
  have hD : va_D A [(h0, .inr (10, [.int (nI 0), .int (nI 0), .int (nI 0), .int (nI 0), .int (nI 0), .int (nI 0), .ref q_1, .ref q_2, .ref q_3, .ref q_4, .ref q_5, .int (nI 0), .int (nI 0), .int (nI 0), .int (nI 0), .int (nI 0), .int (nI 0), .int (nI 0), .ref q_6, .ref q_7, .ref q_8, .ref q_9, .ref q_10, .ref q_11, .ref q_12, .ref q_13, .ref q_14, .ref q_15, .ref q_16, .ref q_17, .ref q_18, .ref q_19, .ref q_20, .null, .null, .null])), (q_1, .inl (cI, 600, .inl (fun _ => 0))), (q_2, .inl (cI, 600, .inl (fun _ => 0))), (q_3, .inl (cI, 20, .inl (fun _ => 0))), (q_4, .inl (cI, 20, .inl (fun _ => 0))), (q_5, .inl (cI, 20, .inl (fun _ => 0))), (q_6, .inl (cI, 200, .inl (fun _ => 0))), (q_7, .inl (cI, 200, .inl (fun _ => 0))), (q_8, .inl (cI, 201, .inl (fun _ => 0))), (q_9, .inl (cB, 200, .inl (fun _ => 0))), (q_10, .inl (cB, 16, .inl (fun _ => 0))), (q_11, .inl (cB, 16, .inl (fun _ => 0))), (q_12, .inl (cI, 16, .inl (fun _ => 0))), (q_13, .inl (cI, 16, .inl (fun _ => 0))), (q_14, .inl (cI, 16, .inl (fun _ => 0))), (q_15, .inl (cI, 16, .inl (fun _ => 0))), (q_16, .inl (cI, 16, .inl (fun _ => 0))), (q_17, .inl (cI, 16, .inl (fun _ => 0))), (q_18, .inl (cI, 16, .inl (fun _ => 0))), (q_19, .inl (cI, 128, .inl (fun _ => 0))), (q_20, .inl (cI, 16, .inl (fun _ => 0))), (q_21, .inl (cI, 16, .inl (fun _ => 0)))] := hD
  refine W.widen (k := 21) (n := 2365) (Nat.le_of_ble_eq_true rfl) (Nat.le_of_ble_eq_true rfl) ?_
  refine va_putF (D := D) (ci := 10) (v := .ref q_21) (ty := (.array .int)) (C := R_MO) (T := T_MO) (N := 36) hx hb hU iw_MO ty_MO ty_MO_ok nm_MO hown hK hP hD hS 0 rfl rfl 33 (by decide) (hU _ uw_756) (fun _ h9 => h9) rfl hnm rfl (by decide +kernel) (by first | rfl | decide +kernel) (by first | rfl | decide +kernel) (Nat.le_of_ble_eq_true rfl) d_MO_init_176 (fun H locs hP hD hS => ?_)
  have hP : va_P D vwCl [(h0, .inr (10, [.int (nI 0), .int (nI 0), .int (nI 0), .int (nI 0), .int (nI 0), .int (nI 0), .ref q_1, .ref q_2, .ref q_3, .ref q_4, .ref q_5, .int (nI 0), .int (nI 0), .int (nI 0), .int (nI 0), .int (nI 0), .int (nI 0), .int (nI 0), .ref q_6, .ref q_7, .ref q_8, .ref q_9, .ref q_10, .ref q_11, .ref q_12, .ref q_13, .ref q_14, .ref q_15, .ref q_16, .ref q_17, .ref q_18, .ref q_19, .ref q_20, .ref q_21, .null, .null])), (q_1, .inl (cI, 600, .inl (fun _ => 0))), (q_2, .inl (cI, 600, .inl (fun _ => 0))), (q_3, .inl (cI, 20, .inl (fun _ => 0))), (q_4, .inl (cI, 20, .inl (fun _ => 0))), (q_5, .inl (cI, 20, .inl (fun _ => 0))), (q_6, .inl (cI, 200, .inl (fun _ => 0))), (q_7, .inl (cI, 200, .inl (fun _ => 0))), (q_8, .inl (cI, 201, .inl (fun _ => 0))), (q_9, .inl (cB, 200, .inl (fun _ => 0))), (q_10, .inl (cB, 16, .inl (fun _ => 0))), (q_11, .inl (cB, 16, .inl (fun _ => 0))), (q_12, .inl (cI, 16, .inl (fun _ => 0))), (q_13, .inl (cI, 16, .inl (fun _ => 0))), (q_14, .inl (cI, 16, .inl (fun _ => 0))), (q_15, .inl (cI, 16, .inl (fun _ => 0))), (q_16, .inl (cI, 16, .inl (fun _ => 0))), (q_17, .inl (cI, 16, .inl (fun _ => 0))), (q_18, .inl (cI, 16, .inl (fun _ => 0))), (q_19, .inl (cI, 128, .inl (fun _ => 0))), (q_20, .inl (cI, 16, .inl (fun _ => 0))), (q_21, .inl (cI, 16, .inl (fun _ => 0)))] H := hP
  have hD : va_D A [(h0, .inr (10, [.int (nI 0), .int (nI 0), .int (nI 0), .int (nI 0), .int (nI 0), .int (nI 0), .ref q_1, .ref q_2, .ref q_3, .ref q_4, .ref q_5, .int (nI 0), .int (nI 0), .int (nI 0), .int (nI 0), .int (nI 0), .int (nI 0), .int (nI 0), .ref q_6, .ref q_7, .ref q_8, .ref q_9, .ref q_10, .ref q_11, .ref q_12, .ref q_13, .ref q_14, .ref q_15, .ref q_16, .ref q_17, .ref q_18, .ref q_19, .ref q_20, .ref q_21, .null, .null])), (q_1, .inl (cI, 600, .inl (fun _ => 0))), (q_2, .inl (cI, 600, .inl (fun _ => 0))), (q_3, .inl (cI, 20, .inl (fun _ => 0))), (q_4, .inl (cI, 20, .inl (fun _ => 0))), (q_5, .inl (cI, 20, .inl (fun _ => 0))), (q_6, .inl (cI, 200, .inl (fun _ => 0))), (q_7, .inl (cI, 200, .inl (fun _ => 0))), (q_8, .inl (cI, 201, .inl (fun _ => 0))), (q_9, .inl (cB, 200, .inl (fun _ => 0))), (q_10, .inl (cB, 16, .inl (fun _ => 0))), (q_11, .inl (cB, 16, .inl (fun _ => 0))), (q_12, .inl (cI, 16, .inl (fun _ => 0))), (q_13, .inl (cI, 16, .inl (fun _ => 0))), (q_14, .inl (cI, 16, .inl (fun _ => 0))), (q_15, .inl (cI, 16, .inl (fun _ => 0))), (q_16, .inl (cI, 16, .inl (fun _ => 0))), (q_17, .inl (cI, 16, .inl (fun _ => 0))), (q_18, .inl (cI, 16, .inl (fun _ => 0))), (q_19, .inl (cI, 128, .inl (fun _ => 0))), (q_20, .inl (cI, 16, .inl (fun _ => 0))), (q_21, .inl (cI, 16, .inl (fun _ => 0)))] := hD
  refine lv_aload_n hx hb d_MO_init_179 rfl (lv_at hl 0 rfl) ?_
  refine lv_bipush (v := nI 16) hx hb d_MO_init_180 (by decide +kernel) ?_
  refine xw_newI (N := 16) hx hb (hU _ uw_64) hK 0 rfl hP hD hS hA (by decide +kernel) (by decide +kernel) (by decide) (Nat.le_of_ble_eq_true rfl) (Nat.le_of_ble_eq_true rfl) d_MO_init_182 (fun q_22 H hP hD hS => ?_)
  have hP : va_P D vwCl [(h0, .inr (10, [.int (nI 0), .int (nI 0), .int (nI 0), .int (nI 0), .int (nI 0), .int (nI 0), .ref q_1, .ref q_2, .ref q_3, .ref q_4, .ref q_5, .int (nI 0), .int (nI 0), .int (nI 0), .int (nI 0), .int (nI 0), .int (nI 0), .int (nI 0), .ref q_6, .ref q_7, .ref q_8, .ref q_9, .ref q_10, .ref q_11, .ref q_12, .ref q_13, .ref q_14, .ref q_15, .ref q_16, .ref q_17, .ref q_18, .ref q_19, .ref q_20, .ref q_21, .null, .null])), (q_1, .inl (cI, 600, .inl (fun _ => 0))), (q_2, .inl (cI, 600, .inl (fun _ => 0))), (q_3, .inl (cI, 20, .inl (fun _ => 0))), (q_4, .inl (cI, 20, .inl (fun _ => 0))), (q_5, .inl (cI, 20, .inl (fun _ => 0))), (q_6, .inl (cI, 200, .inl (fun _ => 0))), (q_7, .inl (cI, 200, .inl (fun _ => 0))), (q_8, .inl (cI, 201, .inl (fun _ => 0))), (q_9, .inl (cB, 200, .inl (fun _ => 0))), (q_10, .inl (cB, 16, .inl (fun _ => 0))), (q_11, .inl (cB, 16, .inl (fun _ => 0))), (q_12, .inl (cI, 16, .inl (fun _ => 0))), (q_13, .inl (cI, 16, .inl (fun _ => 0))), (q_14, .inl (cI, 16, .inl (fun _ => 0))), (q_15, .inl (cI, 16, .inl (fun _ => 0))), (q_16, .inl (cI, 16, .inl (fun _ => 0))), (q_17, .inl (cI, 16, .inl (fun _ => 0))), (q_18, .inl (cI, 16, .inl (fun _ => 0))), (q_19, .inl (cI, 128, .inl (fun _ => 0))), (q_20, .inl (cI, 16, .inl (fun _ => 0))), (q_21, .inl (cI, 16, .inl (fun _ => 0))), (q_22, .inl (cI, 16, .inl (fun _ => 0)))] H := hP
  have hD : va_D A [(h0, .inr (10, [.int (nI 0), .int (nI 0), .int (nI 0), .int (nI 0), .int (nI 0), .int (nI 0), .ref q_1, .ref q_2, .ref q_3, .ref q_4, .ref q_5, .int (nI 0), .int (nI 0), .int (nI 0), .int (nI 0), .int (nI 0), .int (nI 0), .int (nI 0), .ref q_6, .ref q_7, .ref q_8, .ref q_9, .ref q_10, .ref q_11, .ref q_12, .ref q_13, .ref q_14, .ref q_15, .ref q_16, .ref q_17, .ref q_18, .ref q_19, .ref q_20, .ref q_21, .null, .null])), (q_1, .inl (cI, 600, .inl (fun _ => 0))), (q_2, .inl (cI, 600, .inl (fun _ => 0))), (q_3, .inl (cI, 20, .inl (fun _ => 0))), (q_4, .inl (cI, 20, .inl (fun _ => 0))), (q_5, .inl (cI, 20, .inl (fun _ => 0))), (q_6, .inl (cI, 200, .inl (fun _ => 0))), (q_7, .inl (cI, 200, .inl (fun _ => 0))), (q_8, .inl (cI, 201, .inl (fun _ => 0))), (q_9, .inl (cB, 200, .inl (fun _ => 0))), (q_10, .inl (cB, 16, .inl (fun _ => 0))), (q_11, .inl (cB, 16, .inl (fun _ => 0))), (q_12, .inl (cI, 16, .inl (fun _ => 0))), (q_13, .inl (cI, 16, .inl (fun _ => 0))), (q_14, .inl (cI, 16, .inl (fun _ => 0))), (q_15, .inl (cI, 16, .inl (fun _ => 0))), (q_16, .inl (cI, 16, .inl (fun _ => 0))), (q_17, .inl (cI, 16, .inl (fun _ => 0))), (q_18, .inl (cI, 16, .inl (fun _ => 0))), (q_19, .inl (cI, 128, .inl (fun _ => 0))), (q_20, .inl (cI, 16, .inl (fun _ => 0))), (q_21, .inl (cI, 16, .inl (fun _ => 0))), (q_22, .inl (cI, 16, .inl (fun _ => 0)))] := hD
  refine W.widen (k := 22) (n := 2381) (Nat.le_of_ble_eq_true rfl) (Nat.le_of_ble_eq_true rfl) ?_
  refine va_putF (D := D) (ci := 10) (v := .ref q_22) (ty := (.array .int)) (C := R_MO) (T := T_MO) (N := 36) hx hb hU iw_MO ty_MO ty_MO_ok nm_MO hown hK hP hD hS 0 rfl rfl 34 (by decide) (hU _ uw_757) (fun _ h9 => h9) rfl hnm rfl (by decide +kernel) (by first | rfl | decide +kernel) (by first | rfl | decide +kernel) (Nat.le_of_ble_eq_true rfl) d_MO_init_184 (fun H locs hP hD hS => ?_)
  have hP : va_P D vwCl [(h0, .inr (10, [.int (nI 0), .int (nI 0), .int (nI 0), .int (nI 0), .int (nI 0), .int (nI 0), .ref q_1, .ref q_2, .ref q_3, .ref q_4, .ref q_5, .int (nI 0), .int (nI 0), .int (nI 0), .int (nI 0), .int (nI 0), .int (nI 0), .int (nI 0), .ref q_6, .ref q_7, .ref q_8, .ref q_9, .ref q_10, .ref q_11, .ref q_12, .ref q_13, .ref q_14, .ref q_15, .ref q_16, .ref q_17, .ref q_18, .ref q_19, .ref q_20, .ref q_21, .ref q_22, .null])), (q_1, .inl (cI, 600, .inl (fun _ => 0))), (q_2, .inl (cI, 600, .inl (fun _ => 0))), (q_3, .inl (cI, 20, .inl (fun _ => 0))), (q_4, .inl (cI, 20, .inl (fun _ => 0))), (q_5, .inl (cI, 20, .inl (fun _ => 0))), (q_6, .inl (cI, 200, .inl (fun _ => 0))), (q_7, .inl (cI, 200, .inl (fun _ => 0))), (q_8, .inl (cI, 201, .inl (fun _ => 0))), (q_9, .inl (cB, 200, .inl (fun _ => 0))), (q_10, .inl (cB, 16, .inl (fun _ => 0))), (q_11, .inl (cB, 16, .inl (fun _ => 0))), (q_12, .inl (cI, 16, .inl (fun _ => 0))), (q_13, .inl (cI, 16, .inl (fun _ => 0))), (q_14, .inl (cI, 16, .inl (fun _ => 0))), (q_15, .inl (cI, 16, .inl (fun _ => 0))), (q_16, .inl (cI, 16, .inl (fun _ => 0))), (q_17, .inl (cI, 16, .inl (fun _ => 0))), (q_18, .inl (cI, 16, .inl (fun _ => 0))), (q_19, .inl (cI, 128, .inl (fun _ => 0))), (q_20, .inl (cI, 16, .inl (fun _ => 0))), (q_21, .inl (cI, 16, .inl (fun _ => 0))), (q_22, .inl (cI, 16, .inl (fun _ => 0)))] H := hP
  have hD : va_D A [(h0, .inr (10, [.int (nI 0), .int (nI 0), .int (nI 0), .int (nI 0), .int (nI 0), .int (nI 0), .ref q_1, .ref q_2, .ref q_3, .ref q_4, .ref q_5, .int (nI 0), .int (nI 0), .int (nI 0), .int (nI 0), .int (nI 0), .int (nI 0), .int (nI 0), .ref q_6, .ref q_7, .ref q_8, .ref q_9, .ref q_10, .ref q_11, .ref q_12, .ref q_13, .ref q_14, .ref q_15, .ref q_16, .ref q_17, .ref q_18, .ref q_19, .ref q_20, .ref q_21, .ref q_22, .null])), (q_1, .inl (cI, 600, .inl (fun _ => 0))), (q_2, .inl (cI, 600, .inl (fun _ => 0))), (q_3, .inl (cI, 20, .inl (fun _ => 0))), (q_4, .inl (cI, 20, .inl (fun _ => 0))), (q_5, .inl (cI, 20, .inl (fun _ => 0))), (q_6, .inl (cI, 200, .inl (fun _ => 0))), (q_7, .inl (cI, 200, .inl (fun _ => 0))), (q_8, .inl (cI, 201, .inl (fun _ => 0))), (q_9, .inl (cB, 200, .inl (fun _ => 0))), (q_10, .inl (cB, 16, .inl (fun _ => 0))), (q_11, .inl (cB, 16, .inl (fun _ => 0))), (q_12, .inl (cI, 16, .inl (fun _ => 0))), (q_13, .inl (cI, 16, .inl (fun _ => 0))), (q_14, .inl (cI, 16, .inl (fun _ => 0))), (q_15, .inl (cI, 16, .inl (fun _ => 0))), (q_16, .inl (cI, 16, .inl (fun _ => 0))), (q_17, .inl (cI, 16, .inl (fun _ => 0))), (q_18, .inl (cI, 16, .inl (fun _ => 0))), (q_19, .inl (cI, 128, .inl (fun _ => 0))), (q_20, .inl (cI, 16, .inl (fun _ => 0))), (q_21, .inl (cI, 16, .inl (fun _ => 0))), (q_22, .inl (cI, 16, .inl (fun _ => 0)))] := hD
  refine lv_aload_n hx hb d_MO_init_187 rfl (lv_at hl 0 rfl) ?_
  refine lv_sipush (v := nI 200) hx hb d_MO_init_188 (by decide +kernel) ?_
  refine xw_newB (N := 200) hx hb (hU _ uw_115) hK 1 rfl hP hD hS hA (by decide +kernel) (by decide +kernel) (by decide) (Nat.le_of_ble_eq_true rfl) (Nat.le_of_ble_eq_true rfl) d_MO_init_191 (fun q_23 H hP hD hS => ?_)
  have hP : va_P D vwCl [(h0, .inr (10, [.int (nI 0), .int (nI 0), .int (nI 0), .int (nI 0), .int (nI 0), .int (nI 0), .ref q_1, .ref q_2, .ref q_3, .ref q_4, .ref q_5, .int (nI 0), .int (nI 0), .int (nI 0), .int (nI 0), .int (nI 0), .int (nI 0), .int (nI 0), .ref q_6, .ref q_7, .ref q_8, .ref q_9, .ref q_10, .ref q_11, .ref q_12, .ref q_13, .ref q_14, .ref q_15, .ref q_16, .ref q_17, .ref q_18, .ref q_19, .ref q_20, .ref q_21, .ref q_22, .null])), (q_1, .inl (cI, 600, .inl (fun _ => 0))), (q_2, .inl (cI, 600, .inl (fun _ => 0))), (q_3, .inl (cI, 20, .inl (fun _ => 0))), (q_4, .inl (cI, 20, .inl (fun _ => 0))), (q_5, .inl (cI, 20, .inl (fun _ => 0))), (q_6, .inl (cI, 200, .inl (fun _ => 0))), (q_7, .inl (cI, 200, .inl (fun _ => 0))), (q_8, .inl (cI, 201, .inl (fun _ => 0))), (q_9, .inl (cB, 200, .inl (fun _ => 0))), (q_10, .inl (cB, 16, .inl (fun _ => 0))), (q_11, .inl (cB, 16, .inl (fun _ => 0))), (q_12, .inl (cI, 16, .inl (fun _ => 0))), (q_13, .inl (cI, 16, .inl (fun _ => 0))), (q_14, .inl (cI, 16, .inl (fun _ => 0))), (q_15, .inl (cI, 16, .inl (fun _ => 0))), (q_16, .inl (cI, 16, .inl (fun _ => 0))), (q_17, .inl (cI, 16, .inl (fun _ => 0))), (q_18, .inl (cI, 16, .inl (fun _ => 0))), (q_19, .inl (cI, 128, .inl (fun _ => 0))), (q_20, .inl (cI, 16, .inl (fun _ => 0))), (q_21, .inl (cI, 16, .inl (fun _ => 0))), (q_22, .inl (cI, 16, .inl (fun _ => 0))), (q_23, .inl (cB, 200, .inl (fun _ => 0)))] H := hP
  have hD : va_D A [(h0, .inr (10, [.int (nI 0), .int (nI 0), .int (nI 0), .int (nI 0), .int (nI 0), .int (nI 0), .ref q_1, .ref q_2, .ref q_3, .ref q_4, .ref q_5, .int (nI 0), .int (nI 0), .int (nI 0), .int (nI 0), .int (nI 0), .int (nI 0), .int (nI 0), .ref q_6, .ref q_7, .ref q_8, .ref q_9, .ref q_10, .ref q_11, .ref q_12, .ref q_13, .ref q_14, .ref q_15, .ref q_16, .ref q_17, .ref q_18, .ref q_19, .ref q_20, .ref q_21, .ref q_22, .null])), (q_1, .inl (cI, 600, .inl (fun _ => 0))), (q_2, .inl (cI, 600, .inl (fun _ => 0))), (q_3, .inl (cI, 20, .inl (fun _ => 0))), (q_4, .inl (cI, 20, .inl (fun _ => 0))), (q_5, .inl (cI, 20, .inl (fun _ => 0))), (q_6, .inl (cI, 200, .inl (fun _ => 0))), (q_7, .inl (cI, 200, .inl (fun _ => 0))), (q_8, .inl (cI, 201, .inl (fun _ => 0))), (q_9, .inl (cB, 200, .inl (fun _ => 0))), (q_10, .inl (cB, 16, .inl (fun _ => 0))), (q_11, .inl (cB, 16, .inl (fun _ => 0))), (q_12, .inl (cI, 16, .inl (fun _ => 0))), (q_13, .inl (cI, 16, .inl (fun _ => 0))), (q_14, .inl (cI, 16, .inl (fun _ => 0))), (q_15, .inl (cI, 16, .inl (fun _ => 0))), (q_16, .inl (cI, 16, .inl (fun _ => 0))), (q_17, .inl (cI, 16, .inl (fun _ => 0))), (q_18, .inl (cI, 16, .inl (fun _ => 0))), (q_19, .inl (cI, 128, .inl (fun _ => 0))), (q_20, .inl (cI, 16, .inl (fun _ => 0))), (q_21, .inl (cI, 16, .inl (fun _ => 0))), (q_22, .inl (cI, 16, .inl (fun _ => 0))), (q_23, .inl (cB, 200, .inl (fun _ => 0)))] := hD
  refine W.widen (k := 23) (n := 2581) (Nat.le_of_ble_eq_true rfl) (Nat.le_of_ble_eq_true rfl) ?_
  refine va_putF (D := D) (ci := 10) (v := .ref q_23) (ty := (.array .boolean)) (C := R_MO) (T := T_MO) (N := 36) hx hb hU iw_MO ty_MO ty_MO_ok nm_MO hown hK hP hD hS 0 rfl rfl 35 (by decide) (hU _ uw_758) (fun _ h9 => h9) rfl hnm rfl (by decide +kernel) (by first | rfl | decide +kernel) (by first | rfl | decide +kernel) (Nat.le_of_ble_eq_true rfl) d_MO_init_193 (fun H locs hP hD hS => ?_)
  have hP : va_P D vwCl [(h0, .inr (10, [.int (nI 0), .int (nI 0), .int (nI 0), .int (nI 0), .int (nI 0), .int (nI 0), .ref q_1, .ref q_2, .ref q_3, .ref q_4, .ref q_5, .int (nI 0), .int (nI 0), .int (nI 0), .int (nI 0), .int (nI 0), .int (nI 0), .int (nI 0), .ref q_6, .ref q_7, .ref q_8, .ref q_9, .ref q_10, .ref q_11, .ref q_12, .ref q_13, .ref q_14, .ref q_15, .ref q_16, .ref q_17, .ref q_18, .ref q_19, .ref q_20, .ref q_21, .ref q_22, .ref q_23])), (q_1, .inl (cI, 600, .inl (fun _ => 0))), (q_2, .inl (cI, 600, .inl (fun _ => 0))), (q_3, .inl (cI, 20, .inl (fun _ => 0))), (q_4, .inl (cI, 20, .inl (fun _ => 0))), (q_5, .inl (cI, 20, .inl (fun _ => 0))), (q_6, .inl (cI, 200, .inl (fun _ => 0))), (q_7, .inl (cI, 200, .inl (fun _ => 0))), (q_8, .inl (cI, 201, .inl (fun _ => 0))), (q_9, .inl (cB, 200, .inl (fun _ => 0))), (q_10, .inl (cB, 16, .inl (fun _ => 0))), (q_11, .inl (cB, 16, .inl (fun _ => 0))), (q_12, .inl (cI, 16, .inl (fun _ => 0))), (q_13, .inl (cI, 16, .inl (fun _ => 0))), (q_14, .inl (cI, 16, .inl (fun _ => 0))), (q_15, .inl (cI, 16, .inl (fun _ => 0))), (q_16, .inl (cI, 16, .inl (fun _ => 0))), (q_17, .inl (cI, 16, .inl (fun _ => 0))), (q_18, .inl (cI, 16, .inl (fun _ => 0))), (q_19, .inl (cI, 128, .inl (fun _ => 0))), (q_20, .inl (cI, 16, .inl (fun _ => 0))), (q_21, .inl (cI, 16, .inl (fun _ => 0))), (q_22, .inl (cI, 16, .inl (fun _ => 0))), (q_23, .inl (cB, 200, .inl (fun _ => 0)))] H := hP
  have hD : va_D A [(h0, .inr (10, [.int (nI 0), .int (nI 0), .int (nI 0), .int (nI 0), .int (nI 0), .int (nI 0), .ref q_1, .ref q_2, .ref q_3, .ref q_4, .ref q_5, .int (nI 0), .int (nI 0), .int (nI 0), .int (nI 0), .int (nI 0), .int (nI 0), .int (nI 0), .ref q_6, .ref q_7, .ref q_8, .ref q_9, .ref q_10, .ref q_11, .ref q_12, .ref q_13, .ref q_14, .ref q_15, .ref q_16, .ref q_17, .ref q_18, .ref q_19, .ref q_20, .ref q_21, .ref q_22, .ref q_23])), (q_1, .inl (cI, 600, .inl (fun _ => 0))), (q_2, .inl (cI, 600, .inl (fun _ => 0))), (q_3, .inl (cI, 20, .inl (fun _ => 0))), (q_4, .inl (cI, 20, .inl (fun _ => 0))), (q_5, .inl (cI, 20, .inl (fun _ => 0))), (q_6, .inl (cI, 200, .inl (fun _ => 0))), (q_7, .inl (cI, 200, .inl (fun _ => 0))), (q_8, .inl (cI, 201, .inl (fun _ => 0))), (q_9, .inl (cB, 200, .inl (fun _ => 0))), (q_10, .inl (cB, 16, .inl (fun _ => 0))), (q_11, .inl (cB, 16, .inl (fun _ => 0))), (q_12, .inl (cI, 16, .inl (fun _ => 0))), (q_13, .inl (cI, 16, .inl (fun _ => 0))), (q_14, .inl (cI, 16, .inl (fun _ => 0))), (q_15, .inl (cI, 16, .inl (fun _ => 0))), (q_16, .inl (cI, 16, .inl (fun _ => 0))), (q_17, .inl (cI, 16, .inl (fun _ => 0))), (q_18, .inl (cI, 16, .inl (fun _ => 0))), (q_19, .inl (cI, 128, .inl (fun _ => 0))), (q_20, .inl (cI, 16, .inl (fun _ => 0))), (q_21, .inl (cI, 16, .inl (fun _ => 0))), (q_22, .inl (cI, 16, .inl (fun _ => 0))), (q_23, .inl (cB, 200, .inl (fun _ => 0)))] := hD
  refine lv_aload_n hx hb d_MO_init_196 rfl (lv_at hl 0 rfl) ?_
  refine lv_iconst (v := nI 1) hx hb d_MO_init_197 (by decide +kernel) ?_
  refine lv_iload_n hx hb d_MO_init_198 rfl (lv_at hl 1 rfl) ?_
  refine lv_iconst (v := nI 1) hx hb d_MO_init_199 (by decide +kernel) ?_
  refine lv_isub hx hb d_MO_init_200 ?_
  refine lv_bipush (v := nI 15) hx hb d_MO_init_201 (by decide +kernel) ?_
  refine lv_iand hx hb d_MO_init_203 ?_
  refine lv_iadd hx hb d_MO_init_204 ?_
  refine xw_top (nI (1 + jw)) (by rw [ha, nI_add]) ?_
  refine va_putF (D := D) (ci := 10) (v := .int (nI (1 + jw))) (ty := .int) (C := R_MO) (T := T_MO) (N := 36) hx hb hU iw_MO ty_MO ty_MO_ok nm_MO hown hK hP hD hS 0 rfl rfl 1 (by decide) (hU _ uw_724) (fun _ h9 => h9) rfl hnm rfl (by decide +kernel) (by first | rfl | decide +kernel) (by first | rfl | decide +kernel) (Nat.le_of_ble_eq_true rfl) d_MO_init_205 (fun H locs hP hD hS => ?_)
  have hP : va_P D vwCl [(h0, .inr (10, [.int (nI 0), .int (nI (1 + jw)), .int (nI 0), .int (nI 0), .int (nI 0), .int (nI 0), .ref q_1, .ref q_2, .ref q_3, .ref q_4, .ref q_5, .int (nI 0), .int (nI 0), .int (nI 0), .int (nI 0), .int (nI 0), .int (nI 0), .int (nI 0), .ref q_6, .ref q_7, .ref q_8, .ref q_9, .ref q_10, .ref q_11, .ref q_12, .ref q_13, .ref q_14, .ref q_15, .ref q_16, .ref q_17, .ref q_18, .ref q_19, .ref q_20, .ref q_21, .ref q_22, .ref q_23])), (q_1, .inl (cI, 600, .inl (fun _ => 0))), (q_2, .inl (cI, 600, .inl (fun _ => 0))), (q_3, .inl (cI, 20, .inl (fun _ => 0))), (q_4, .inl (cI, 20, .inl (fun _ => 0))), (q_5, .inl (cI, 20, .inl (fun _ => 0))), (q_6, .inl (cI, 200, .inl (fun _ => 0))), (q_7, .inl (cI, 200, .inl (fun _ => 0))), (q_8, .inl (cI, 201, .inl (fun _ => 0))), (q_9, .inl (cB, 200, .inl (fun _ => 0))), (q_10, .inl (cB, 16, .inl (fun _ => 0))), (q_11, .inl (cB, 16, .inl (fun _ => 0))), (q_12, .inl (cI, 16, .inl (fun _ => 0))), (q_13, .inl (cI, 16, .inl (fun _ => 0))), (q_14, .inl (cI, 16, .inl (fun _ => 0))), (q_15, .inl (cI, 16, .inl (fun _ => 0))), (q_16, .inl (cI, 16, .inl (fun _ => 0))), (q_17, .inl (cI, 16, .inl (fun _ => 0))), (q_18, .inl (cI, 16, .inl (fun _ => 0))), (q_19, .inl (cI, 128, .inl (fun _ => 0))), (q_20, .inl (cI, 16, .inl (fun _ => 0))), (q_21, .inl (cI, 16, .inl (fun _ => 0))), (q_22, .inl (cI, 16, .inl (fun _ => 0))), (q_23, .inl (cB, 200, .inl (fun _ => 0)))] H := hP
  have hD : va_D A [(h0, .inr (10, [.int (nI 0), .int (nI (1 + jw)), .int (nI 0), .int (nI 0), .int (nI 0), .int (nI 0), .ref q_1, .ref q_2, .ref q_3, .ref q_4, .ref q_5, .int (nI 0), .int (nI 0), .int (nI 0), .int (nI 0), .int (nI 0), .int (nI 0), .int (nI 0), .ref q_6, .ref q_7, .ref q_8, .ref q_9, .ref q_10, .ref q_11, .ref q_12, .ref q_13, .ref q_14, .ref q_15, .ref q_16, .ref q_17, .ref q_18, .ref q_19, .ref q_20, .ref q_21, .ref q_22, .ref q_23])), (q_1, .inl (cI, 600, .inl (fun _ => 0))), (q_2, .inl (cI, 600, .inl (fun _ => 0))), (q_3, .inl (cI, 20, .inl (fun _ => 0))), (q_4, .inl (cI, 20, .inl (fun _ => 0))), (q_5, .inl (cI, 20, .inl (fun _ => 0))), (q_6, .inl (cI, 200, .inl (fun _ => 0))), (q_7, .inl (cI, 200, .inl (fun _ => 0))), (q_8, .inl (cI, 201, .inl (fun _ => 0))), (q_9, .inl (cB, 200, .inl (fun _ => 0))), (q_10, .inl (cB, 16, .inl (fun _ => 0))), (q_11, .inl (cB, 16, .inl (fun _ => 0))), (q_12, .inl (cI, 16, .inl (fun _ => 0))), (q_13, .inl (cI, 16, .inl (fun _ => 0))), (q_14, .inl (cI, 16, .inl (fun _ => 0))), (q_15, .inl (cI, 16, .inl (fun _ => 0))), (q_16, .inl (cI, 16, .inl (fun _ => 0))), (q_17, .inl (cI, 16, .inl (fun _ => 0))), (q_18, .inl (cI, 16, .inl (fun _ => 0))), (q_19, .inl (cI, 128, .inl (fun _ => 0))), (q_20, .inl (cI, 16, .inl (fun _ => 0))), (q_21, .inl (cI, 16, .inl (fun _ => 0))), (q_22, .inl (cI, 16, .inl (fun _ => 0))), (q_23, .inl (cB, 200, .inl (fun _ => 0)))] := hD
  refine lv_aload_n hx hb d_MO_init_208 rfl (lv_at hl 0 rfl) ?_
  refine lv_iconst (v := nI 1) hx hb d_MO_init_209 (by decide +kernel) ?_
  refine lv_iload_n hx hb d_MO_init_210 rfl (lv_at hl 2 rfl) ?_
  refine lv_iconst (v := nI 1) hx hb d_MO_init_211 (by decide +kernel) ?_
  refine lv_isub hx hb d_MO_init_212 ?_
  refine lv_bipush (v := nI 7) hx hb d_MO_init_213 (by decide +kernel) ?_
  refine lv_iand hx hb d_MO_init_215 ?_
  refine lv_iadd hx hb d_MO_init_216 ?_
  refine xw_top (nI (1 + jq)) (by rw [hb9, nI_add]) ?_
  refine va_putF (D := D) (ci := 10) (v := .int (nI (1 + jq))) (ty := .int) (C := R_MO) (T := T_MO) (N := 36) hx hb hU iw_MO ty_MO ty_MO_ok nm_MO hown hK hP hD hS 0 rfl rfl 2 (by decide) (hU _ uw_725) (fun _ h9 => h9) rfl hnm rfl (by decide +kernel) (by first | rfl | decide +kernel) (by first | rfl | decide +kernel) (Nat.le_of_ble_eq_true rfl) d_MO_init_217 (fun H locs hP hD hS => ?_)
  have hP : va_P D vwCl [(h0, .inr (10, [.int (nI 0), .int (nI (1 + jw)), .int (nI (1 + jq)), .int (nI 0), .int (nI 0), .int (nI 0), .ref q_1, .ref q_2, .ref q_3, .ref q_4, .ref q_5, .int (nI 0), .int (nI 0), .int (nI 0), .int (nI 0), .int (nI 0), .int (nI 0), .int (nI 0), .ref q_6, .ref q_7, .ref q_8, .ref q_9, .ref q_10, .ref q_11, .ref q_12, .ref q_13, .ref q_14, .ref q_15, .ref q_16, .ref q_17, .ref q_18, .ref q_19, .ref q_20, .ref q_21, .ref q_22, .ref q_23])), (q_1, .inl (cI, 600, .inl (fun _ => 0))), (q_2, .inl (cI, 600, .inl (fun _ => 0))), (q_3, .inl (cI, 20, .inl (fun _ => 0))), (q_4, .inl (cI, 20, .inl (fun _ => 0))), (q_5, .inl (cI, 20, .inl (fun _ => 0))), (q_6, .inl (cI, 200, .inl (fun _ => 0))), (q_7, .inl (cI, 200, .inl (fun _ => 0))), (q_8, .inl (cI, 201, .inl (fun _ => 0))), (q_9, .inl (cB, 200, .inl (fun _ => 0))), (q_10, .inl (cB, 16, .inl (fun _ => 0))), (q_11, .inl (cB, 16, .inl (fun _ => 0))), (q_12, .inl (cI, 16, .inl (fun _ => 0))), (q_13, .inl (cI, 16, .inl (fun _ => 0))), (q_14, .inl (cI, 16, .inl (fun _ => 0))), (q_15, .inl (cI, 16, .inl (fun _ => 0))), (q_16, .inl (cI, 16, .inl (fun _ => 0))), (q_17, .inl (cI, 16, .inl (fun _ => 0))), (q_18, .inl (cI, 16, .inl (fun _ => 0))), (q_19, .inl (cI, 128, .inl (fun _ => 0))), (q_20, .inl (cI, 16, .inl (fun _ => 0))), (q_21, .inl (cI, 16, .inl (fun _ => 0))), (q_22, .inl (cI, 16, .inl (fun _ => 0))), (q_23, .inl (cB, 200, .inl (fun _ => 0)))] H := hP
  have hD : va_D A [(h0, .inr (10, [.int (nI 0), .int (nI (1 + jw)), .int (nI (1 + jq)), .int (nI 0), .int (nI 0), .int (nI 0), .ref q_1, .ref q_2, .ref q_3, .ref q_4, .ref q_5, .int (nI 0), .int (nI 0), .int (nI 0), .int (nI 0), .int (nI 0), .int (nI 0), .int (nI 0), .ref q_6, .ref q_7, .ref q_8, .ref q_9, .ref q_10, .ref q_11, .ref q_12, .ref q_13, .ref q_14, .ref q_15, .ref q_16, .ref q_17, .ref q_18, .ref q_19, .ref q_20, .ref q_21, .ref q_22, .ref q_23])), (q_1, .inl (cI, 600, .inl (fun _ => 0))), (q_2, .inl (cI, 600, .inl (fun _ => 0))), (q_3, .inl (cI, 20, .inl (fun _ => 0))), (q_4, .inl (cI, 20, .inl (fun _ => 0))), (q_5, .inl (cI, 20, .inl (fun _ => 0))), (q_6, .inl (cI, 200, .inl (fun _ => 0))), (q_7, .inl (cI, 200, .inl (fun _ => 0))), (q_8, .inl (cI, 201, .inl (fun _ => 0))), (q_9, .inl (cB, 200, .inl (fun _ => 0))), (q_10, .inl (cB, 16, .inl (fun _ => 0))), (q_11, .inl (cB, 16, .inl (fun _ => 0))), (q_12, .inl (cI, 16, .inl (fun _ => 0))), (q_13, .inl (cI, 16, .inl (fun _ => 0))), (q_14, .inl (cI, 16, .inl (fun _ => 0))), (q_15, .inl (cI, 16, .inl (fun _ => 0))), (q_16, .inl (cI, 16, .inl (fun _ => 0))), (q_17, .inl (cI, 16, .inl (fun _ => 0))), (q_18, .inl (cI, 16, .inl (fun _ => 0))), (q_19, .inl (cI, 128, .inl (fun _ => 0))), (q_20, .inl (cI, 16, .inl (fun _ => 0))), (q_21, .inl (cI, 16, .inl (fun _ => 0))), (q_22, .inl (cI, 16, .inl (fun _ => 0))), (q_23, .inl (cB, 200, .inl (fun _ => 0)))] := hD
  refine lv_aload_n hx hb d_MO_init_220 rfl (lv_at hl 0 rfl) ?_
  refine xw_callV (C := R_MO) (wr := [(q_1, .inl (cI, 600, .inl (fun _ => 0))), (q_2, .inl (cI, 600, .inl (fun _ => 0))), (q_3, .inl (cI, 20, .inl (fun _ => 0))), (q_4, .inl (cI, 20, .inl (fun _ => 0))), (q_5, .inl (cI, 20, .inl (fun _ => 0))), (q_8, .inl (cI, 201, .inl (fun _ => 0))), (q_11, .inl (cB, 16, .inl (fun _ => 0))), (q_15, .inl (cI, 16, .inl (fun _ => 0))), (q_16, .inl (cI, 16, .inl (fun _ => 0))), (q_17, .inl (cI, 16, .inl (fun _ => 0))), (q_19, .inl (cI, 128, .inl (fun _ => 0))), (q_20, .inl (cI, 16, .inl (fun _ => 0))), (q_21, .inl (cI, 16, .inl (fun _ => 0))), (q_22, .inl (cI, 16, .inl (fun _ => 0))), (q_23, .inl (cB, 200, .inl (fun _ => 0)))]) [] (c_MO_forget l D cI cB cL h0 q_1 q_2 q_3 q_4 q_5 q_6 q_7 q_8 q_9 q_10 q_11 q_12 q_13 q_14 q_15 q_16 q_17 q_18 q_19 q_20 q_21 q_22 q_23 (.int (nI 0)) (.int (nI (1 + jq))) (.int (nI 0)) (.int (nI 0)) (.int (nI 0)) (.int (nI 0)) (.int (nI 0)) (.int (nI 0)) (.int (nI 0)) (.int (nI 0)) (.int (nI 0)) (.int (nI 0)) (1 + jw) (fun _ => 0) (fun _ => 0) (fun _ => 0) (fun _ => 0) (fun _ => 0) (fun _ => 0) (fun _ => 0) (fun _ => 0) (by omega)) ⟨hx, hb, hml, hown, hU⟩ (cwV 0 hU (xs_goodV uw_719 uw_721 uw_m12 uw_13 uw_722) rfl rfl rfl (by decide +kernel) ⟨Nat.le_of_ble_eq_true rfl, Nat.le_of_ble_eq_true rfl⟩) 0 rfl rfl rfl rfl hl.1 rfl (Nat.le_of_ble_eq_true rfl) d_MO_init_221 ⟨Nat.le_of_ble_eq_true rfl, Nat.le_of_ble_eq_true rfl⟩ [0, 6, 7, 9, 10, 12, 13, 14, 18] [1, 2, 3, 4, 5, 8, 11, 15, 16, 17, 19, 20, 21, 22, 23] rfl rfl (by decide) (by decide) (by decide) hN hK hP hD hS hA (fun u H locs hf hP hD hS => ?_)
  have hP : va_P D vwCl [(q_1, .inl (cI, 600, .inl (fun _ => 0))), (q_2, .inl (cI, 600, .inl (fun _ => 0))), (q_3, .inl (cI, 20, .inl (fun _ => 0))), (q_4, .inl (cI, 20, .inl (fun _ => 0))), (q_5, .inl (cI, 20, .inl (fun _ => 0))), (q_8, .inl (cI, 201, .inl (fun _ => 0))), (q_11, .inl (cB, 16, .inl (fun _ => 0))), (q_15, .inl (cI, 16, .inl (fun _ => 0))), (q_16, .inl (cI, 16, .inl (fun _ => 0))), (q_17, .inl (cI, 16, .inl (fun _ => 0))), (q_19, .inl (cI, 128, .inl (fun _ => 0))), (q_20, .inl (cI, 16, .inl (fun _ => 0))), (q_21, .inl (cI, 16, .inl (fun _ => 0))), (q_22, .inl (cI, 16, .inl (fun _ => 0))), (q_23, .inl (cB, 200, .inl (fun _ => 0))), (h0, .inr (10, [.int (nI 0), .int (nI (1 + jw)), .int (nI (1 + jq)), .int (nI 0), .int (nI 0), .int (nI 0), .ref q_1, .ref q_2, .ref q_3, .ref q_4, .ref q_5, .int (nI 0), .int (nI 0), .int (nI 0), .int (nI 0), .int (nI 0), .int (nI 0), .int (nI 0), .ref q_6, .ref q_7, .ref q_8, .ref q_9, .ref q_10, .ref q_11, .ref q_12, .ref q_13, .ref q_14, .ref q_15, .ref q_16, .ref q_17, .ref q_18, .ref q_19, .ref q_20, .ref q_21, .ref q_22, .ref q_23])), (q_6, .inl (cI, 200, .inl (fun _ => (-1)))), (q_7, .inl (cI, 200, .inl (fun _ => nI 0))), (q_9, .inl (cB, 200, .inl (fun _ => nI 0))), (q_10, .inl (cB, 16, .inl (fun j => if j < (1 + jw) then nI 1 else nI 0))), (q_12, .inl (cI, 16, .inl (fun _ => nI 0))), (q_13, .inl (cI, 16, .inl (fun _ => nI 0))), (q_14, .inl (cI, 16, .inl (fun _ => nI 0))), (q_18, .inl (cI, 16, .inl (fun _ => nI 0)))] H := hP
  have hD : va_D A [(q_1, .inl (cI, 600, .inl (fun _ => 0))), (q_2, .inl (cI, 600, .inl (fun _ => 0))), (q_3, .inl (cI, 20, .inl (fun _ => 0))), (q_4, .inl (cI, 20, .inl (fun _ => 0))), (q_5, .inl (cI, 20, .inl (fun _ => 0))), (q_8, .inl (cI, 201, .inl (fun _ => 0))), (q_11, .inl (cB, 16, .inl (fun _ => 0))), (q_15, .inl (cI, 16, .inl (fun _ => 0))), (q_16, .inl (cI, 16, .inl (fun _ => 0))), (q_17, .inl (cI, 16, .inl (fun _ => 0))), (q_19, .inl (cI, 128, .inl (fun _ => 0))), (q_20, .inl (cI, 16, .inl (fun _ => 0))), (q_21, .inl (cI, 16, .inl (fun _ => 0))), (q_22, .inl (cI, 16, .inl (fun _ => 0))), (q_23, .inl (cB, 200, .inl (fun _ => 0))), (h0, .inr (10, [.int (nI 0), .int (nI (1 + jw)), .int (nI (1 + jq)), .int (nI 0), .int (nI 0), .int (nI 0), .ref q_1, .ref q_2, .ref q_3, .ref q_4, .ref q_5, .int (nI 0), .int (nI 0), .int (nI 0), .int (nI 0), .int (nI 0), .int (nI 0), .int (nI 0), .ref q_6, .ref q_7, .ref q_8, .ref q_9, .ref q_10, .ref q_11, .ref q_12, .ref q_13, .ref q_14, .ref q_15, .ref q_16, .ref q_17, .ref q_18, .ref q_19, .ref q_20, .ref q_21, .ref q_22, .ref q_23])), (q_6, .inl (cI, 200, .inl (fun _ => (-1)))), (q_7, .inl (cI, 200, .inl (fun _ => nI 0))), (q_9, .inl (cB, 200, .inl (fun _ => nI 0))), (q_10, .inl (cB, 16, .inl (fun j => if j < (1 + jw) then nI 1 else nI 0))), (q_12, .inl (cI, 16, .inl (fun _ => nI 0))), (q_13, .inl (cI, 16, .inl (fun _ => nI 0))), (q_14, .inl (cI, 16, .inl (fun _ => nI 0))), (q_18, .inl (cI, 16, .inl (fun _ => nI 0)))] := hD
  refine W.widen (k := 23) (n := 2581) (Nat.le_of_ble_eq_true rfl) (Nat.le_of_ble_eq_true rfl) ?_
  refine W.eq (g2 := F0 m 224 ls []) rfl ?_
  have hP9 := xs_P_sub (w := [(h0, .inr (10, [.int (nI 0), .int (nI (1 + jw)), .int (nI (1 + jq)), .int (nI 0), .int (nI 0), .int (nI 0), .ref q_1, .ref q_2, .ref q_3, .ref q_4, .ref q_5, .int (nI 0), .int (nI 0), .int (nI 0), .int (nI 0), .int (nI 0), .int (nI 0), .int (nI 0), .ref q_6, .ref q_7, .ref q_8, .ref q_9, .ref q_10, .ref q_11, .ref q_12, .ref q_13, .ref q_14, .ref q_15, .ref q_16, .ref q_17, .ref q_18, .ref q_19, .ref q_20, .ref q_21, .ref q_22, .ref q_23])), (q_3, .inl (cI, 20, .inl (fun _ => 0))), (q_4, .inl (cI, 20, .inl (fun _ => 0))), (q_5, .inl (cI, 20, .inl (fun _ => 0))), (q_6, .inl (cI, 200, .inl (fun _ => (-1)))), (q_7, .inl (cI, 200, .inl (fun _ => nI 0))), (q_9, .inl (cB, 200, .inl (fun _ => nI 0))), (q_10, .inl (cB, 16, .inl (fun j => if j < (1 + jw) then nI 1 else nI 0))), (q_12, .inl (cI, 16, .inl (fun _ => nI 0))), (q_13, .inl (cI, 16, .inl (fun _ => nI 0))), (q_14, .inl (cI, 16, .inl (fun _ => nI 0))), (q_18, .inl (cI, 16, .inl (fun _ => nI 0)))]) hP [15, 2, 3, 4, 16, 17, 18, 19, 20, 21, 22, 23] rfl
  have hD9 := hD.sub (ws' := [(h0, .inr (10, [.int (nI 0), .int (nI (1 + jw)), .int (nI (1 + jq)), .int (nI 0), .int (nI 0), .int (nI 0), .ref q_1, .ref q_2, .ref q_3, .ref q_4, .ref q_5, .int (nI 0), .int (nI 0), .int (nI 0), .int (nI 0), .int (nI 0), .int (nI 0), .int (nI 0), .ref q_6, .ref q_7, .ref q_8, .ref q_9, .ref q_10, .ref q_11, .ref q_12, .ref q_13, .ref q_14, .ref q_15, .ref q_16, .ref q_17, .ref q_18, .ref q_19, .ref q_20, .ref q_21, .ref q_22, .ref q_23])), (q_3, .inl (cI, 20, .inl (fun _ => 0))), (q_4, .inl (cI, 20, .inl (fun _ => 0))), (q_5, .inl (cI, 20, .inl (fun _ => 0))), (q_6, .inl (cI, 200, .inl (fun _ => (-1)))), (q_7, .inl (cI, 200, .inl (fun _ => nI 0))), (q_9, .inl (cB, 200, .inl (fun _ => nI 0))), (q_10, .inl (cB, 16, .inl (fun j => if j < (1 + jw) then nI 1 else nI 0))), (q_12, .inl (cI, 16, .inl (fun _ => nI 0))), (q_13, .inl (cI, 16, .inl (fun _ => nI 0))), (q_14, .inl (cI, 16, .inl (fun _ => nI 0))), (q_18, .inl (cI, 16, .inl (fun _ => nI 0)))]) [15, 2, 3, 4, 16, 17, 18, 19, 20, 21, 22, 23] (by decide) rfl
  exact xw_vret (q_1, q_2, q_3, q_4, q_5, q_6, q_7, q_8, q_9, q_10, q_11, q_12, q_13, q_14, q_15, q_16, q_17, q_18, q_19, q_20, q_21, q_22, q_23) hx hb hr hlocks d_MO_init_224 (rfl) (trivial) hAe hP9 hD9 hS (Nat.le_of_ble_eq_true rfl) (Nat.le_of_ble_eq_true rfl)
end
section
set_option maxHeartbeats 4000000 in
set_option maxRecDepth 100000 in
/-- state, the first -/
theorem c_MO_state (l : Launch) (D : va_G) (cI cB cL : ClassId) (h0 : Nat) (wk : Nat) (rm : Nat) (m_from : Nat) (m_to : Nat) (m_failWorker : Nat) (m_failLevel : Nat) (m_failTurn : Nat) (m_levelOf : Nat) (m_times : Nat) (m_sizes : Nat) (m_isNext : Nat) (m_isLive : Nat) (m_isLooked : Nat) (m_turnsOf : Nat) (m_takenOf : Nat) (m_stallsOf : Nat) (m_here : Nat) (m_stands : Nat) (m_nextMove : Nat) (m_queued : Nat) (m_queue : Nat) (m_failedWorker : Nat) (m_failedLevel : Nat) (m_failedTurns : Nat) (m_can : Nat) (f_levelOf : Nat → Int32) (f_times : Nat → Int32) (f_isNext : Nat → Int32) (f_isLive : Nat → Int32) (f_turnsOf : Nat → Int32) (f_takenOf : Nat → Int32) (f_stallsOf : Nat → Int32) (f_queued : Nat → Int32) (hw : wk ≤ 16) : xG (σ := Unit) l y_MO_state w_MO_state ({ frames := 1, cells := 0, slots := 0, locals := 23  } : Room) D vwCl (xs_tys cI cB cL) [.ref h0] [(h0, .inr (10, [.int (nI 0), .int (nI wk), .int (nI rm), .int (nI 0), .int (nI 0), .int (nI 0), .ref m_from, .ref m_to, .ref m_failWorker, .ref m_failLevel, .ref m_failTurn, .int (nI 0), .int (nI 0), .int (nI 0), .int (nI 0), .int (nI 0), .int (nI 0), .int (nI 0), .ref m_levelOf, .ref m_times, .ref m_sizes, .ref m_isNext, .ref m_isLive, .ref m_isLooked, .ref m_turnsOf, .ref m_takenOf, .ref m_stallsOf, .ref m_here, .ref m_stands, .ref m_nextMove, .ref m_queued, .ref m_queue, .ref m_failedWorker, .ref m_failedLevel, .ref m_failedTurns, .ref m_can])), (m_levelOf, .inl (cI, 200, .inl f_levelOf)), (m_times, .inl (cI, 200, .inl f_times)), (m_isNext, .inl (cB, 200, .inl f_isNext)), (m_isLive, .inl (cB, 16, .inl f_isLive)), (m_turnsOf, .inl (cI, 16, .inl f_turnsOf)), (m_takenOf, .inl (cI, 16, .inl f_takenOf)), (m_stallsOf, .inl (cI, 16, .inl f_stallsOf)), (m_queued, .inl (cI, 16, .inl f_queued))] (fun _ => True) (fun _ => some (.int (nI 0))) (fun _ => [(h0, .inr (10, [.int (nI 0), .int (nI wk), .int (nI rm), .int (nI 1), .int (nI 0), .int (nI 0), .ref m_from, .ref m_to, .ref m_failWorker, .ref m_failLevel, .ref m_failTurn, .int (nI 0), .int (nI 0), .int (nI 0), .int (nI 0), .int (nI 0), .int (nI 0), .int (nI 0), .ref m_levelOf, .ref m_times, .ref m_sizes, .ref m_isNext, .ref m_isLive, .ref m_isLooked, .ref m_turnsOf, .ref m_takenOf, .ref m_stallsOf, .ref m_here, .ref m_stands, .ref m_nextMove, .ref m_queued, .ref m_queue, .ref m_failedWorker, .ref m_failedLevel, .ref m_failedTurns, .ref m_can]))]) := by
  refine xG.of b_MO_state 1 (some .int) (by decide +kernel) rfl (Nat.le_of_ble_eq_true rfl) ?_
  intro p e s m below meth c A ls hAe C0 hP hD hS hl
  obtain ⟨hx, hb, hr, hml, hown, hlocks, hts, hnm, hN, hK, hA⟩ := C0
  have hU : ∀ w ∈ xU, w.before #[.ref h0] s = true := fun w h => hts w (List.mem_cons_of_mem _ h)
  have hl : lv_has ls 1 [(0, .ref h0)] := hl
  refine lv_aload_n hx hb d_MO_state_0 rfl (lv_at hl 0 rfl) ?_
  refine lv_aload_n hx hb d_MO_state_1 rfl (lv_at hl 0 rfl) ?_
  refine va_get (D := D) (ci := 10) (v := .int (nI 0)) (C := R_MO) (T := T_MO) (N := 36) hx hb hU iw_MO hown hK hP 0 rfl rfl 3 (by decide) (hU _ uw_726) (fun _ h9 => h9) rfl d_MO_state_2 ?_
  refine lv_sipush (v := nI 200) hx hb d_MO_state_5 (by decide +kernel) ?_
  refine lv_icmp_ne (tgt := 15) hx hb d_MO_state_8 (by decide) (fun c_8 => ?_) (fun c_8 => ?_)
  · refine lv_iconst (v := nI 0) hx hb d_MO_state_15 (by decide +kernel) ?_
    refine lv_iconst (v := nI 0) hx hb d_MO_state_16 (by decide +kernel) ?_
    refine lv_iconst (v := nI 0) hx hb d_MO_state_17 (by decide +kernel) ?_
    refine xw_callV (C := R_MO) (wr := [(m_levelOf, .inl (cI, 200, .inl f_levelOf)), (m_times, .inl (cI, 200, .inl f_times)), (m_isNext, .inl (cB, 200, .inl f_isNext)), (m_isLive, .inl (cB, 16, .inl f_isLive)), (m_turnsOf, .inl (cI, 16, .inl f_turnsOf)), (m_takenOf, .inl (cI, 16, .inl f_takenOf)), (m_stallsOf, .inl (cI, 16, .inl f_stallsOf)), (m_queued, .inl (cI, 16, .inl f_queued))]) [.int (nI 0), .int (nI 0), .int (nI 0)] (c_MO_thr000 l D cI cB cL h0 m_from m_to m_failWorker m_failLevel m_failTurn m_levelOf m_times m_sizes m_isNext m_isLive m_isLooked m_turnsOf m_takenOf m_stallsOf m_here m_stands m_nextMove m_queued m_queue m_failedWorker m_failedLevel m_failedTurns m_can (.int (nI 0)) (.int (nI wk)) (.int (nI rm)) (.int (nI 0)) (.int (nI 0)) (.int (nI 0)) (.int (nI 0)) (.int (nI 0)) (.int (nI 0)) (.int (nI 0)) (.int (nI 0)) (.int (nI 0)) (.int (nI 0))) ⟨hx, hb, hml, hown, hU⟩ (cwV 3 hU (xs_goodV uw_840 uw_842 uw_m13 uw_13 uw_843) rfl rfl rfl (by decide +kernel) ⟨Nat.le_of_ble_eq_true rfl, Nat.le_of_ble_eq_true rfl⟩) 0 rfl rfl rfl rfl hl.1 rfl (Nat.le_of_ble_eq_true rfl) d_MO_state_18 ⟨Nat.le_of_ble_eq_true rfl, Nat.le_of_ble_eq_true rfl⟩ [0] [1, 2, 3, 4, 5, 6, 7, 8] rfl rfl (by decide) (by decide) (by decide) hN hK hP hD hS hA (fun u H locs hf hP hD hS => ?_)
    have hP : va_P D vwCl [(m_levelOf, .inl (cI, 200, .inl f_levelOf)), (m_times, .inl (cI, 200, .inl f_times)), (m_isNext, .inl (cB, 200, .inl f_isNext)), (m_isLive, .inl (cB, 16, .inl f_isLive)), (m_turnsOf, .inl (cI, 16, .inl f_turnsOf)), (m_takenOf, .inl (cI, 16, .inl f_takenOf)), (m_stallsOf, .inl (cI, 16, .inl f_stallsOf)), (m_queued, .inl (cI, 16, .inl f_queued)), (h0, .inr (10, [.int (nI 0), .int (nI wk), .int (nI rm), .int (nI 0), .int (nI 0), .int (nI 0), .ref m_from, .ref m_to, .ref m_failWorker, .ref m_failLevel, .ref m_failTurn, .int (nI 0), .int (nI 0), .int (nI 0), .int (nI 0), .int (nI 0), .int (nI 0), .int (nI 0), .ref m_levelOf, .ref m_times, .ref m_sizes, .ref m_isNext, .ref m_isLive, .ref m_isLooked, .ref m_turnsOf, .ref m_takenOf, .ref m_stallsOf, .ref m_here, .ref m_stands, .ref m_nextMove, .ref m_queued, .ref m_queue, .ref m_failedWorker, .ref m_failedLevel, .ref m_failedTurns, .ref m_can]))] H := hP
    have hD : va_D A [(m_levelOf, .inl (cI, 200, .inl f_levelOf)), (m_times, .inl (cI, 200, .inl f_times)), (m_isNext, .inl (cB, 200, .inl f_isNext)), (m_isLive, .inl (cB, 16, .inl f_isLive)), (m_turnsOf, .inl (cI, 16, .inl f_turnsOf)), (m_takenOf, .inl (cI, 16, .inl f_takenOf)), (m_stallsOf, .inl (cI, 16, .inl f_stallsOf)), (m_queued, .inl (cI, 16, .inl f_queued)), (h0, .inr (10, [.int (nI 0), .int (nI wk), .int (nI rm), .int (nI 0), .int (nI 0), .int (nI 0), .ref m_from, .ref m_to, .ref m_failWorker, .ref m_failLevel, .ref m_failTurn, .int (nI 0), .int (nI 0), .int (nI 0), .int (nI 0), .int (nI 0), .int (nI 0), .int (nI 0), .ref m_levelOf, .ref m_times, .ref m_sizes, .ref m_isNext, .ref m_isLive, .ref m_isLooked, .ref m_turnsOf, .ref m_takenOf, .ref m_stallsOf, .ref m_here, .ref m_stands, .ref m_nextMove, .ref m_queued, .ref m_queue, .ref m_failedWorker, .ref m_failedLevel, .ref m_failedTurns, .ref m_can]))] := hD
    refine W.widen (k := 0) (n := 0) (Nat.le_of_ble_eq_true rfl) (Nat.le_of_ble_eq_true rfl) ?_
    refine W.eq (g2 := F0 m 21 ls [.int (nI 0)]) rfl ?_
    refine lv_if_eq (tgt := 26) hx hb d_MO_state_21 (by decide) (fun c_21 => ?_) (fun c_21 => ?_)
    · refine lv_aload_n hx hb d_MO_state_26 rfl (lv_at hl 0 rfl) ?_
      refine xw_callV (C := R_MO) (wr := []) [] (c_MO_forget l D cI cB cL h0 m_from m_to m_failWorker m_failLevel m_failTurn m_levelOf m_times m_sizes m_isNext m_isLive m_isLooked m_turnsOf m_takenOf m_stallsOf m_here m_stands m_nextMove m_queued m_queue m_failedWorker m_failedLevel m_failedTurns m_can (.int (nI 0)) (.int (nI rm)) (.int (nI 0)) (.int (nI 0)) (.int (nI 0)) (.int (nI 0)) (.int (nI 0)) (.int (nI 0)) (.int (nI 0)) (.int (nI 0)) (.int (nI 0)) (.int (nI 0)) wk f_levelOf f_times f_isNext f_isLive f_turnsOf f_takenOf f_stallsOf f_queued (by omega)) ⟨hx, hb, hml, hown, hU⟩ (cwV 0 hU (xs_goodV uw_719 uw_721 uw_m12 uw_13 uw_722) rfl rfl rfl (by decide +kernel) ⟨Nat.le_of_ble_eq_true rfl, Nat.le_of_ble_eq_true rfl⟩) 8 rfl rfl rfl rfl hl.1 rfl (Nat.le_of_ble_eq_true rfl) d_MO_state_27 ⟨Nat.le_of_ble_eq_true rfl, Nat.le_of_ble_eq_true rfl⟩ [8, 0, 1, 2, 3, 4, 5, 6, 7] [] rfl rfl (by decide) (by decide) (by decide) hN hK hP hD hS hA (fun u H locs hf hP hD hS => ?_)
      have hP : va_P D vwCl [(h0, .inr (10, [.int (nI 0), .int (nI wk), .int (nI rm), .int (nI 0), .int (nI 0), .int (nI 0), .ref m_from, .ref m_to, .ref m_failWorker, .ref m_failLevel, .ref m_failTurn, .int (nI 0), .int (nI 0), .int (nI 0), .int (nI 0), .int (nI 0), .int (nI 0), .int (nI 0), .ref m_levelOf, .ref m_times, .ref m_sizes, .ref m_isNext, .ref m_isLive, .ref m_isLooked, .ref m_turnsOf, .ref m_takenOf, .ref m_stallsOf, .ref m_here, .ref m_stands, .ref m_nextMove, .ref m_queued, .ref m_queue, .ref m_failedWorker, .ref m_failedLevel, .ref m_failedTurns, .ref m_can])), (m_levelOf, .inl (cI, 200, .inl (fun _ => (-1)))), (m_times, .inl (cI, 200, .inl (fun _ => nI 0))), (m_isNext, .inl (cB, 200, .inl (fun _ => nI 0))), (m_isLive, .inl (cB, 16, .inl (fun j => if j < wk then nI 1 else nI 0))), (m_turnsOf, .inl (cI, 16, .inl (fun _ => nI 0))), (m_takenOf, .inl (cI, 16, .inl (fun _ => nI 0))), (m_stallsOf, .inl (cI, 16, .inl (fun _ => nI 0))), (m_queued, .inl (cI, 16, .inl (fun _ => nI 0)))] H := hP
      have hD : va_D A [(h0, .inr (10, [.int (nI 0), .int (nI wk), .int (nI rm), .int (nI 0), .int (nI 0), .int (nI 0), .ref m_from, .ref m_to, .ref m_failWorker, .ref m_failLevel, .ref m_failTurn, .int (nI 0), .int (nI 0), .int (nI 0), .int (nI 0), .int (nI 0), .int (nI 0), .int (nI 0), .ref m_levelOf, .ref m_times, .ref m_sizes, .ref m_isNext, .ref m_isLive, .ref m_isLooked, .ref m_turnsOf, .ref m_takenOf, .ref m_stallsOf, .ref m_here, .ref m_stands, .ref m_nextMove, .ref m_queued, .ref m_queue, .ref m_failedWorker, .ref m_failedLevel, .ref m_failedTurns, .ref m_can])), (m_levelOf, .inl (cI, 200, .inl (fun _ => (-1)))), (m_times, .inl (cI, 200, .inl (fun _ => nI 0))), (m_isNext, .inl (cB, 200, .inl (fun _ => nI 0))), (m_isLive, .inl (cB, 16, .inl (fun j => if j < wk then nI 1 else nI 0))), (m_turnsOf, .inl (cI, 16, .inl (fun _ => nI 0))), (m_takenOf, .inl (cI, 16, .inl (fun _ => nI 0))), (m_stallsOf, .inl (cI, 16, .inl (fun _ => nI 0))), (m_queued, .inl (cI, 16, .inl (fun _ => nI 0)))] := hD
      refine W.widen (k := 0) (n := 0) (Nat.le_of_ble_eq_true rfl) (Nat.le_of_ble_eq_true rfl) ?_
      refine W.eq (g2 := F0 m 30 ls []) rfl ?_
      refine lv_aload_n hx hb d_MO_state_30 rfl (lv_at hl 0 rfl) ?_
      refine lv_dup hx hb d_MO_state_31 rfl ?_
      refine va_get (D := D) (ci := 10) (v := .int (nI 0)) (C := R_MO) (T := T_MO) (N := 36) hx hb hU iw_MO hown hK hP 0 rfl rfl 3 (by decide) (hU _ uw_726) (fun _ h9 => h9) rfl d_MO_state_32 ?_
      refine lv_iconst (v := nI 1) hx hb d_MO_state_35 (by decide +kernel) ?_
      refine lv_iadd hx hb d_MO_state_36 ?_
      refine xw_top (nI 1) (by decide +kernel) ?_
      refine va_put (D := D) (ci := 10) (v := .int (nI 1)) (ty := .int) (C := R_MO) (T := T_MO) (N := 36) hx hb hU iw_MO ty_MO ty_MO_ok nm_MO hown hK hP hD hS 0 rfl rfl 3 (by decide) (hU _ uw_726) (fun _ h9 => h9) rfl (by decide +kernel) (by first | rfl | decide +kernel) (by first | rfl | decide +kernel) (Nat.le_of_ble_eq_true rfl) d_MO_state_37 (fun H locs hP hD hS => ?_)
      have hP : va_P D vwCl [(h0, .inr (10, [.int (nI 0), .int (nI wk), .int (nI rm), .int (nI 1), .int (nI 0), .int (nI 0), .ref m_from, .ref m_to, .ref m_failWorker, .ref m_failLevel, .ref m_failTurn, .int (nI 0), .int (nI 0), .int (nI 0), .int (nI 0), .int (nI 0), .int (nI 0), .int (nI 0), .ref m_levelOf, .ref m_times, .ref m_sizes, .ref m_isNext, .ref m_isLive, .ref m_isLooked, .ref m_turnsOf, .ref m_takenOf, .ref m_stallsOf, .ref m_here, .ref m_stands, .ref m_nextMove, .ref m_queued, .ref m_queue, .ref m_failedWorker, .ref m_failedLevel, .ref m_failedTurns, .ref m_can])), (m_levelOf, .inl (cI, 200, .inl (fun _ => (-1)))), (m_times, .inl (cI, 200, .inl (fun _ => nI 0))), (m_isNext, .inl (cB, 200, .inl (fun _ => nI 0))), (m_isLive, .inl (cB, 16, .inl (fun j => if j < wk then nI 1 else nI 0))), (m_turnsOf, .inl (cI, 16, .inl (fun _ => nI 0))), (m_takenOf, .inl (cI, 16, .inl (fun _ => nI 0))), (m_stallsOf, .inl (cI, 16, .inl (fun _ => nI 0))), (m_queued, .inl (cI, 16, .inl (fun _ => nI 0)))] H := hP
      have hD : va_D A [(h0, .inr (10, [.int (nI 0), .int (nI wk), .int (nI rm), .int (nI 1), .int (nI 0), .int (nI 0), .ref m_from, .ref m_to, .ref m_failWorker, .ref m_failLevel, .ref m_failTurn, .int (nI 0), .int (nI 0), .int (nI 0), .int (nI 0), .int (nI 0), .int (nI 0), .int (nI 0), .ref m_levelOf, .ref m_times, .ref m_sizes, .ref m_isNext, .ref m_isLive, .ref m_isLooked, .ref m_turnsOf, .ref m_takenOf, .ref m_stallsOf, .ref m_here, .ref m_stands, .ref m_nextMove, .ref m_queued, .ref m_queue, .ref m_failedWorker, .ref m_failedLevel, .ref m_failedTurns, .ref m_can])), (m_levelOf, .inl (cI, 200, .inl (fun _ => (-1)))), (m_times, .inl (cI, 200, .inl (fun _ => nI 0))), (m_isNext, .inl (cB, 200, .inl (fun _ => nI 0))), (m_isLive, .inl (cB, 16, .inl (fun j => if j < wk then nI 1 else nI 0))), (m_turnsOf, .inl (cI, 16, .inl (fun _ => nI 0))), (m_takenOf, .inl (cI, 16, .inl (fun _ => nI 0))), (m_stallsOf, .inl (cI, 16, .inl (fun _ => nI 0))), (m_queued, .inl (cI, 16, .inl (fun _ => nI 0)))] := hD
      refine lv_aload_n hx hb d_MO_state_40 rfl (lv_at hl 0 rfl) ?_
      refine va_get (D := D) (ci := 10) (v := .int (nI 1)) (C := R_MO) (T := T_MO) (N := 36) hx hb hU iw_MO hown hK hP 0 rfl rfl 3 (by decide) (hU _ uw_726) (fun _ h9 => h9) rfl d_MO_state_41 ?_
      refine lv_iconst (v := nI 1) hx hb d_MO_state_44 (by decide +kernel) ?_
      refine lv_isub hx hb d_MO_state_45 ?_
      refine xw_top (nI 0) (by decide +kernel) ?_
      have hP9 := xs_P_sub (w := [(h0, .inr (10, [.int (nI 0), .int (nI wk), .int (nI rm), .int (nI 1), .int (nI 0), .int (nI 0), .ref m_from, .ref m_to, .ref m_failWorker, .ref m_failLevel, .ref m_failTurn, .int (nI 0), .int (nI 0), .int (nI 0), .int (nI 0), .int (nI 0), .int (nI 0), .int (nI 0), .ref m_levelOf, .ref m_times, .ref m_sizes, .ref m_isNext, .ref m_isLive, .ref m_isLooked, .ref m_turnsOf, .ref m_takenOf, .ref m_stallsOf, .ref m_here, .ref m_stands, .ref m_nextMove, .ref m_queued, .ref m_queue, .ref m_failedWorker, .ref m_failedLevel, .ref m_failedTurns, .ref m_can]))]) hP [0] rfl
      have hD9 := hD.sub (ws' := [(h0, .inr (10, [.int (nI 0), .int (nI wk), .int (nI rm), .int (nI 1), .int (nI 0), .int (nI 0), .ref m_from, .ref m_to, .ref m_failWorker, .ref m_failLevel, .ref m_failTurn, .int (nI 0), .int (nI 0), .int (nI 0), .int (nI 0), .int (nI 0), .int (nI 0), .int (nI 0), .ref m_levelOf, .ref m_times, .ref m_sizes, .ref m_isNext, .ref m_isLive, .ref m_isLooked, .ref m_turnsOf, .ref m_takenOf, .ref m_stallsOf, .ref m_here, .ref m_stands, .ref m_nextMove, .ref m_queued, .ref m_queue, .ref m_failedWorker, .ref m_failedLevel, .ref m_failedTurns, .ref m_can]))]) [0] (by decide) rfl
      exact xw_iret () hx hb hr hlocks d_MO_state_46 (rfl) (trivial) hAe hP9 hD9 hS (Nat.le_of_ble_eq_true rfl) (Nat.le_of_ble_eq_true rfl)
    · exact absurd c_21 (by decide +kernel)
  · exact absurd c_8 (by decide +kernel)
set_option maxHeartbeats 4000000 in
set_option maxRecDepth 100000 in
/-- move, when there are no states -/
theorem c_MO_move (l : Launch) (D : va_G) (cI cB cL : ClassId) (h0 : Nat) (wk : Nat) (rm : Nat) (m_from : Nat) (m_to : Nat) (m_failWorker : Nat) (m_failLevel : Nat) (m_failTurn : Nat) (m_levelOf : Nat) (m_times : Nat) (m_sizes : Nat) (m_isNext : Nat) (m_isLive : Nat) (m_isLooked : Nat) (m_turnsOf : Nat) (m_takenOf : Nat) (m_stallsOf : Nat) (m_here : Nat) (m_stands : Nat) (m_nextMove : Nat) (m_queued : Nat) (m_queue : Nat) (m_failedWorker : Nat) (m_failedLevel : Nat) (m_failedTurns : Nat) (m_can : Nat) (a : Int32) (b : Int32)  : xG (σ := Unit) l y_MO_move w_MO_move ({ frames := 1, cells := 0, slots := 0, locals := 23  } : Room) D vwCl (xs_tys cI cB cL) [.ref h0, .int a, .int b] [(h0, .inr (10, [.int (nI 0), .int (nI wk), .int (nI rm), .int (nI 0), .int (nI 0), .int (nI 0), .ref m_from, .ref m_to, .ref m_failWorker, .ref m_failLevel, .ref m_failTurn, .int (nI 0), .int (nI 0), .int (nI 0), .int (nI 0), .int (nI 0), .int (nI 0), .int (nI 0), .ref m_levelOf, .ref m_times, .ref m_sizes, .ref m_isNext, .ref m_isLive, .ref m_isLooked, .ref m_turnsOf, .ref m_takenOf, .ref m_stallsOf, .ref m_here, .ref m_stands, .ref m_nextMove, .ref m_queued, .ref m_queue, .ref m_failedWorker, .ref m_failedLevel, .ref m_failedTurns, .ref m_can]))] (fun _ => True) (fun _ => some (.int (nI 0))) (fun _ => [(h0, .inr (10, [.int (nI 1), .int (nI wk), .int (nI rm), .int (nI 0), .int (nI 0), .int (nI 0), .ref m_from, .ref m_to, .ref m_failWorker, .ref m_failLevel, .ref m_failTurn, .int (nI 0), .int (nI 0), .int (nI 0), .int (nI 0), .int (nI 0), .int (nI 0), .int (nI 0), .ref m_levelOf, .ref m_times, .ref m_sizes, .ref m_isNext, .ref m_isLive, .ref m_isLooked, .ref m_turnsOf, .ref m_takenOf, .ref m_stallsOf, .ref m_here, .ref m_stands, .ref m_nextMove, .ref m_queued, .ref m_queue, .ref m_failedWorker, .ref m_failedLevel, .ref m_failedTurns, .ref m_can]))]) := by
  refine xG.of b_MO_move 3 (some .int) (by decide +kernel) rfl (Nat.le_of_ble_eq_true rfl) ?_
  intro p e s m below meth c A ls hAe C0 hP hD hS hl
  obtain ⟨hx, hb, hr, hml, hown, hlocks, hts, hnm, hN, hK, hA⟩ := C0
  have hU : ∀ w ∈ xU, w.before #[.ref h0, .int a, .int b] s = true := fun w h => hts w (List.mem_cons_of_mem _ h)
  have hl : lv_has ls 3 [(0, .ref h0), (1, .int a), (2, .int b)] := hl
  refine lv_aload_n hx hb d_MO_move_0 rfl (lv_at hl 0 rfl) ?_
  refine lv_iload_n hx hb d_MO_move_1 rfl (lv_at hl 1 rfl) ?_
  refine lv_aload_n hx hb d_MO_move_2 rfl (lv_at hl 0 rfl) ?_
  refine va_get (D := D) (ci := 10) (v := .int (nI 0)) (C := R_MO) (T := T_MO) (N := 36) hx hb hU iw_MO hown hK hP 0 rfl rfl 3 (by decide) (hU _ uw_726) (fun _ h9 => h9) rfl d_MO_move_3 ?_
  refine xw_callS (wr := [(h0, .inr (10, [.int (nI 0), .int (nI wk), .int (nI rm), .int (nI 0), .int (nI 0), .int (nI 0), .ref m_from, .ref m_to, .ref m_failWorker, .ref m_failLevel, .ref m_failTurn, .int (nI 0), .int (nI 0), .int (nI 0), .int (nI 0), .int (nI 0), .int (nI 0), .int (nI 0), .ref m_levelOf, .ref m_times, .ref m_sizes, .ref m_isNext, .ref m_isLive, .ref m_isLooked, .ref m_turnsOf, .ref m_takenOf, .ref m_stallsOf, .ref m_here, .ref m_stands, .ref m_nextMove, .ref m_queued, .ref m_queue, .ref m_failedWorker, .ref m_failedLevel, .ref m_failedTurns, .ref m_can]))]) [.int a, .int (nI 0)] (c_MO_isOf l D cI cB cL a (nI 0)) ⟨hx, hb, hml, hown, hU⟩ (va_cwS 2 hU (xs_goodS uw_848 uw_849 uw_13 uw_850) rfl rfl rfl (by decide +kernel) ⟨Nat.le_of_ble_eq_true rfl, Nat.le_of_ble_eq_true rfl⟩) rfl hl.1 rfl (Nat.le_of_ble_eq_true rfl) d_MO_move_6 ⟨Nat.le_of_ble_eq_true rfl, Nat.le_of_ble_eq_true rfl⟩ [] [0] rfl rfl (by decide) (by decide) (by decide) hN hK hP hD hS hA (fun u H locs hf hP hD hS => ?_)
  obtain ⟨v_1, rfl⟩ : ∃ z, z = u := ⟨_, rfl⟩
  have hf_6 : (v_1 = 1 ∧ ¬ a < 0 ∧ a < (nI 0)) ∨ (v_1 = 0 ∧ (a < 0 ∨ (nI 0) ≤ a)) := hf
  have hP : va_P D vwCl [(h0, .inr (10, [.int (nI 0), .int (nI wk), .int (nI rm), .int (nI 0), .int (nI 0), .int (nI 0), .ref m_from, .ref m_to, .ref m_failWorker, .ref m_failLevel, .ref m_failTurn, .int (nI 0), .int (nI 0), .int (nI 0), .int (nI 0), .int (nI 0), .int (nI 0), .int (nI 0), .ref m_levelOf, .ref m_times, .ref m_sizes, .ref m_isNext, .ref m_isLive, .ref m_isLooked, .ref m_turnsOf, .ref m_takenOf, .ref m_stallsOf, .ref m_here, .ref m_stands, .ref m_nextMove, .ref m_queued, .ref m_queue, .ref m_failedWorker, .ref m_failedLevel, .ref m_failedTurns, .ref m_can]))] H := hP
  have hD : va_D A [(h0, .inr (10, [.int (nI 0), .int (nI wk), .int (nI rm), .int (nI 0), .int (nI 0), .int (nI 0), .ref m_from, .ref m_to, .ref m_failWorker, .ref m_failLevel, .ref m_failTurn, .int (nI 0), .int (nI 0), .int (nI 0), .int (nI 0), .int (nI 0), .int (nI 0), .int (nI 0), .ref m_levelOf, .ref m_times, .ref m_sizes, .ref m_isNext, .ref m_isLive, .ref m_isLooked, .ref m_turnsOf, .ref m_takenOf, .ref m_stallsOf, .ref m_here, .ref m_stands, .ref m_nextMove, .ref m_queued, .ref m_queue, .ref m_failedWorker, .ref m_failedLevel, .ref m_failedTurns, .ref m_can]))] := hD
  refine W.widen (k := 0) (n := 0) (Nat.le_of_ble_eq_true rfl) (Nat.le_of_ble_eq_true rfl) ?_
  refine W.eq (g2 := F0 m 9 ls [.int v_1, .ref h0]) rfl ?_
  rcases hf_6 with ⟨rfl, hg1, hg2⟩ | ⟨rfl, hg⟩
  · exact absurd hg2 (fun z => xs_no0 hg1 z)
  · refine lv_if_eq (tgt := 23) hx hb d_MO_move_9 (by decide) (fun c_9 => ?_) (fun c_9 => ?_)
    · refine lv_iconst (v := nI 1) hx hb d_MO_move_23 (by decide +kernel) ?_
      refine lv_goto (tgt := 28) hx hb d_MO_move_24 (by decide) ?_
      refine lv_aload_n hx hb d_MO_move_28 rfl (lv_at hl 0 rfl) ?_
      refine va_get (D := D) (ci := 10) (v := .int (nI 0)) (C := R_MO) (T := T_MO) (N := 36) hx hb hU iw_MO hown hK hP 0 rfl rfl 4 (by decide) (hU _ uw_727) (fun _ h9 => h9) rfl d_MO_move_29 ?_
      refine lv_sipush (v := nI 600) hx hb d_MO_move_32 (by decide +kernel) ?_
      refine lv_icmp_ne (tgt := 42) hx hb d_MO_move_35 (by decide) (fun c_35 => ?_) (fun c_35 => ?_)
      · refine lv_iconst (v := nI 0) hx hb d_MO_move_42 (by decide +kernel) ?_
        refine lv_iconst (v := nI 0) hx hb d_MO_move_43 (by decide +kernel) ?_
        refine xw_callV (C := R_MO) (wr := []) [.int (nI 1), .int (nI 0), .int (nI 0)] (c_MO_thr1 l D cI cB cL h0 m_from m_to m_failWorker m_failLevel m_failTurn m_levelOf m_times m_sizes m_isNext m_isLive m_isLooked m_turnsOf m_takenOf m_stallsOf m_here m_stands m_nextMove m_queued m_queue m_failedWorker m_failedLevel m_failedTurns m_can (.int (nI 0)) (.int (nI wk)) (.int (nI rm)) (.int (nI 0)) (.int (nI 0)) (.int (nI 0)) (.int (nI 0)) (.int (nI 0)) (.int (nI 0)) (.int (nI 0)) (.int (nI 0)) (.int (nI 0)) (.int (nI 0)) (nI 0) (nI 0)) ⟨hx, hb, hml, hown, hU⟩ (cwV 3 hU (xs_goodV uw_840 uw_842 uw_m13 uw_13 uw_843) rfl rfl rfl (by decide +kernel) ⟨Nat.le_of_ble_eq_true rfl, Nat.le_of_ble_eq_true rfl⟩) 0 rfl rfl rfl rfl hl.1 rfl (Nat.le_of_ble_eq_true rfl) d_MO_move_44 ⟨Nat.le_of_ble_eq_true rfl, Nat.le_of_ble_eq_true rfl⟩ [0] [] rfl rfl (by decide) (by decide) (by decide) hN hK hP hD hS hA (fun u H locs hf hP hD hS => ?_)
        have hP : va_P D vwCl [(h0, .inr (10, [.int (nI 1), .int (nI wk), .int (nI rm), .int (nI 0), .int (nI 0), .int (nI 0), .ref m_from, .ref m_to, .ref m_failWorker, .ref m_failLevel, .ref m_failTurn, .int (nI 0), .int (nI 0), .int (nI 0), .int (nI 0), .int (nI 0), .int (nI 0), .int (nI 0), .ref m_levelOf, .ref m_times, .ref m_sizes, .ref m_isNext, .ref m_isLive, .ref m_isLooked, .ref m_turnsOf, .ref m_takenOf, .ref m_stallsOf, .ref m_here, .ref m_stands, .ref m_nextMove, .ref m_queued, .ref m_queue, .ref m_failedWorker, .ref m_failedLevel, .ref m_failedTurns, .ref m_can]))] H := hP
        have hD : va_D A [(h0, .inr (10, [.int (nI 1), .int (nI wk), .int (nI rm), .int (nI 0), .int (nI 0), .int (nI 0), .ref m_from, .ref m_to, .ref m_failWorker, .ref m_failLevel, .ref m_failTurn, .int (nI 0), .int (nI 0), .int (nI 0), .int (nI 0), .int (nI 0), .int (nI 0), .int (nI 0), .ref m_levelOf, .ref m_times, .ref m_sizes, .ref m_isNext, .ref m_isLive, .ref m_isLooked, .ref m_turnsOf, .ref m_takenOf, .ref m_stallsOf, .ref m_here, .ref m_stands, .ref m_nextMove, .ref m_queued, .ref m_queue, .ref m_failedWorker, .ref m_failedLevel, .ref m_failedTurns, .ref m_can]))] := hD
        refine W.widen (k := 0) (n := 0) (Nat.le_of_ble_eq_true rfl) (Nat.le_of_ble_eq_true rfl) ?_
        refine W.eq (g2 := F0 m 47 ls [.int (nI 1)]) rfl ?_
        refine lv_if_eq (tgt := 52) hx hb d_MO_move_47 (by decide) (fun c_47 => ?_) (fun c_47 => ?_)
        · exact absurd c_47 (by decide +kernel)
        · refine lv_iconst (v := nI 0) hx hb d_MO_move_50 (by decide +kernel) ?_
          have hP9 := xs_P_sub (w := [(h0, .inr (10, [.int (nI 1), .int (nI wk), .int (nI rm), .int (nI 0), .int (nI 0), .int (nI 0), .ref m_from, .ref m_to, .ref m_failWorker, .ref m_failLevel, .ref m_failTurn, .int (nI 0), .int (nI 0), .int (nI 0), .int (nI 0), .int (nI 0), .int (nI 0), .int (nI 0), .ref m_levelOf, .ref m_times, .ref m_sizes, .ref m_isNext, .ref m_isLive, .ref m_isLooked, .ref m_turnsOf, .ref m_takenOf, .ref m_stallsOf, .ref m_here, .ref m_stands, .ref m_nextMove, .ref m_queued, .ref m_queue, .ref m_failedWorker, .ref m_failedLevel, .ref m_failedTurns, .ref m_can]))]) hP [0] rfl
          have hD9 := hD.sub (ws' := [(h0, .inr (10, [.int (nI 1), .int (nI wk), .int (nI rm), .int (nI 0), .int (nI 0), .int (nI 0), .ref m_from, .ref m_to, .ref m_failWorker, .ref m_failLevel, .ref m_failTurn, .int (nI 0), .int (nI 0), .int (nI 0), .int (nI 0), .int (nI 0), .int (nI 0), .int (nI 0), .ref m_levelOf, .ref m_times, .ref m_sizes, .ref m_isNext, .ref m_isLive, .ref m_isLooked, .ref m_turnsOf, .ref m_takenOf, .ref m_stallsOf, .ref m_here, .ref m_stands, .ref m_nextMove, .ref m_queued, .ref m_queue, .ref m_failedWorker, .ref m_failedLevel, .ref m_failedTurns, .ref m_can]))]) [0] (by decide) rfl
          exact xw_iret () hx hb hr hlocks d_MO_move_51 (rfl) (trivial) hAe hP9 hD9 hS (Nat.le_of_ble_eq_true rfl) (Nat.le_of_ble_eq_true rfl)
      · exact absurd c_35 (by decide +kernel)
    · exact absurd c_9 (by decide +kernel)
set_option maxHeartbeats 4000000 in
set_option maxRecDepth 100000 in
/-- run, when there are no states -/
theorem c_MO_run (l : Launch) (D : va_G) (cI cB cL : ClassId) (h0 : Nat) (wk : Nat) (rm : Nat) (m_from : Nat) (m_to : Nat) (m_failWorker : Nat) (m_failLevel : Nat) (m_failTurn : Nat) (m_levelOf : Nat) (m_times : Nat) (m_sizes : Nat) (m_isNext : Nat) (m_isLive : Nat) (m_isLooked : Nat) (m_turnsOf : Nat) (m_takenOf : Nat) (m_stallsOf : Nat) (m_here : Nat) (m_stands : Nat) (m_nextMove : Nat) (m_queued : Nat) (m_queue : Nat) (m_failedWorker : Nat) (m_failedLevel : Nat) (m_failedTurns : Nat) (m_can : Nat) (a : Int32)  : xG (σ := Unit) l y_MO_run w_MO_run ({ frames := 1, cells := 0, slots := 0, locals := 23  } : Room) D vwCl (xs_tys cI cB cL) [.ref h0, .int a] [(h0, .inr (10, [.int (nI 0), .int (nI wk), .int (nI rm), .int (nI 0), .int (nI 0), .int (nI 0), .ref m_from, .ref m_to, .ref m_failWorker, .ref m_failLevel, .ref m_failTurn, .int (nI 0), .int (nI 0), .int (nI 0), .int (nI 0), .int (nI 0), .int (nI 0), .int (nI 0), .ref m_levelOf, .ref m_times, .ref m_sizes, .ref m_isNext, .ref m_isLive, .ref m_isLooked, .ref m_turnsOf, .ref m_takenOf, .ref m_stallsOf, .ref m_here, .ref m_stands, .ref m_nextMove, .ref m_queued, .ref m_queue, .ref m_failedWorker, .ref m_failedLevel, .ref m_failedTurns, .ref m_can]))] (fun _ => True) (fun _ => some (.int (nI 0))) (fun _ => [(h0, .inr (10, [.int (nI 1), .int (nI wk), .int (nI rm), .int (nI 0), .int (nI 0), .int (nI 0), .ref m_from, .ref m_to, .ref m_failWorker, .ref m_failLevel, .ref m_failTurn, .int (nI 0), .int (nI 0), .int (nI 0), .int (nI 0), .int (nI 0), .int (nI 0), .int (nI 0), .ref m_levelOf, .ref m_times, .ref m_sizes, .ref m_isNext, .ref m_isLive, .ref m_isLooked, .ref m_turnsOf, .ref m_takenOf, .ref m_stallsOf, .ref m_here, .ref m_stands, .ref m_nextMove, .ref m_queued, .ref m_queue, .ref m_failedWorker, .ref m_failedLevel, .ref m_failedTurns, .ref m_can]))]) := by
  refine xG.of b_MO_run 5 (some .int) (by decide +kernel) rfl (Nat.le_of_ble_eq_true rfl) ?_
  intro p e s m below meth c A ls hAe C0 hP hD hS hl
  obtain ⟨hx, hb, hr, hml, hown, hlocks, hts, hnm, hN, hK, hA⟩ := C0
  have hU : ∀ w ∈ xU, w.before #[.ref h0, .int a] s = true := fun w h => hts w (List.mem_cons_of_mem _ h)
  have hl : lv_has ls 5 [(0, .ref h0), (1, .int a)] := hl
  refine lv_aload_n hx hb d_MO_run_0 rfl (lv_at hl 0 rfl) ?_
  refine lv_aload_n hx hb d_MO_run_1 rfl (lv_at hl 0 rfl) ?_
  refine va_get (D := D) (ci := 10) (v := .int (nI 0)) (C := R_MO) (T := T_MO) (N := 36) hx hb hU iw_MO hown hK hP 0 rfl rfl 3 (by decide) (hU _ uw_726) (fun _ h9 => h9) rfl d_MO_run_2 ?_
  refine lv_if_ne (tgt := 12) hx hb d_MO_run_5 (by decide) (fun c_5 => ?_) (fun c_5 => ?_)
  · exact absurd c_5 (by decide +kernel)
  · refine lv_iconst (v := nI 1) hx hb d_MO_run_8 (by decide +kernel) ?_
    refine lv_goto (tgt := 13) hx hb d_MO_run_9 (by decide) ?_
    refine lv_iconst (v := nI 0) hx hb d_MO_run_13 (by decide +kernel) ?_
    refine lv_iconst (v := nI 0) hx hb d_MO_run_14 (by decide +kernel) ?_
    refine xw_callV (C := R_MO) (wr := []) [.int (nI 1), .int (nI 0), .int (nI 0)] (c_MO_thr1 l D cI cB cL h0 m_from m_to m_failWorker m_failLevel m_failTurn m_levelOf m_times m_sizes m_isNext m_isLive m_isLooked m_turnsOf m_takenOf m_stallsOf m_here m_stands m_nextMove m_queued m_queue m_failedWorker m_failedLevel m_failedTurns m_can (.int (nI 0)) (.int (nI wk)) (.int (nI rm)) (.int (nI 0)) (.int (nI 0)) (.int (nI 0)) (.int (nI 0)) (.int (nI 0)) (.int (nI 0)) (.int (nI 0)) (.int (nI 0)) (.int (nI 0)) (.int (nI 0)) (nI 0) (nI 0)) ⟨hx, hb, hml, hown, hU⟩ (cwV 3 hU (xs_goodV uw_840 uw_842 uw_m13 uw_13 uw_843) rfl rfl rfl (by decide +kernel) ⟨Nat.le_of_ble_eq_true rfl, Nat.le_of_ble_eq_true rfl⟩) 0 rfl rfl rfl rfl hl.1 rfl (Nat.le_of_ble_eq_true rfl) d_MO_run_15 ⟨Nat.le_of_ble_eq_true rfl, Nat.le_of_ble_eq_true rfl⟩ [0] [] rfl rfl (by decide) (by decide) (by decide) hN hK hP hD hS hA (fun u H locs hf hP hD hS => ?_)
    have hP : va_P D vwCl [(h0, .inr (10, [.int (nI 1), .int (nI wk), .int (nI rm), .int (nI 0), .int (nI 0), .int (nI 0), .ref m_from, .ref m_to, .ref m_failWorker, .ref m_failLevel, .ref m_failTurn, .int (nI 0), .int (nI 0), .int (nI 0), .int (nI 0), .int (nI 0), .int (nI 0), .int (nI 0), .ref m_levelOf, .ref m_times, .ref m_sizes, .ref m_isNext, .ref m_isLive, .ref m_isLooked, .ref m_turnsOf, .ref m_takenOf, .ref m_stallsOf, .ref m_here, .ref m_stands, .ref m_nextMove, .ref m_queued, .ref m_queue, .ref m_failedWorker, .ref m_failedLevel, .ref m_failedTurns, .ref m_can]))] H := hP
    have hD : va_D A [(h0, .inr (10, [.int (nI 1), .int (nI wk), .int (nI rm), .int (nI 0), .int (nI 0), .int (nI 0), .ref m_from, .ref m_to, .ref m_failWorker, .ref m_failLevel, .ref m_failTurn, .int (nI 0), .int (nI 0), .int (nI 0), .int (nI 0), .int (nI 0), .int (nI 0), .int (nI 0), .ref m_levelOf, .ref m_times, .ref m_sizes, .ref m_isNext, .ref m_isLive, .ref m_isLooked, .ref m_turnsOf, .ref m_takenOf, .ref m_stallsOf, .ref m_here, .ref m_stands, .ref m_nextMove, .ref m_queued, .ref m_queue, .ref m_failedWorker, .ref m_failedLevel, .ref m_failedTurns, .ref m_can]))] := hD
    refine W.widen (k := 0) (n := 0) (Nat.le_of_ble_eq_true rfl) (Nat.le_of_ble_eq_true rfl) ?_
    refine W.eq (g2 := F0 m 18 ls [.int (nI 1)]) rfl ?_
    refine lv_if_eq (tgt := 23) hx hb d_MO_run_18 (by decide) (fun c_18 => ?_) (fun c_18 => ?_)
    · exact absurd c_18 (by decide +kernel)
    · refine lv_iconst (v := nI 0) hx hb d_MO_run_21 (by decide +kernel) ?_
      have hP9 := xs_P_sub (w := [(h0, .inr (10, [.int (nI 1), .int (nI wk), .int (nI rm), .int (nI 0), .int (nI 0), .int (nI 0), .ref m_from, .ref m_to, .ref m_failWorker, .ref m_failLevel, .ref m_failTurn, .int (nI 0), .int (nI 0), .int (nI 0), .int (nI 0), .int (nI 0), .int (nI 0), .int (nI 0), .ref m_levelOf, .ref m_times, .ref m_sizes, .ref m_isNext, .ref m_isLive, .ref m_isLooked, .ref m_turnsOf, .ref m_takenOf, .ref m_stallsOf, .ref m_here, .ref m_stands, .ref m_nextMove, .ref m_queued, .ref m_queue, .ref m_failedWorker, .ref m_failedLevel, .ref m_failedTurns, .ref m_can]))]) hP [0] rfl
      have hD9 := hD.sub (ws' := [(h0, .inr (10, [.int (nI 1), .int (nI wk), .int (nI rm), .int (nI 0), .int (nI 0), .int (nI 0), .ref m_from, .ref m_to, .ref m_failWorker, .ref m_failLevel, .ref m_failTurn, .int (nI 0), .int (nI 0), .int (nI 0), .int (nI 0), .int (nI 0), .int (nI 0), .int (nI 0), .ref m_levelOf, .ref m_times, .ref m_sizes, .ref m_isNext, .ref m_isLive, .ref m_isLooked, .ref m_turnsOf, .ref m_takenOf, .ref m_stallsOf, .ref m_here, .ref m_stands, .ref m_nextMove, .ref m_queued, .ref m_queue, .ref m_failedWorker, .ref m_failedLevel, .ref m_failedTurns, .ref m_can]))]) [0] (by decide) rfl
      exact xw_iret () hx hb hr hlocks d_MO_run_22 (rfl) (trivial) hAe hP9 hD9 hS (Nat.le_of_ble_eq_true rfl) (Nat.le_of_ble_eq_true rfl)
set_option maxHeartbeats 4000000 in
set_option maxRecDepth 100000 in
/-- level, when there are no states -/
theorem c_MO_level (l : Launch) (D : va_G) (cI cB cL : ClassId) (h0 : Nat) (wk : Nat) (rm : Nat) (m_from : Nat) (m_to : Nat) (m_failWorker : Nat) (m_failLevel : Nat) (m_failTurn : Nat) (m_levelOf : Nat) (m_times : Nat) (m_sizes : Nat) (m_isNext : Nat) (m_isLive : Nat) (m_isLooked : Nat) (m_turnsOf : Nat) (m_takenOf : Nat) (m_stallsOf : Nat) (m_here : Nat) (m_stands : Nat) (m_nextMove : Nat) (m_queued : Nat) (m_queue : Nat) (m_failedWorker : Nat) (m_failedLevel : Nat) (m_failedTurns : Nat) (m_can : Nat) (a : Int32)  : xG (σ := Unit) l y_MO_level w_MO_level ({ frames := 1, cells := 0, slots := 0, locals := 23  } : Room) D vwCl (xs_tys cI cB cL) [.ref h0, .int a] [(h0, .inr (10, [.int (nI 0), .int (nI wk), .int (nI rm), .int (nI 0), .int (nI 0), .int (nI 0), .ref m_from, .ref m_to, .ref m_failWorker, .ref m_failLevel, .ref m_failTurn, .int (nI 0), .int (nI 0), .int (nI 0), .int (nI 0), .int (nI 0), .int (nI 0), .int (nI 0), .ref m_levelOf, .ref m_times, .ref m_sizes, .ref m_isNext, .ref m_isLive, .ref m_isLooked, .ref m_turnsOf, .ref m_takenOf, .ref m_stallsOf, .ref m_here, .ref m_stands, .ref m_nextMove, .ref m_queued, .ref m_queue, .ref m_failedWorker, .ref m_failedLevel, .ref m_failedTurns, .ref m_can]))] (fun _ => True) (fun _ => some (.int (nI 0))) (fun _ => [(h0, .inr (10, [.int (nI 1), .int (nI wk), .int (nI rm), .int (nI 0), .int (nI 0), .int (nI 0), .ref m_from, .ref m_to, .ref m_failWorker, .ref m_failLevel, .ref m_failTurn, .int (nI 0), .int (nI 0), .int (nI 0), .int (nI 0), .int (nI 0), .int (nI 0), .int (nI 0), .ref m_levelOf, .ref m_times, .ref m_sizes, .ref m_isNext, .ref m_isLive, .ref m_isLooked, .ref m_turnsOf, .ref m_takenOf, .ref m_stallsOf, .ref m_here, .ref m_stands, .ref m_nextMove, .ref m_queued, .ref m_queue, .ref m_failedWorker, .ref m_failedLevel, .ref m_failedTurns, .ref m_can]))]) := by
  refine xG.of b_MO_level 2 (some .int) (by decide +kernel) rfl (Nat.le_of_ble_eq_true rfl) ?_
  intro p e s m below meth c A ls hAe C0 hP hD hS hl
  obtain ⟨hx, hb, hr, hml, hown, hlocks, hts, hnm, hN, hK, hA⟩ := C0
  have hU : ∀ w ∈ xU, w.before #[.ref h0, .int a] s = true := fun w h => hts w (List.mem_cons_of_mem _ h)
  have hl : lv_has ls 2 [(0, .ref h0), (1, .int a)] := hl
  refine lv_aload_n hx hb d_MO_level_0 rfl (lv_at hl 0 rfl) ?_
  refine lv_iload_n hx hb d_MO_level_1 rfl (lv_at hl 1 rfl) ?_
  refine lv_aload_n hx hb d_MO_level_2 rfl (lv_at hl 0 rfl) ?_
  refine va_get (D := D) (ci := 10) (v := .int (nI 0)) (C := R_MO) (T := T_MO) (N := 36) hx hb hU iw_MO hown hK hP 0 rfl rfl 3 (by decide) (hU _ uw_726) (fun _ h9 => h9) rfl d_MO_level_3 ?_
  refine xw_callS (wr := [(h0, .inr (10, [.int (nI 0), .int (nI wk), .int (nI rm), .int (nI 0), .int (nI 0), .int (nI 0), .ref m_from, .ref m_to, .ref m_failWorker, .ref m_failLevel, .ref m_failTurn, .int (nI 0), .int (nI 0), .int (nI 0), .int (nI 0), .int (nI 0), .int (nI 0), .int (nI 0), .ref m_levelOf, .ref m_times, .ref m_sizes, .ref m_isNext, .ref m_isLive, .ref m_isLooked, .ref m_turnsOf, .ref m_takenOf, .ref m_stallsOf, .ref m_here, .ref m_stands, .ref m_nextMove, .ref m_queued, .ref m_queue, .ref m_failedWorker, .ref m_failedLevel, .ref m_failedTurns, .ref m_can]))]) [.int a, .int (nI 0)] (c_MO_isOf l D cI cB cL a (nI 0)) ⟨hx, hb, hml, hown, hU⟩ (va_cwS 2 hU (xs_goodS uw_848 uw_849 uw_13 uw_850) rfl rfl rfl (by decide +kernel) ⟨Nat.le_of_ble_eq_true rfl, Nat.le_of_ble_eq_true rfl⟩) rfl hl.1 rfl (Nat.le_of_ble_eq_true rfl) d_MO_level_6 ⟨Nat.le_of_ble_eq_true rfl, Nat.le_of_ble_eq_true rfl⟩ [] [0] rfl rfl (by decide) (by decide) (by decide) hN hK hP hD hS hA (fun u H locs hf hP hD hS => ?_)
  obtain ⟨v_1, rfl⟩ : ∃ z, z = u := ⟨_, rfl⟩
  have hf_6 : (v_1 = 1 ∧ ¬ a < 0 ∧ a < (nI 0)) ∨ (v_1 = 0 ∧ (a < 0 ∨ (nI 0) ≤ a)) := hf
  have hP : va_P D vwCl [(h0, .inr (10, [.int (nI 0), .int (nI wk), .int (nI rm), .int (nI 0), .int (nI 0), .int (nI 0), .ref m_from, .ref m_to, .ref m_failWorker, .ref m_failLevel, .ref m_failTurn, .int (nI 0), .int (nI 0), .int (nI 0), .int (nI 0), .int (nI 0), .int (nI 0), .int (nI 0), .ref m_levelOf, .ref m_times, .ref m_sizes, .ref m_isNext, .ref m_isLive, .ref m_isLooked, .ref m_turnsOf, .ref m_takenOf, .ref m_stallsOf, .ref m_here, .ref m_stands, .ref m_nextMove, .ref m_queued, .ref m_queue, .ref m_failedWorker, .ref m_failedLevel, .ref m_failedTurns, .ref m_can]))] H := hP
  have hD : va_D A [(h0, .inr (10, [.int (nI 0), .int (nI wk), .int (nI rm), .int (nI 0), .int (nI 0), .int (nI 0), .ref m_from, .ref m_to, .ref m_failWorker, .ref m_failLevel, .ref m_failTurn, .int (nI 0), .int (nI 0), .int (nI 0), .int (nI 0), .int (nI 0), .int (nI 0), .int (nI 0), .ref m_levelOf, .ref m_times, .ref m_sizes, .ref m_isNext, .ref m_isLive, .ref m_isLooked, .ref m_turnsOf, .ref m_takenOf, .ref m_stallsOf, .ref m_here, .ref m_stands, .ref m_nextMove, .ref m_queued, .ref m_queue, .ref m_failedWorker, .ref m_failedLevel, .ref m_failedTurns, .ref m_can]))] := hD
  refine W.widen (k := 0) (n := 0) (Nat.le_of_ble_eq_true rfl) (Nat.le_of_ble_eq_true rfl) ?_
  refine W.eq (g2 := F0 m 9 ls [.int v_1, .ref h0]) rfl ?_
  rcases hf_6 with ⟨rfl, hg1, hg2⟩ | ⟨rfl, hg⟩
  · exact absurd hg2 (fun z => xs_no0 hg1 z)
  · refine lv_if_ne (tgt := 16) hx hb d_MO_level_9 (by decide) (fun c_9 => ?_) (fun c_9 => ?_)
    · exact absurd c_9 (by decide +kernel)
    · refine lv_iconst (v := nI 1) hx hb d_MO_level_12 (by decide +kernel) ?_
      refine lv_goto (tgt := 17) hx hb d_MO_level_13 (by decide) ?_
      refine lv_iconst (v := nI 0) hx hb d_MO_level_17 (by decide +kernel) ?_
      refine lv_iconst (v := nI 0) hx hb d_MO_level_18 (by decide +kernel) ?_
      refine xw_callV (C := R_MO) (wr := []) [.int (nI 1), .int (nI 0), .int (nI 0)] (c_MO_thr1 l D cI cB cL h0 m_from m_to m_failWorker m_failLevel m_failTurn m_levelOf m_times m_sizes m_isNext m_isLive m_isLooked m_turnsOf m_takenOf m_stallsOf m_here m_stands m_nextMove m_queued m_queue m_failedWorker m_failedLevel m_failedTurns m_can (.int (nI 0)) (.int (nI wk)) (.int (nI rm)) (.int (nI 0)) (.int (nI 0)) (.int (nI 0)) (.int (nI 0)) (.int (nI 0)) (.int (nI 0)) (.int (nI 0)) (.int (nI 0)) (.int (nI 0)) (.int (nI 0)) (nI 0) (nI 0)) ⟨hx, hb, hml, hown, hU⟩ (cwV 3 hU (xs_goodV uw_840 uw_842 uw_m13 uw_13 uw_843) rfl rfl rfl (by decide +kernel) ⟨Nat.le_of_ble_eq_true rfl, Nat.le_of_ble_eq_true rfl⟩) 0 rfl rfl rfl rfl hl.1 rfl (Nat.le_of_ble_eq_true rfl) d_MO_level_19 ⟨Nat.le_of_ble_eq_true rfl, Nat.le_of_ble_eq_true rfl⟩ [0] [] rfl rfl (by decide) (by decide) (by decide) hN hK hP hD hS hA (fun u H locs hf hP hD hS => ?_)
      have hP : va_P D vwCl [(h0, .inr (10, [.int (nI 1), .int (nI wk), .int (nI rm), .int (nI 0), .int (nI 0), .int (nI 0), .ref m_from, .ref m_to, .ref m_failWorker, .ref m_failLevel, .ref m_failTurn, .int (nI 0), .int (nI 0), .int (nI 0), .int (nI 0), .int (nI 0), .int (nI 0), .int (nI 0), .ref m_levelOf, .ref m_times, .ref m_sizes, .ref m_isNext, .ref m_isLive, .ref m_isLooked, .ref m_turnsOf, .ref m_takenOf, .ref m_stallsOf, .ref m_here, .ref m_stands, .ref m_nextMove, .ref m_queued, .ref m_queue, .ref m_failedWorker, .ref m_failedLevel, .ref m_failedTurns, .ref m_can]))] H := hP
      have hD : va_D A [(h0, .inr (10, [.int (nI 1), .int (nI wk), .int (nI rm), .int (nI 0), .int (nI 0), .int (nI 0), .ref m_from, .ref m_to, .ref m_failWorker, .ref m_failLevel, .ref m_failTurn, .int (nI 0), .int (nI 0), .int (nI 0), .int (nI 0), .int (nI 0), .int (nI 0), .int (nI 0), .ref m_levelOf, .ref m_times, .ref m_sizes, .ref m_isNext, .ref m_isLive, .ref m_isLooked, .ref m_turnsOf, .ref m_takenOf, .ref m_stallsOf, .ref m_here, .ref m_stands, .ref m_nextMove, .ref m_queued, .ref m_queue, .ref m_failedWorker, .ref m_failedLevel, .ref m_failedTurns, .ref m_can]))] := hD
      refine W.widen (k := 0) (n := 0) (Nat.le_of_ble_eq_true rfl) (Nat.le_of_ble_eq_true rfl) ?_
      refine W.eq (g2 := F0 m 22 ls [.int (nI 1)]) rfl ?_
      refine lv_if_eq (tgt := 29) hx hb d_MO_level_22 (by decide) (fun c_22 => ?_) (fun c_22 => ?_)
      · exact absurd c_22 (by decide +kernel)
      · refine lv_iconst (v := nI 0) hx hb d_MO_level_25 (by decide +kernel) ?_
        refine lv_goto (tgt := 35) hx hb d_MO_level_26 (by decide) ?_
        have hP9 := xs_P_sub (w := [(h0, .inr (10, [.int (nI 1), .int (nI wk), .int (nI rm), .int (nI 0), .int (nI 0), .int (nI 0), .ref m_from, .ref m_to, .ref m_failWorker, .ref m_failLevel, .ref m_failTurn, .int (nI 0), .int (nI 0), .int (nI 0), .int (nI 0), .int (nI 0), .int (nI 0), .int (nI 0), .ref m_levelOf, .ref m_times, .ref m_sizes, .ref m_isNext, .ref m_isLive, .ref m_isLooked, .ref m_turnsOf, .ref m_takenOf, .ref m_stallsOf, .ref m_here, .ref m_stands, .ref m_nextMove, .ref m_queued, .ref m_queue, .ref m_failedWorker, .ref m_failedLevel, .ref m_failedTurns, .ref m_can]))]) hP [0] rfl
        have hD9 := hD.sub (ws' := [(h0, .inr (10, [.int (nI 1), .int (nI wk), .int (nI rm), .int (nI 0), .int (nI 0), .int (nI 0), .ref m_from, .ref m_to, .ref m_failWorker, .ref m_failLevel, .ref m_failTurn, .int (nI 0), .int (nI 0), .int (nI 0), .int (nI 0), .int (nI 0), .int (nI 0), .int (nI 0), .ref m_levelOf, .ref m_times, .ref m_sizes, .ref m_isNext, .ref m_isLive, .ref m_isLooked, .ref m_turnsOf, .ref m_takenOf, .ref m_stallsOf, .ref m_here, .ref m_stands, .ref m_nextMove, .ref m_queued, .ref m_queue, .ref m_failedWorker, .ref m_failedLevel, .ref m_failedTurns, .ref m_can]))]) [0] (by decide) rfl
        exact xw_iret () hx hb hr hlocks d_MO_level_35 (rfl) (trivial) hAe hP9 hD9 hS (Nat.le_of_ble_eq_true rfl) (Nat.le_of_ble_eq_true rfl)
set_option maxHeartbeats 4000000 in
set_option maxRecDepth 100000 in
/-- owner, when there are no states -/
theorem c_MO_owner (l : Launch) (D : va_G) (cI cB cL : ClassId) (h0 : Nat) (wk : Nat) (rm : Nat) (m_from : Nat) (m_to : Nat) (m_failWorker : Nat) (m_failLevel : Nat) (m_failTurn : Nat) (m_levelOf : Nat) (m_times : Nat) (m_sizes : Nat) (m_isNext : Nat) (m_isLive : Nat) (m_isLooked : Nat) (m_turnsOf : Nat) (m_takenOf : Nat) (m_stallsOf : Nat) (m_here : Nat) (m_stands : Nat) (m_nextMove : Nat) (m_queued : Nat) (m_queue : Nat) (m_failedWorker : Nat) (m_failedLevel : Nat) (m_failedTurns : Nat) (m_can : Nat) (a : Int32)  : xG (σ := Unit) l y_MO_owner w_MO_owner ({ frames := 1, cells := 0, slots := 0, locals := 23  } : Room) D vwCl (xs_tys cI cB cL) [.ref h0, .int a] [(h0, .inr (10, [.int (nI 0), .int (nI wk), .int (nI rm), .int (nI 0), .int (nI 0), .int (nI 0), .ref m_from, .ref m_to, .ref m_failWorker, .ref m_failLevel, .ref m_failTurn, .int (nI 0), .int (nI 0), .int (nI 0), .int (nI 0), .int (nI 0), .int (nI 0), .int (nI 0), .ref m_levelOf, .ref m_times, .ref m_sizes, .ref m_isNext, .ref m_isLive, .ref m_isLooked, .ref m_turnsOf, .ref m_takenOf, .ref m_stallsOf, .ref m_here, .ref m_stands, .ref m_nextMove, .ref m_queued, .ref m_queue, .ref m_failedWorker, .ref m_failedLevel, .ref m_failedTurns, .ref m_can]))] (fun _ => True) (fun _ => some (.int (nI 0))) (fun _ => [(h0, .inr (10, [.int (nI 1), .int (nI wk), .int (nI rm), .int (nI 0), .int (nI 0), .int (nI 0), .ref m_from, .ref m_to, .ref m_failWorker, .ref m_failLevel, .ref m_failTurn, .int (nI 0), .int (nI 0), .int (nI 0), .int (nI 0), .int (nI 0), .int (nI 0), .int (nI 0), .ref m_levelOf, .ref m_times, .ref m_sizes, .ref m_isNext, .ref m_isLive, .ref m_isLooked, .ref m_turnsOf, .ref m_takenOf, .ref m_stallsOf, .ref m_here, .ref m_stands, .ref m_nextMove, .ref m_queued, .ref m_queue, .ref m_failedWorker, .ref m_failedLevel, .ref m_failedTurns, .ref m_can]))]) := by
  refine xG.of b_MO_owner 2 (some .int) (by decide +kernel) rfl (Nat.le_of_ble_eq_true rfl) ?_
  intro p e s m below meth c A ls hAe C0 hP hD hS hl
  obtain ⟨hx, hb, hr, hml, hown, hlocks, hts, hnm, hN, hK, hA⟩ := C0
  have hU : ∀ w ∈ xU, w.before #[.ref h0, .int a] s = true := fun w h => hts w (List.mem_cons_of_mem _ h)
  have hl : lv_has ls 2 [(0, .ref h0), (1, .int a)] := hl
  refine lv_aload_n hx hb d_MO_owner_0 rfl (lv_at hl 0 rfl) ?_
  refine lv_iload_n hx hb d_MO_owner_1 rfl (lv_at hl 1 rfl) ?_
  refine lv_aload_n hx hb d_MO_owner_2 rfl (lv_at hl 0 rfl) ?_
  refine va_get (D := D) (ci := 10) (v := .int (nI 0)) (C := R_MO) (T := T_MO) (N := 36) hx hb hU iw_MO hown hK hP 0 rfl rfl 3 (by decide) (hU _ uw_726) (fun _ h9 => h9) rfl d_MO_owner_3 ?_
  refine xw_callS (wr := [(h0, .inr (10, [.int (nI 0), .int (nI wk), .int (nI rm), .int (nI 0), .int (nI 0), .int (nI 0), .ref m_from, .ref m_to, .ref m_failWorker, .ref m_failLevel, .ref m_failTurn, .int (nI 0), .int (nI 0), .int (nI 0), .int (nI 0), .int (nI 0), .int (nI 0), .int (nI 0), .ref m_levelOf, .ref m_times, .ref m_sizes, .ref m_isNext, .ref m_isLive, .ref m_isLooked, .ref m_turnsOf, .ref m_takenOf, .ref m_stallsOf, .ref m_here, .ref m_stands, .ref m_nextMove, .ref m_queued, .ref m_queue, .ref m_failedWorker, .ref m_failedLevel, .ref m_failedTurns, .ref m_can]))]) [.int a, .int (nI 0)] (c_MO_isOf l D cI cB cL a (nI 0)) ⟨hx, hb, hml, hown, hU⟩ (va_cwS 2 hU (xs_goodS uw_848 uw_849 uw_13 uw_850) rfl rfl rfl (by decide +kernel) ⟨Nat.le_of_ble_eq_true rfl, Nat.le_of_ble_eq_true rfl⟩) rfl hl.1 rfl (Nat.le_of_ble_eq_true rfl) d_MO_owner_6 ⟨Nat.le_of_ble_eq_true rfl, Nat.le_of_ble_eq_true rfl⟩ [] [0] rfl rfl (by decide) (by decide) (by decide) hN hK hP hD hS hA (fun u H locs hf hP hD hS => ?_)
  obtain ⟨v_1, rfl⟩ : ∃ z, z = u := ⟨_, rfl⟩
  have hf_6 : (v_1 = 1 ∧ ¬ a < 0 ∧ a < (nI 0)) ∨ (v_1 = 0 ∧ (a < 0 ∨ (nI 0) ≤ a)) := hf
  have hP : va_P D vwCl [(h0, .inr (10, [.int (nI 0), .int (nI wk), .int (nI rm), .int (nI 0), .int (nI 0), .int (nI 0), .ref m_from, .ref m_to, .ref m_failWorker, .ref m_failLevel, .ref m_failTurn, .int (nI 0), .int (nI 0), .int (nI 0), .int (nI 0), .int (nI 0), .int (nI 0), .int (nI 0), .ref m_levelOf, .ref m_times, .ref m_sizes, .ref m_isNext, .ref m_isLive, .ref m_isLooked, .ref m_turnsOf, .ref m_takenOf, .ref m_stallsOf, .ref m_here, .ref m_stands, .ref m_nextMove, .ref m_queued, .ref m_queue, .ref m_failedWorker, .ref m_failedLevel, .ref m_failedTurns, .ref m_can]))] H := hP
  have hD : va_D A [(h0, .inr (10, [.int (nI 0), .int (nI wk), .int (nI rm), .int (nI 0), .int (nI 0), .int (nI 0), .ref m_from, .ref m_to, .ref m_failWorker, .ref m_failLevel, .ref m_failTurn, .int (nI 0), .int (nI 0), .int (nI 0), .int (nI 0), .int (nI 0), .int (nI 0), .int (nI 0), .ref m_levelOf, .ref m_times, .ref m_sizes, .ref m_isNext, .ref m_isLive, .ref m_isLooked, .ref m_turnsOf, .ref m_takenOf, .ref m_stallsOf, .ref m_here, .ref m_stands, .ref m_nextMove, .ref m_queued, .ref m_queue, .ref m_failedWorker, .ref m_failedLevel, .ref m_failedTurns, .ref m_can]))] := hD
  refine W.widen (k := 0) (n := 0) (Nat.le_of_ble_eq_true rfl) (Nat.le_of_ble_eq_true rfl) ?_
  refine W.eq (g2 := F0 m 9 ls [.int v_1, .ref h0]) rfl ?_
  rcases hf_6 with ⟨rfl, hg1, hg2⟩ | ⟨rfl, hg⟩
  · exact absurd hg2 (fun z => xs_no0 hg1 z)
  · refine lv_if_ne (tgt := 16) hx hb d_MO_owner_9 (by decide) (fun c_9 => ?_) (fun c_9 => ?_)
    · exact absurd c_9 (by decide +kernel)
    · refine lv_iconst (v := nI 1) hx hb d_MO_owner_12 (by decide +kernel) ?_
      refine lv_goto (tgt := 17) hx hb d_MO_owner_13 (by decide) ?_
      refine lv_iconst (v := nI 0) hx hb d_MO_owner_17 (by decide +kernel) ?_
      refine lv_iconst (v := nI 0) hx hb d_MO_owner_18 (by decide +kernel) ?_
      refine xw_callV (C := R_MO) (wr := []) [.int (nI 1), .int (nI 0), .int (nI 0)] (c_MO_thr1 l D cI cB cL h0 m_from m_to m_failWorker m_failLevel m_failTurn m_levelOf m_times m_sizes m_isNext m_isLive m_isLooked m_turnsOf m_takenOf m_stallsOf m_here m_stands m_nextMove m_queued m_queue m_failedWorker m_failedLevel m_failedTurns m_can (.int (nI 0)) (.int (nI wk)) (.int (nI rm)) (.int (nI 0)) (.int (nI 0)) (.int (nI 0)) (.int (nI 0)) (.int (nI 0)) (.int (nI 0)) (.int (nI 0)) (.int (nI 0)) (.int (nI 0)) (.int (nI 0)) (nI 0) (nI 0)) ⟨hx, hb, hml, hown, hU⟩ (cwV 3 hU (xs_goodV uw_840 uw_842 uw_m13 uw_13 uw_843) rfl rfl rfl (by decide +kernel) ⟨Nat.le_of_ble_eq_true rfl, Nat.le_of_ble_eq_true rfl⟩) 0 rfl rfl rfl rfl hl.1 rfl (Nat.le_of_ble_eq_true rfl) d_MO_owner_19 ⟨Nat.le_of_ble_eq_true rfl, Nat.le_of_ble_eq_true rfl⟩ [0] [] rfl rfl (by decide) (by decide) (by decide) hN hK hP hD hS hA (fun u H locs hf hP hD hS => ?_)
      have hP : va_P D vwCl [(h0, .inr (10, [.int (nI 1), .int (nI wk), .int (nI rm), .int (nI 0), .int (nI 0), .int (nI 0), .ref m_from, .ref m_to, .ref m_failWorker, .ref m_failLevel, .ref m_failTurn, .int (nI 0), .int (nI 0), .int (nI 0), .int (nI 0), .int (nI 0), .int (nI 0), .int (nI 0), .ref m_levelOf, .ref m_times, .ref m_sizes, .ref m_isNext, .ref m_isLive, .ref m_isLooked, .ref m_turnsOf, .ref m_takenOf, .ref m_stallsOf, .ref m_here, .ref m_stands, .ref m_nextMove, .ref m_queued, .ref m_queue, .ref m_failedWorker, .ref m_failedLevel, .ref m_failedTurns, .ref m_can]))] H := hP
      have hD : va_D A [(h0, .inr (10, [.int (nI 1), .int (nI wk), .int (nI rm), .int (nI 0), .int (nI 0), .int (nI 0), .ref m_from, .ref m_to, .ref m_failWorker, .ref m_failLevel, .ref m_failTurn, .int (nI 0), .int (nI 0), .int (nI 0), .int (nI 0), .int (nI 0), .int (nI 0), .int (nI 0), .ref m_levelOf, .ref m_times, .ref m_sizes, .ref m_isNext, .ref m_isLive, .ref m_isLooked, .ref m_turnsOf, .ref m_takenOf, .ref m_stallsOf, .ref m_here, .ref m_stands, .ref m_nextMove, .ref m_queued, .ref m_queue, .ref m_failedWorker, .ref m_failedLevel, .ref m_failedTurns, .ref m_can]))] := hD
      refine W.widen (k := 0) (n := 0) (Nat.le_of_ble_eq_true rfl) (Nat.le_of_ble_eq_true rfl) ?_
      refine W.eq (g2 := F0 m 22 ls [.int (nI 1)]) rfl ?_
      refine lv_if_eq (tgt := 29) hx hb d_MO_owner_22 (by decide) (fun c_22 => ?_) (fun c_22 => ?_)
      · exact absurd c_22 (by decide +kernel)
      · refine lv_iconst (v := nI 0) hx hb d_MO_owner_25 (by decide +kernel) ?_
        refine lv_goto (tgt := 34) hx hb d_MO_owner_26 (by decide) ?_
        have hP9 := xs_P_sub (w := [(h0, .inr (10, [.int (nI 1), .int (nI wk), .int (nI rm), .int (nI 0), .int (nI 0), .int (nI 0), .ref m_from, .ref m_to, .ref m_failWorker, .ref m_failLevel, .ref m_failTurn, .int (nI 0), .int (nI 0), .int (nI 0), .int (nI 0), .int (nI 0), .int (nI 0), .int (nI 0), .ref m_levelOf, .ref m_times, .ref m_sizes, .ref m_isNext, .ref m_isLive, .ref m_isLooked, .ref m_turnsOf, .ref m_takenOf, .ref m_stallsOf, .ref m_here, .ref m_stands, .ref m_nextMove, .ref m_queued, .ref m_queue, .ref m_failedWorker, .ref m_failedLevel, .ref m_failedTurns, .ref m_can]))]) hP [0] rfl
        have hD9 := hD.sub (ws' := [(h0, .inr (10, [.int (nI 1), .int (nI wk), .int (nI rm), .int (nI 0), .int (nI 0), .int (nI 0), .ref m_from, .ref m_to, .ref m_failWorker, .ref m_failLevel, .ref m_failTurn, .int (nI 0), .int (nI 0), .int (nI 0), .int (nI 0), .int (nI 0), .int (nI 0), .int (nI 0), .ref m_levelOf, .ref m_times, .ref m_sizes, .ref m_isNext, .ref m_isLive, .ref m_isLooked, .ref m_turnsOf, .ref m_takenOf, .ref m_stallsOf, .ref m_here, .ref m_stands, .ref m_nextMove, .ref m_queued, .ref m_queue, .ref m_failedWorker, .ref m_failedLevel, .ref m_failedTurns, .ref m_can]))]) [0] (by decide) rfl
        exact xw_iret () hx hb hr hlocks d_MO_owner_34 (rfl) (trivial) hAe hP9 hD9 hS (Nat.le_of_ble_eq_true rfl) (Nat.le_of_ble_eq_true rfl)
set_option maxHeartbeats 4000000 in
set_option maxRecDepth 100000 in
/-- times, when there are no states -/
theorem c_MO_times (l : Launch) (D : va_G) (cI cB cL : ClassId) (h0 : Nat) (wk : Nat) (rm : Nat) (m_from : Nat) (m_to : Nat) (m_failWorker : Nat) (m_failLevel : Nat) (m_failTurn : Nat) (m_levelOf : Nat) (m_times : Nat) (m_sizes : Nat) (m_isNext : Nat) (m_isLive : Nat) (m_isLooked : Nat) (m_turnsOf : Nat) (m_takenOf : Nat) (m_stallsOf : Nat) (m_here : Nat) (m_stands : Nat) (m_nextMove : Nat) (m_queued : Nat) (m_queue : Nat) (m_failedWorker : Nat) (m_failedLevel : Nat) (m_failedTurns : Nat) (m_can : Nat) (a : Int32)  : xG (σ := Unit) l y_MO_times w_MO_times ({ frames := 1, cells := 0, slots := 0, locals := 23  } : Room) D vwCl (xs_tys cI cB cL) [.ref h0, .int a] [(h0, .inr (10, [.int (nI 0), .int (nI wk), .int (nI rm), .int (nI 0), .int (nI 0), .int (nI 0), .ref m_from, .ref m_to, .ref m_failWorker, .ref m_failLevel, .ref m_failTurn, .int (nI 0), .int (nI 0), .int (nI 0), .int (nI 0), .int (nI 0), .int (nI 0), .int (nI 0), .ref m_levelOf, .ref m_times, .ref m_sizes, .ref m_isNext, .ref m_isLive, .ref m_isLooked, .ref m_turnsOf, .ref m_takenOf, .ref m_stallsOf, .ref m_here, .ref m_stands, .ref m_nextMove, .ref m_queued, .ref m_queue, .ref m_failedWorker, .ref m_failedLevel, .ref m_failedTurns, .ref m_can]))] (fun _ => True) (fun _ => some (.int (nI 0))) (fun _ => [(h0, .inr (10, [.int (nI 1), .int (nI wk), .int (nI rm), .int (nI 0), .int (nI 0), .int (nI 0), .ref m_from, .ref m_to, .ref m_failWorker, .ref m_failLevel, .ref m_failTurn, .int (nI 0), .int (nI 0), .int (nI 0), .int (nI 0), .int (nI 0), .int (nI 0), .int (nI 0), .ref m_levelOf, .ref m_times, .ref m_sizes, .ref m_isNext, .ref m_isLive, .ref m_isLooked, .ref m_turnsOf, .ref m_takenOf, .ref m_stallsOf, .ref m_here, .ref m_stands, .ref m_nextMove, .ref m_queued, .ref m_queue, .ref m_failedWorker, .ref m_failedLevel, .ref m_failedTurns, .ref m_can]))]) := by
  refine xG.of b_MO_times 2 (some .int) (by decide +kernel) rfl (Nat.le_of_ble_eq_true rfl) ?_
  intro p e s m below meth c A ls hAe C0 hP hD hS hl
  obtain ⟨hx, hb, hr, hml, hown, hlocks, hts, hnm, hN, hK, hA⟩ := C0
  have hU : ∀ w ∈ xU, w.before #[.ref h0, .int a] s = true := fun w h => hts w (List.mem_cons_of_mem _ h)
  have hl : lv_has ls 2 [(0, .ref h0), (1, .int a)] := hl
  refine lv_aload_n hx hb d_MO_times_0 rfl (lv_at hl 0 rfl) ?_
  refine lv_iload_n hx hb d_MO_times_1 rfl (lv_at hl 1 rfl) ?_
  refine lv_aload_n hx hb d_MO_times_2 rfl (lv_at hl 0 rfl) ?_
  refine va_get (D := D) (ci := 10) (v := .int (nI 0)) (C := R_MO) (T := T_MO) (N := 36) hx hb hU iw_MO hown hK hP 0 rfl rfl 3 (by decide) (hU _ uw_726) (fun _ h9 => h9) rfl d_MO_times_3 ?_
  refine xw_callS (wr := [(h0, .inr (10, [.int (nI 0), .int (nI wk), .int (nI rm), .int (nI 0), .int (nI 0), .int (nI 0), .ref m_from, .ref m_to, .ref m_failWorker, .ref m_failLevel, .ref m_failTurn, .int (nI 0), .int (nI 0), .int (nI 0), .int (nI 0), .int (nI 0), .int (nI 0), .int (nI 0), .ref m_levelOf, .ref m_times, .ref m_sizes, .ref m_isNext, .ref m_isLive, .ref m_isLooked, .ref m_turnsOf, .ref m_takenOf, .ref m_stallsOf, .ref m_here, .ref m_stands, .ref m_nextMove, .ref m_queued, .ref m_queue, .ref m_failedWorker, .ref m_failedLevel, .ref m_failedTurns, .ref m_can]))]) [.int a, .int (nI 0)] (c_MO_isOf l D cI cB cL a (nI 0)) ⟨hx, hb, hml, hown, hU⟩ (va_cwS 2 hU (xs_goodS uw_848 uw_849 uw_13 uw_850) rfl rfl rfl (by decide +kernel) ⟨Nat.le_of_ble_eq_true rfl, Nat.le_of_ble_eq_true rfl⟩) rfl hl.1 rfl (Nat.le_of_ble_eq_true rfl) d_MO_times_6 ⟨Nat.le_of_ble_eq_true rfl, Nat.le_of_ble_eq_true rfl⟩ [] [0] rfl rfl (by decide) (by decide) (by decide) hN hK hP hD hS hA (fun u H locs hf hP hD hS => ?_)
  obtain ⟨v_1, rfl⟩ : ∃ z, z = u := ⟨_, rfl⟩
  have hf_6 : (v_1 = 1 ∧ ¬ a < 0 ∧ a < (nI 0)) ∨ (v_1 = 0 ∧ (a < 0 ∨ (nI 0) ≤ a)) := hf
  have hP : va_P D vwCl [(h0, .inr (10, [.int (nI 0), .int (nI wk), .int (nI rm), .int (nI 0), .int (nI 0), .int (nI 0), .ref m_from, .ref m_to, .ref m_failWorker, .ref m_failLevel, .ref m_failTurn, .int (nI 0), .int (nI 0), .int (nI 0), .int (nI 0), .int (nI 0), .int (nI 0), .int (nI 0), .ref m_levelOf, .ref m_times, .ref m_sizes, .ref m_isNext, .ref m_isLive, .ref m_isLooked, .ref m_turnsOf, .ref m_takenOf, .ref m_stallsOf, .ref m_here, .ref m_stands, .ref m_nextMove, .ref m_queued, .ref m_queue, .ref m_failedWorker, .ref m_failedLevel, .ref m_failedTurns, .ref m_can]))] H := hP
  have hD : va_D A [(h0, .inr (10, [.int (nI 0), .int (nI wk), .int (nI rm), .int (nI 0), .int (nI 0), .int (nI 0), .ref m_from, .ref m_to, .ref m_failWorker, .ref m_failLevel, .ref m_failTurn, .int (nI 0), .int (nI 0), .int (nI 0), .int (nI 0), .int (nI 0), .int (nI 0), .int (nI 0), .ref m_levelOf, .ref m_times, .ref m_sizes, .ref m_isNext, .ref m_isLive, .ref m_isLooked, .ref m_turnsOf, .ref m_takenOf, .ref m_stallsOf, .ref m_here, .ref m_stands, .ref m_nextMove, .ref m_queued, .ref m_queue, .ref m_failedWorker, .ref m_failedLevel, .ref m_failedTurns, .ref m_can]))] := hD
  refine W.widen (k := 0) (n := 0) (Nat.le_of_ble_eq_true rfl) (Nat.le_of_ble_eq_true rfl) ?_
  refine W.eq (g2 := F0 m 9 ls [.int v_1, .ref h0]) rfl ?_
  rcases hf_6 with ⟨rfl, hg1, hg2⟩ | ⟨rfl, hg⟩
  · exact absurd hg2 (fun z => xs_no0 hg1 z)
  · refine lv_if_ne (tgt := 16) hx hb d_MO_times_9 (by decide) (fun c_9 => ?_) (fun c_9 => ?_)
    · exact absurd c_9 (by decide +kernel)
    · refine lv_iconst (v := nI 1) hx hb d_MO_times_12 (by decide +kernel) ?_
      refine lv_goto (tgt := 17) hx hb d_MO_times_13 (by decide) ?_
      refine lv_iconst (v := nI 0) hx hb d_MO_times_17 (by decide +kernel) ?_
      refine lv_iconst (v := nI 0) hx hb d_MO_times_18 (by decide +kernel) ?_
      refine xw_callV (C := R_MO) (wr := []) [.int (nI 1), .int (nI 0), .int (nI 0)] (c_MO_thr1 l D cI cB cL h0 m_from m_to m_failWorker m_failLevel m_failTurn m_levelOf m_times m_sizes m_isNext m_isLive m_isLooked m_turnsOf m_takenOf m_stallsOf m_here m_stands m_nextMove m_queued m_queue m_failedWorker m_failedLevel m_failedTurns m_can (.int (nI 0)) (.int (nI wk)) (.int (nI rm)) (.int (nI 0)) (.int (nI 0)) (.int (nI 0)) (.int (nI 0)) (.int (nI 0)) (.int (nI 0)) (.int (nI 0)) (.int (nI 0)) (.int (nI 0)) (.int (nI 0)) (nI 0) (nI 0)) ⟨hx, hb, hml, hown, hU⟩ (cwV 3 hU (xs_goodV uw_840 uw_842 uw_m13 uw_13 uw_843) rfl rfl rfl (by decide +kernel) ⟨Nat.le_of_ble_eq_true rfl, Nat.le_of_ble_eq_true rfl⟩) 0 rfl rfl rfl rfl hl.1 rfl (Nat.le_of_ble_eq_true rfl) d_MO_times_19 ⟨Nat.le_of_ble_eq_true rfl, Nat.le_of_ble_eq_true rfl⟩ [0] [] rfl rfl (by decide) (by decide) (by decide) hN hK hP hD hS hA (fun u H locs hf hP hD hS => ?_)
      have hP : va_P D vwCl [(h0, .inr (10, [.int (nI 1), .int (nI wk), .int (nI rm), .int (nI 0), .int (nI 0), .int (nI 0), .ref m_from, .ref m_to, .ref m_failWorker, .ref m_failLevel, .ref m_failTurn, .int (nI 0), .int (nI 0), .int (nI 0), .int (nI 0), .int (nI 0), .int (nI 0), .int (nI 0), .ref m_levelOf, .ref m_times, .ref m_sizes, .ref m_isNext, .ref m_isLive, .ref m_isLooked, .ref m_turnsOf, .ref m_takenOf, .ref m_stallsOf, .ref m_here, .ref m_stands, .ref m_nextMove, .ref m_queued, .ref m_queue, .ref m_failedWorker, .ref m_failedLevel, .ref m_failedTurns, .ref m_can]))] H := hP
      have hD : va_D A [(h0, .inr (10, [.int (nI 1), .int (nI wk), .int (nI rm), .int (nI 0), .int (nI 0), .int (nI 0), .ref m_from, .ref m_to, .ref m_failWorker, .ref m_failLevel, .ref m_failTurn, .int (nI 0), .int (nI 0), .int (nI 0), .int (nI 0), .int (nI 0), .int (nI 0), .int (nI 0), .ref m_levelOf, .ref m_times, .ref m_sizes, .ref m_isNext, .ref m_isLive, .ref m_isLooked, .ref m_turnsOf, .ref m_takenOf, .ref m_stallsOf, .ref m_here, .ref m_stands, .ref m_nextMove, .ref m_queued, .ref m_queue, .ref m_failedWorker, .ref m_failedLevel, .ref m_failedTurns, .ref m_can]))] := hD
      refine W.widen (k := 0) (n := 0) (Nat.le_of_ble_eq_true rfl) (Nat.le_of_ble_eq_true rfl) ?_
      refine W.eq (g2 := F0 m 22 ls [.int (nI 1)]) rfl ?_
      refine lv_if_eq (tgt := 29) hx hb d_MO_times_22 (by decide) (fun c_22 => ?_) (fun c_22 => ?_)
      · exact absurd c_22 (by decide +kernel)
      · refine lv_iconst (v := nI 0) hx hb d_MO_times_25 (by decide +kernel) ?_
        refine lv_goto (tgt := 35) hx hb d_MO_times_26 (by decide) ?_
        have hP9 := xs_P_sub (w := [(h0, .inr (10, [.int (nI 1), .int (nI wk), .int (nI rm), .int (nI 0), .int (nI 0), .int (nI 0), .ref m_from, .ref m_to, .ref m_failWorker, .ref m_failLevel, .ref m_failTurn, .int (nI 0), .int (nI 0), .int (nI 0), .int (nI 0), .int (nI 0), .int (nI 0), .int (nI 0), .ref m_levelOf, .ref m_times, .ref m_sizes, .ref m_isNext, .ref m_isLive, .ref m_isLooked, .ref m_turnsOf, .ref m_takenOf, .ref m_stallsOf, .ref m_here, .ref m_stands, .ref m_nextMove, .ref m_queued, .ref m_queue, .ref m_failedWorker, .ref m_failedLevel, .ref m_failedTurns, .ref m_can]))]) hP [0] rfl
        have hD9 := hD.sub (ws' := [(h0, .inr (10, [.int (nI 1), .int (nI wk), .int (nI rm), .int (nI 0), .int (nI 0), .int (nI 0), .ref m_from, .ref m_to, .ref m_failWorker, .ref m_failLevel, .ref m_failTurn, .int (nI 0), .int (nI 0), .int (nI 0), .int (nI 0), .int (nI 0), .int (nI 0), .int (nI 0), .ref m_levelOf, .ref m_times, .ref m_sizes, .ref m_isNext, .ref m_isLive, .ref m_isLooked, .ref m_turnsOf, .ref m_takenOf, .ref m_stallsOf, .ref m_here, .ref m_stands, .ref m_nextMove, .ref m_queued, .ref m_queue, .ref m_failedWorker, .ref m_failedLevel, .ref m_failedTurns, .ref m_can]))]) [0] (by decide) rfl
        exact xw_iret () hx hb hr hlocks d_MO_times_35 (rfl) (trivial) hAe hP9 hD9 hS (Nat.le_of_ble_eq_true rfl) (Nat.le_of_ble_eq_true rfl)
set_option maxHeartbeats 4000000 in
set_option maxRecDepth 100000 in
/-- size, before a run -/
theorem c_MO_size (l : Launch) (D : va_G) (cI cB cL : ClassId) (h0 : Nat) (wk : Nat) (rm : Nat) (m_from : Nat) (m_to : Nat) (m_failWorker : Nat) (m_failLevel : Nat) (m_failTurn : Nat) (m_levelOf : Nat) (m_times : Nat) (m_sizes : Nat) (m_isNext : Nat) (m_isLive : Nat) (m_isLooked : Nat) (m_turnsOf : Nat) (m_takenOf : Nat) (m_stallsOf : Nat) (m_here : Nat) (m_stands : Nat) (m_nextMove : Nat) (m_queued : Nat) (m_queue : Nat) (m_failedWorker : Nat) (m_failedLevel : Nat) (m_failedTurns : Nat) (m_can : Nat) (a : Int32)  : xG (σ := Unit) l y_MO_size w_MO_size ({ frames := 1, cells := 0, slots := 0, locals := 23  } : Room) D vwCl (xs_tys cI cB cL) [.ref h0, .int a] [(h0, .inr (10, [.int (nI 0), .int (nI wk), .int (nI rm), .int (nI 0), .int (nI 0), .int (nI 0), .ref m_from, .ref m_to, .ref m_failWorker, .ref m_failLevel, .ref m_failTurn, .int (nI 0), .int (nI 0), .int (nI 0), .int (nI 0), .int (nI 0), .int (nI 0), .int (nI 0), .ref m_levelOf, .ref m_times, .ref m_sizes, .ref m_isNext, .ref m_isLive, .ref m_isLooked, .ref m_turnsOf, .ref m_takenOf, .ref m_stallsOf, .ref m_here, .ref m_stands, .ref m_nextMove, .ref m_queued, .ref m_queue, .ref m_failedWorker, .ref m_failedLevel, .ref m_failedTurns, .ref m_can]))] (fun _ => True) (fun _ => some (.int (nI 0))) (fun _ => [(h0, .inr (10, [.int (nI 1), .int (nI wk), .int (nI rm), .int (nI 0), .int (nI 0), .int (nI 0), .ref m_from, .ref m_to, .ref m_failWorker, .ref m_failLevel, .ref m_failTurn, .int (nI 0), .int (nI 0), .int (nI 0), .int (nI 0), .int (nI 0), .int (nI 0), .int (nI 0), .ref m_levelOf, .ref m_times, .ref m_sizes, .ref m_isNext, .ref m_isLive, .ref m_isLooked, .ref m_turnsOf, .ref m_takenOf, .ref m_stallsOf, .ref m_here, .ref m_stands, .ref m_nextMove, .ref m_queued, .ref m_queue, .ref m_failedWorker, .ref m_failedLevel, .ref m_failedTurns, .ref m_can]))]) := by
  refine xG.of b_MO_size 2 (some .int) (by decide +kernel) rfl (Nat.le_of_ble_eq_true rfl) ?_
  intro p e s m below meth c A ls hAe C0 hP hD hS hl
  obtain ⟨hx, hb, hr, hml, hown, hlocks, hts, hnm, hN, hK, hA⟩ := C0
  have hU : ∀ w ∈ xU, w.before #[.ref h0, .int a] s = true := fun w h => hts w (List.mem_cons_of_mem _ h)
  have hl : lv_has ls 2 [(0, .ref h0), (1, .int a)] := hl
  refine lv_aload_n hx hb d_MO_size_0 rfl (lv_at hl 0 rfl) ?_
  refine lv_iload_n hx hb d_MO_size_1 rfl (lv_at hl 1 rfl) ?_
  refine lv_aload_n hx hb d_MO_size_2 rfl (lv_at hl 0 rfl) ?_
  refine va_get (D := D) (ci := 10) (v := .int (nI 0)) (C := R_MO) (T := T_MO) (N := 36) hx hb hU iw_MO hown hK hP 0 rfl rfl 14 (by decide) (hU _ uw_737) (fun _ h9 => h9) rfl d_MO_size_3 ?_
  refine xw_callS (wr := [(h0, .inr (10, [.int (nI 0), .int (nI wk), .int (nI rm), .int (nI 0), .int (nI 0), .int (nI 0), .ref m_from, .ref m_to, .ref m_failWorker, .ref m_failLevel, .ref m_failTurn, .int (nI 0), .int (nI 0), .int (nI 0), .int (nI 0), .int (nI 0), .int (nI 0), .int (nI 0), .ref m_levelOf, .ref m_times, .ref m_sizes, .ref m_isNext, .ref m_isLive, .ref m_isLooked, .ref m_turnsOf, .ref m_takenOf, .ref m_stallsOf, .ref m_here, .ref m_stands, .ref m_nextMove, .ref m_queued, .ref m_queue, .ref m_failedWorker, .ref m_failedLevel, .ref m_failedTurns, .ref m_can]))]) [.int a, .int (nI 0)] (c_MO_isOf l D cI cB cL a (nI 0)) ⟨hx, hb, hml, hown, hU⟩ (va_cwS 2 hU (xs_goodS uw_848 uw_849 uw_13 uw_850) rfl rfl rfl (by decide +kernel) ⟨Nat.le_of_ble_eq_true rfl, Nat.le_of_ble_eq_true rfl⟩) rfl hl.1 rfl (Nat.le_of_ble_eq_true rfl) d_MO_size_6 ⟨Nat.le_of_ble_eq_true rfl, Nat.le_of_ble_eq_true rfl⟩ [] [0] rfl rfl (by decide) (by decide) (by decide) hN hK hP hD hS hA (fun u H locs hf hP hD hS => ?_)
  obtain ⟨v_1, rfl⟩ : ∃ z, z = u := ⟨_, rfl⟩
  have hf_6 : (v_1 = 1 ∧ ¬ a < 0 ∧ a < (nI 0)) ∨ (v_1 = 0 ∧ (a < 0 ∨ (nI 0) ≤ a)) := hf
  have hP : va_P D vwCl [(h0, .inr (10, [.int (nI 0), .int (nI wk), .int (nI rm), .int (nI 0), .int (nI 0), .int (nI 0), .ref m_from, .ref m_to, .ref m_failWorker, .ref m_failLevel, .ref m_failTurn, .int (nI 0), .int (nI 0), .int (nI 0), .int (nI 0), .int (nI 0), .int (nI 0), .int (nI 0), .ref m_levelOf, .ref m_times, .ref m_sizes, .ref m_isNext, .ref m_isLive, .ref m_isLooked, .ref m_turnsOf, .ref m_takenOf, .ref m_stallsOf, .ref m_here, .ref m_stands, .ref m_nextMove, .ref m_queued, .ref m_queue, .ref m_failedWorker, .ref m_failedLevel, .ref m_failedTurns, .ref m_can]))] H := hP
  have hD : va_D A [(h0, .inr (10, [.int (nI 0), .int (nI wk), .int (nI rm), .int (nI 0), .int (nI 0), .int (nI 0), .ref m_from, .ref m_to, .ref m_failWorker, .ref m_failLevel, .ref m_failTurn, .int (nI 0), .int (nI 0), .int (nI 0), .int (nI 0), .int (nI 0), .int (nI 0), .int (nI 0), .ref m_levelOf, .ref m_times, .ref m_sizes, .ref m_isNext, .ref m_isLive, .ref m_isLooked, .ref m_turnsOf, .ref m_takenOf, .ref m_stallsOf, .ref m_here, .ref m_stands, .ref m_nextMove, .ref m_queued, .ref m_queue, .ref m_failedWorker, .ref m_failedLevel, .ref m_failedTurns, .ref m_can]))] := hD
  refine W.widen (k := 0) (n := 0) (Nat.le_of_ble_eq_true rfl) (Nat.le_of_ble_eq_true rfl) ?_
  refine W.eq (g2 := F0 m 9 ls [.int v_1, .ref h0]) rfl ?_
  rcases hf_6 with ⟨rfl, hg1, hg2⟩ | ⟨rfl, hg⟩
  · exact absurd hg2 (fun z => xs_no0 hg1 z)
  · refine lv_if_ne (tgt := 16) hx hb d_MO_size_9 (by decide) (fun c_9 => ?_) (fun c_9 => ?_)
    · exact absurd c_9 (by decide +kernel)
    · refine lv_iconst (v := nI 1) hx hb d_MO_size_12 (by decide +kernel) ?_
      refine lv_goto (tgt := 17) hx hb d_MO_size_13 (by decide) ?_
      refine lv_iconst (v := nI 0) hx hb d_MO_size_17 (by decide +kernel) ?_
      refine lv_iconst (v := nI 0) hx hb d_MO_size_18 (by decide +kernel) ?_
      refine xw_callV (C := R_MO) (wr := []) [.int (nI 1), .int (nI 0), .int (nI 0)] (c_MO_thr1 l D cI cB cL h0 m_from m_to m_failWorker m_failLevel m_failTurn m_levelOf m_times m_sizes m_isNext m_isLive m_isLooked m_turnsOf m_takenOf m_stallsOf m_here m_stands m_nextMove m_queued m_queue m_failedWorker m_failedLevel m_failedTurns m_can (.int (nI 0)) (.int (nI wk)) (.int (nI rm)) (.int (nI 0)) (.int (nI 0)) (.int (nI 0)) (.int (nI 0)) (.int (nI 0)) (.int (nI 0)) (.int (nI 0)) (.int (nI 0)) (.int (nI 0)) (.int (nI 0)) (nI 0) (nI 0)) ⟨hx, hb, hml, hown, hU⟩ (cwV 3 hU (xs_goodV uw_840 uw_842 uw_m13 uw_13 uw_843) rfl rfl rfl (by decide +kernel) ⟨Nat.le_of_ble_eq_true rfl, Nat.le_of_ble_eq_true rfl⟩) 0 rfl rfl rfl rfl hl.1 rfl (Nat.le_of_ble_eq_true rfl) d_MO_size_19 ⟨Nat.le_of_ble_eq_true rfl, Nat.le_of_ble_eq_true rfl⟩ [0] [] rfl rfl (by decide) (by decide) (by decide) hN hK hP hD hS hA (fun u H locs hf hP hD hS => ?_)
      have hP : va_P D vwCl [(h0, .inr (10, [.int (nI 1), .int (nI wk), .int (nI rm), .int (nI 0), .int (nI 0), .int (nI 0), .ref m_from, .ref m_to, .ref m_failWorker, .ref m_failLevel, .ref m_failTurn, .int (nI 0), .int (nI 0), .int (nI 0), .int (nI 0), .int (nI 0), .int (nI 0), .int (nI 0), .ref m_levelOf, .ref m_times, .ref m_sizes, .ref m_isNext, .ref m_isLive, .ref m_isLooked, .ref m_turnsOf, .ref m_takenOf, .ref m_stallsOf, .ref m_here, .ref m_stands, .ref m_nextMove, .ref m_queued, .ref m_queue, .ref m_failedWorker, .ref m_failedLevel, .ref m_failedTurns, .ref m_can]))] H := hP
      have hD : va_D A [(h0, .inr (10, [.int (nI 1), .int (nI wk), .int (nI rm), .int (nI 0), .int (nI 0), .int (nI 0), .ref m_from, .ref m_to, .ref m_failWorker, .ref m_failLevel, .ref m_failTurn, .int (nI 0), .int (nI 0), .int (nI 0), .int (nI 0), .int (nI 0), .int (nI 0), .int (nI 0), .ref m_levelOf, .ref m_times, .ref m_sizes, .ref m_isNext, .ref m_isLive, .ref m_isLooked, .ref m_turnsOf, .ref m_takenOf, .ref m_stallsOf, .ref m_here, .ref m_stands, .ref m_nextMove, .ref m_queued, .ref m_queue, .ref m_failedWorker, .ref m_failedLevel, .ref m_failedTurns, .ref m_can]))] := hD
      refine W.widen (k := 0) (n := 0) (Nat.le_of_ble_eq_true rfl) (Nat.le_of_ble_eq_true rfl) ?_
      refine W.eq (g2 := F0 m 22 ls [.int (nI 1)]) rfl ?_
      refine lv_if_eq (tgt := 29) hx hb d_MO_size_22 (by decide) (fun c_22 => ?_) (fun c_22 => ?_)
      · exact absurd c_22 (by decide +kernel)
      · refine lv_iconst (v := nI 0) hx hb d_MO_size_25 (by decide +kernel) ?_
        refine lv_goto (tgt := 35) hx hb d_MO_size_26 (by decide) ?_
        have hP9 := xs_P_sub (w := [(h0, .inr (10, [.int (nI 1), .int (nI wk), .int (nI rm), .int (nI 0), .int (nI 0), .int (nI 0), .ref m_from, .ref m_to, .ref m_failWorker, .ref m_failLevel, .ref m_failTurn, .int (nI 0), .int (nI 0), .int (nI 0), .int (nI 0), .int (nI 0), .int (nI 0), .int (nI 0), .ref m_levelOf, .ref m_times, .ref m_sizes, .ref m_isNext, .ref m_isLive, .ref m_isLooked, .ref m_turnsOf, .ref m_takenOf, .ref m_stallsOf, .ref m_here, .ref m_stands, .ref m_nextMove, .ref m_queued, .ref m_queue, .ref m_failedWorker, .ref m_failedLevel, .ref m_failedTurns, .ref m_can]))]) hP [0] rfl
        have hD9 := hD.sub (ws' := [(h0, .inr (10, [.int (nI 1), .int (nI wk), .int (nI rm), .int (nI 0), .int (nI 0), .int (nI 0), .ref m_from, .ref m_to, .ref m_failWorker, .ref m_failLevel, .ref m_failTurn, .int (nI 0), .int (nI 0), .int (nI 0), .int (nI 0), .int (nI 0), .int (nI 0), .int (nI 0), .ref m_levelOf, .ref m_times, .ref m_sizes, .ref m_isNext, .ref m_isLive, .ref m_isLooked, .ref m_turnsOf, .ref m_takenOf, .ref m_stallsOf, .ref m_here, .ref m_stands, .ref m_nextMove, .ref m_queued, .ref m_queue, .ref m_failedWorker, .ref m_failedLevel, .ref m_failedTurns, .ref m_can]))]) [0] (by decide) rfl
        exact xw_iret () hx hb hr hlocks d_MO_size_35 (rfl) (trivial) hAe hP9 hD9 hS (Nat.le_of_ble_eq_true rfl) (Nat.le_of_ble_eq_true rfl)
set_option maxHeartbeats 4000000 in
set_option maxRecDepth 100000 in
/-- way, when there are no states -/
theorem c_MO_way (l : Launch) (D : va_G) (cI cB cL : ClassId) (h0 : Nat) (wk : Nat) (rm : Nat) (m_from : Nat) (m_to : Nat) (m_failWorker : Nat) (m_failLevel : Nat) (m_failTurn : Nat) (m_levelOf : Nat) (m_times : Nat) (m_sizes : Nat) (m_isNext : Nat) (m_isLive : Nat) (m_isLooked : Nat) (m_turnsOf : Nat) (m_takenOf : Nat) (m_stallsOf : Nat) (m_here : Nat) (m_stands : Nat) (m_nextMove : Nat) (m_queued : Nat) (m_queue : Nat) (m_failedWorker : Nat) (m_failedLevel : Nat) (m_failedTurns : Nat) (m_can : Nat) (a : Int32) (b : Int32)  : xG (σ := Unit) l y_MO_way w_MO_way ({ frames := 1, cells := 0, slots := 0, locals := 23  } : Room) D vwCl (xs_tys cI cB cL) [.ref h0, .int a, .int b] [(h0, .inr (10, [.int (nI 0), .int (nI wk), .int (nI rm), .int (nI 0), .int (nI 0), .int (nI 0), .ref m_from, .ref m_to, .ref m_failWorker, .ref m_failLevel, .ref m_failTurn, .int (nI 0), .int (nI 0), .int (nI 0), .int (nI 0), .int (nI 0), .int (nI 0), .int (nI 0), .ref m_levelOf, .ref m_times, .ref m_sizes, .ref m_isNext, .ref m_isLive, .ref m_isLooked, .ref m_turnsOf, .ref m_takenOf, .ref m_stallsOf, .ref m_here, .ref m_stands, .ref m_nextMove, .ref m_queued, .ref m_queue, .ref m_failedWorker, .ref m_failedLevel, .ref m_failedTurns, .ref m_can]))] (fun _ => True) (fun _ => some (.int (nI 0))) (fun _ => [(h0, .inr (10, [.int (nI 1), .int (nI wk), .int (nI rm), .int (nI 0), .int (nI 0), .int (nI 0), .ref m_from, .ref m_to, .ref m_failWorker, .ref m_failLevel, .ref m_failTurn, .int (nI 0), .int (nI 0), .int (nI 0), .int (nI 0), .int (nI 0), .int (nI 0), .int (nI 0), .ref m_levelOf, .ref m_times, .ref m_sizes, .ref m_isNext, .ref m_isLive, .ref m_isLooked, .ref m_turnsOf, .ref m_takenOf, .ref m_stallsOf, .ref m_here, .ref m_stands, .ref m_nextMove, .ref m_queued, .ref m_queue, .ref m_failedWorker, .ref m_failedLevel, .ref m_failedTurns, .ref m_can]))]) := by
  refine xG.of b_MO_way 7 (some .int) (by decide +kernel) rfl (Nat.le_of_ble_eq_true rfl) ?_
  intro p e s m below meth c A ls hAe C0 hP hD hS hl
  obtain ⟨hx, hb, hr, hml, hown, hlocks, hts, hnm, hN, hK, hA⟩ := C0
  have hU : ∀ w ∈ xU, w.before #[.ref h0, .int a, .int b] s = true := fun w h => hts w (List.mem_cons_of_mem _ h)
  have hl : lv_has ls 7 [(0, .ref h0), (1, .int a), (2, .int b)] := hl
  refine lv_iload_n hx hb d_MO_way_0 rfl (lv_at hl 1 rfl) ?_
  refine lv_aload_n hx hb d_MO_way_1 rfl (lv_at hl 0 rfl) ?_
  refine va_get (D := D) (ci := 10) (v := .int (nI 0)) (C := R_MO) (T := T_MO) (N := 36) hx hb hU iw_MO hown hK hP 0 rfl rfl 3 (by decide) (hU _ uw_726) (fun _ h9 => h9) rfl d_MO_way_2 ?_
  refine xw_callS (wr := [(h0, .inr (10, [.int (nI 0), .int (nI wk), .int (nI rm), .int (nI 0), .int (nI 0), .int (nI 0), .ref m_from, .ref m_to, .ref m_failWorker, .ref m_failLevel, .ref m_failTurn, .int (nI 0), .int (nI 0), .int (nI 0), .int (nI 0), .int (nI 0), .int (nI 0), .int (nI 0), .ref m_levelOf, .ref m_times, .ref m_sizes, .ref m_isNext, .ref m_isLive, .ref m_isLooked, .ref m_turnsOf, .ref m_takenOf, .ref m_stallsOf, .ref m_here, .ref m_stands, .ref m_nextMove, .ref m_queued, .ref m_queue, .ref m_failedWorker, .ref m_failedLevel, .ref m_failedTurns, .ref m_can]))]) [.int a, .int (nI 0)] (c_MO_isOf l D cI cB cL a (nI 0)) ⟨hx, hb, hml, hown, hU⟩ (va_cwS 2 hU (xs_goodS uw_848 uw_849 uw_13 uw_850) rfl rfl rfl (by decide +kernel) ⟨Nat.le_of_ble_eq_true rfl, Nat.le_of_ble_eq_true rfl⟩) rfl hl.1 rfl (Nat.le_of_ble_eq_true rfl) d_MO_way_5 ⟨Nat.le_of_ble_eq_true rfl, Nat.le_of_ble_eq_true rfl⟩ [] [0] rfl rfl (by decide) (by decide) (by decide) hN hK hP hD hS hA (fun u H locs hf hP hD hS => ?_)
  obtain ⟨v_1, rfl⟩ : ∃ z, z = u := ⟨_, rfl⟩
  have hf_5 : (v_1 = 1 ∧ ¬ a < 0 ∧ a < (nI 0)) ∨ (v_1 = 0 ∧ (a < 0 ∨ (nI 0) ≤ a)) := hf
  have hP : va_P D vwCl [(h0, .inr (10, [.int (nI 0), .int (nI wk), .int (nI rm), .int (nI 0), .int (nI 0), .int (nI 0), .ref m_from, .ref m_to, .ref m_failWorker, .ref m_failLevel, .ref m_failTurn, .int (nI 0), .int (nI 0), .int (nI 0), .int (nI 0), .int (nI 0), .int (nI 0), .int (nI 0), .ref m_levelOf, .ref m_times, .ref m_sizes, .ref m_isNext, .ref m_isLive, .ref m_isLooked, .ref m_turnsOf, .ref m_takenOf, .ref m_stallsOf, .ref m_here, .ref m_stands, .ref m_nextMove, .ref m_queued, .ref m_queue, .ref m_failedWorker, .ref m_failedLevel, .ref m_failedTurns, .ref m_can]))] H := hP
  have hD : va_D A [(h0, .inr (10, [.int (nI 0), .int (nI wk), .int (nI rm), .int (nI 0), .int (nI 0), .int (nI 0), .ref m_from, .ref m_to, .ref m_failWorker, .ref m_failLevel, .ref m_failTurn, .int (nI 0), .int (nI 0), .int (nI 0), .int (nI 0), .int (nI 0), .int (nI 0), .int (nI 0), .ref m_levelOf, .ref m_times, .ref m_sizes, .ref m_isNext, .ref m_isLive, .ref m_isLooked, .ref m_turnsOf, .ref m_takenOf, .ref m_stallsOf, .ref m_here, .ref m_stands, .ref m_nextMove, .ref m_queued, .ref m_queue, .ref m_failedWorker, .ref m_failedLevel, .ref m_failedTurns, .ref m_can]))] := hD
  refine W.widen (k := 0) (n := 0) (Nat.le_of_ble_eq_true rfl) (Nat.le_of_ble_eq_true rfl) ?_
  refine W.eq (g2 := F0 m 8 ls [.int v_1]) rfl ?_
  rcases hf_5 with ⟨rfl, hg1, hg2⟩ | ⟨rfl, hg⟩
  · exact absurd hg2 (fun z => xs_no0 hg1 z)
  · refine lv_if_ne (tgt := 15) hx hb d_MO_way_8 (by decide) (fun c_8 => ?_) (fun c_8 => ?_)
    · exact absurd c_8 (by decide +kernel)
    · refine lv_iconst (v := nI 1) hx hb d_MO_way_11 (by decide +kernel) ?_
      refine lv_goto (tgt := 16) hx hb d_MO_way_12 (by decide) ?_
      refine lv_istore_n (lv' := [(3, .int (nI 1)), (0, .ref h0), (1, .int a), (2, .int b)]) hx hb d_MO_way_16 rfl hl (by decide) rfl (fun ls hl => ?_)
      refine lv_aload_n hx hb d_MO_way_17 rfl (lv_at hl 1 rfl) ?_
      refine lv_iload_n hx hb d_MO_way_18 rfl (lv_at hl 0 rfl) ?_
      refine lv_if_ne (tgt := 61) hx hb d_MO_way_19 (by decide) (fun c_19 => ?_) (fun c_19 => ?_)
      · refine lv_iconst (v := nI 1) hx hb d_MO_way_61 (by decide +kernel) ?_
        refine lv_goto (tgt := 66) hx hb d_MO_way_62 (by decide) ?_
        refine lv_iconst (v := nI 0) hx hb d_MO_way_66 (by decide +kernel) ?_
        refine lv_iconst (v := nI 0) hx hb d_MO_way_67 (by decide +kernel) ?_
        refine xw_callV (C := R_MO) (wr := []) [.int (nI 1), .int (nI 0), .int (nI 0)] (c_MO_thr1 l D cI cB cL h0 m_from m_to m_failWorker m_failLevel m_failTurn m_levelOf m_times m_sizes m_isNext m_isLive m_isLooked m_turnsOf m_takenOf m_stallsOf m_here m_stands m_nextMove m_queued m_queue m_failedWorker m_failedLevel m_failedTurns m_can (.int (nI 0)) (.int (nI wk)) (.int (nI rm)) (.int (nI 0)) (.int (nI 0)) (.int (nI 0)) (.int (nI 0)) (.int (nI 0)) (.int (nI 0)) (.int (nI 0)) (.int (nI 0)) (.int (nI 0)) (.int (nI 0)) (nI 0) (nI 0)) ⟨hx, hb, hml, hown, hU⟩ (cwV 3 hU (xs_goodV uw_840 uw_842 uw_m13 uw_13 uw_843) rfl rfl rfl (by decide +kernel) ⟨Nat.le_of_ble_eq_true rfl, Nat.le_of_ble_eq_true rfl⟩) 0 rfl rfl rfl rfl hl.1 rfl (Nat.le_of_ble_eq_true rfl) d_MO_way_68 ⟨Nat.le_of_ble_eq_true rfl, Nat.le_of_ble_eq_true rfl⟩ [0] [] rfl rfl (by decide) (by decide) (by decide) hN hK hP hD hS hA (fun u H locs hf hP hD hS => ?_)
        have hP : va_P D vwCl [(h0, .inr (10, [.int (nI 1), .int (nI wk), .int (nI rm), .int (nI 0), .int (nI 0), .int (nI 0), .ref m_from, .ref m_to, .ref m_failWorker, .ref m_failLevel, .ref m_failTurn, .int (nI 0), .int (nI 0), .int (nI 0), .int (nI 0), .int (nI 0), .int (nI 0), .int (nI 0), .ref m_levelOf, .ref m_times, .ref m_sizes, .ref m_isNext, .ref m_isLive, .ref m_isLooked, .ref m_turnsOf, .ref m_takenOf, .ref m_stallsOf, .ref m_here, .ref m_stands, .ref m_nextMove, .ref m_queued, .ref m_queue, .ref m_failedWorker, .ref m_failedLevel, .ref m_failedTurns, .ref m_can]))] H := hP
        have hD : va_D A [(h0, .inr (10, [.int (nI 1), .int (nI wk), .int (nI rm), .int (nI 0), .int (nI 0), .int (nI 0), .ref m_from, .ref m_to, .ref m_failWorker, .ref m_failLevel, .ref m_failTurn, .int (nI 0), .int (nI 0), .int (nI 0), .int (nI 0), .int (nI 0), .int (nI 0), .int (nI 0), .ref m_levelOf, .ref m_times, .ref m_sizes, .ref m_isNext, .ref m_isLive, .ref m_isLooked, .ref m_turnsOf, .ref m_takenOf, .ref m_stallsOf, .ref m_here, .ref m_stands, .ref m_nextMove, .ref m_queued, .ref m_queue, .ref m_failedWorker, .ref m_failedLevel, .ref m_failedTurns, .ref m_can]))] := hD
        refine W.widen (k := 0) (n := 0) (Nat.le_of_ble_eq_true rfl) (Nat.le_of_ble_eq_true rfl) ?_
        refine W.eq (g2 := F0 m 71 ls [.int (nI 1)]) rfl ?_
        refine lv_if_eq (tgt := 76) hx hb d_MO_way_71 (by decide) (fun c_71 => ?_) (fun c_71 => ?_)
        · exact absurd c_71 (by decide +kernel)
        · refine lv_iconst (v := nI 0) hx hb d_MO_way_74 (by decide +kernel) ?_
          have hP9 := xs_P_sub (w := [(h0, .inr (10, [.int (nI 1), .int (nI wk), .int (nI rm), .int (nI 0), .int (nI 0), .int (nI 0), .ref m_from, .ref m_to, .ref m_failWorker, .ref m_failLevel, .ref m_failTurn, .int (nI 0), .int (nI 0), .int (nI 0), .int (nI 0), .int (nI 0), .int (nI 0), .int (nI 0), .ref m_levelOf, .ref m_times, .ref m_sizes, .ref m_isNext, .ref m_isLive, .ref m_isLooked, .ref m_turnsOf, .ref m_takenOf, .ref m_stallsOf, .ref m_here, .ref m_stands, .ref m_nextMove, .ref m_queued, .ref m_queue, .ref m_failedWorker, .ref m_failedLevel, .ref m_failedTurns, .ref m_can]))]) hP [0] rfl
          have hD9 := hD.sub (ws' := [(h0, .inr (10, [.int (nI 1), .int (nI wk), .int (nI rm), .int (nI 0), .int (nI 0), .int (nI 0), .ref m_from, .ref m_to, .ref m_failWorker, .ref m_failLevel, .ref m_failTurn, .int (nI 0), .int (nI 0), .int (nI 0), .int (nI 0), .int (nI 0), .int (nI 0), .int (nI 0), .ref m_levelOf, .ref m_times, .ref m_sizes, .ref m_isNext, .ref m_isLive, .ref m_isLooked, .ref m_turnsOf, .ref m_takenOf, .ref m_stallsOf, .ref m_here, .ref m_stands, .ref m_nextMove, .ref m_queued, .ref m_queue, .ref m_failedWorker, .ref m_failedLevel, .ref m_failedTurns, .ref m_can]))]) [0] (by decide) rfl
          exact xw_iret () hx hb hr hlocks d_MO_way_75 (rfl) (trivial) hAe hP9 hD9 hS (Nat.le_of_ble_eq_true rfl) (Nat.le_of_ble_eq_true rfl)
      · exact absurd c_19 (by decide +kernel)
set_option maxHeartbeats 4000000 in
set_option maxRecDepth 100000 in
/-- failed, before a run -/
theorem c_MO_failed (l : Launch) (D : va_G) (cI cB cL : ClassId) (h0 : Nat) (wk : Nat) (rm : Nat) (m_from : Nat) (m_to : Nat) (m_failWorker : Nat) (m_failLevel : Nat) (m_failTurn : Nat) (m_levelOf : Nat) (m_times : Nat) (m_sizes : Nat) (m_isNext : Nat) (m_isLive : Nat) (m_isLooked : Nat) (m_turnsOf : Nat) (m_takenOf : Nat) (m_stallsOf : Nat) (m_here : Nat) (m_stands : Nat) (m_nextMove : Nat) (m_queued : Nat) (m_queue : Nat) (m_failedWorker : Nat) (m_failedLevel : Nat) (m_failedTurns : Nat) (m_can : Nat) (a : Int32) (b : Int32)  : xG (σ := Unit) l y_MO_failed w_MO_failed ({ frames := 1, cells := 0, slots := 0, locals := 23  } : Room) D vwCl (xs_tys cI cB cL) [.ref h0, .int a, .int b] [(h0, .inr (10, [.int (nI 0), .int (nI wk), .int (nI rm), .int (nI 0), .int (nI 0), .int (nI 0), .ref m_from, .ref m_to, .ref m_failWorker, .ref m_failLevel, .ref m_failTurn, .int (nI 0), .int (nI 0), .int (nI 0), .int (nI 0), .int (nI 0), .int (nI 0), .int (nI 0), .ref m_levelOf, .ref m_times, .ref m_sizes, .ref m_isNext, .ref m_isLive, .ref m_isLooked, .ref m_turnsOf, .ref m_takenOf, .ref m_stallsOf, .ref m_here, .ref m_stands, .ref m_nextMove, .ref m_queued, .ref m_queue, .ref m_failedWorker, .ref m_failedLevel, .ref m_failedTurns, .ref m_can]))] (fun _ => True) (fun _ => some (.int (nI 0))) (fun _ => [(h0, .inr (10, [.int (nI 1), .int (nI wk), .int (nI rm), .int (nI 0), .int (nI 0), .int (nI 0), .ref m_from, .ref m_to, .ref m_failWorker, .ref m_failLevel, .ref m_failTurn, .int (nI 0), .int (nI 0), .int (nI 0), .int (nI 0), .int (nI 0), .int (nI 0), .int (nI 0), .ref m_levelOf, .ref m_times, .ref m_sizes, .ref m_isNext, .ref m_isLive, .ref m_isLooked, .ref m_turnsOf, .ref m_takenOf, .ref m_stallsOf, .ref m_here, .ref m_stands, .ref m_nextMove, .ref m_queued, .ref m_queue, .ref m_failedWorker, .ref m_failedLevel, .ref m_failedTurns, .ref m_can]))]) := by
  refine xG.of b_MO_failed 3 (some .int) (by decide +kernel) rfl (Nat.le_of_ble_eq_true rfl) ?_
  intro p e s m below meth c A ls hAe C0 hP hD hS hl
  obtain ⟨hx, hb, hr, hml, hown, hlocks, hts, hnm, hN, hK, hA⟩ := C0
  have hU : ∀ w ∈ xU, w.before #[.ref h0, .int a, .int b] s = true := fun w h => hts w (List.mem_cons_of_mem _ h)
  have hl : lv_has ls 3 [(0, .ref h0), (1, .int a), (2, .int b)] := hl
  refine lv_aload_n hx hb d_MO_failed_0 rfl (lv_at hl 0 rfl) ?_
  refine lv_iload_n hx hb d_MO_failed_1 rfl (lv_at hl 1 rfl) ?_
  refine lv_aload_n hx hb d_MO_failed_2 rfl (lv_at hl 0 rfl) ?_
  refine va_get (D := D) (ci := 10) (v := .int (nI 0)) (C := R_MO) (T := T_MO) (N := 36) hx hb hU iw_MO hown hK hP 0 rfl rfl 17 (by decide) (hU _ uw_740) (fun _ h9 => h9) rfl d_MO_failed_3 ?_
  refine xw_callS (wr := [(h0, .inr (10, [.int (nI 0), .int (nI wk), .int (nI rm), .int (nI 0), .int (nI 0), .int (nI 0), .ref m_from, .ref m_to, .ref m_failWorker, .ref m_failLevel, .ref m_failTurn, .int (nI 0), .int (nI 0), .int (nI 0), .int (nI 0), .int (nI 0), .int (nI 0), .int (nI 0), .ref m_levelOf, .ref m_times, .ref m_sizes, .ref m_isNext, .ref m_isLive, .ref m_isLooked, .ref m_turnsOf, .ref m_takenOf, .ref m_stallsOf, .ref m_here, .ref m_stands, .ref m_nextMove, .ref m_queued, .ref m_queue, .ref m_failedWorker, .ref m_failedLevel, .ref m_failedTurns, .ref m_can]))]) [.int a, .int (nI 0)] (c_MO_isOf l D cI cB cL a (nI 0)) ⟨hx, hb, hml, hown, hU⟩ (va_cwS 2 hU (xs_goodS uw_848 uw_849 uw_13 uw_850) rfl rfl rfl (by decide +kernel) ⟨Nat.le_of_ble_eq_true rfl, Nat.le_of_ble_eq_true rfl⟩) rfl hl.1 rfl (Nat.le_of_ble_eq_true rfl) d_MO_failed_6 ⟨Nat.le_of_ble_eq_true rfl, Nat.le_of_ble_eq_true rfl⟩ [] [0] rfl rfl (by decide) (by decide) (by decide) hN hK hP hD hS hA (fun u H locs hf hP hD hS => ?_)
  obtain ⟨v_1, rfl⟩ : ∃ z, z = u := ⟨_, rfl⟩
  have hf_6 : (v_1 = 1 ∧ ¬ a < 0 ∧ a < (nI 0)) ∨ (v_1 = 0 ∧ (a < 0 ∨ (nI 0) ≤ a)) := hf
  have hP : va_P D vwCl [(h0, .inr (10, [.int (nI 0), .int (nI wk), .int (nI rm), .int (nI 0), .int (nI 0), .int (nI 0), .ref m_from, .ref m_to, .ref m_failWorker, .ref m_failLevel, .ref m_failTurn, .int (nI 0), .int (nI 0), .int (nI 0), .int (nI 0), .int (nI 0), .int (nI 0), .int (nI 0), .ref m_levelOf, .ref m_times, .ref m_sizes, .ref m_isNext, .ref m_isLive, .ref m_isLooked, .ref m_turnsOf, .ref m_takenOf, .ref m_stallsOf, .ref m_here, .ref m_stands, .ref m_nextMove, .ref m_queued, .ref m_queue, .ref m_failedWorker, .ref m_failedLevel, .ref m_failedTurns, .ref m_can]))] H := hP
  have hD : va_D A [(h0, .inr (10, [.int (nI 0), .int (nI wk), .int (nI rm), .int (nI 0), .int (nI 0), .int (nI 0), .ref m_from, .ref m_to, .ref m_failWorker, .ref m_failLevel, .ref m_failTurn, .int (nI 0), .int (nI 0), .int (nI 0), .int (nI 0), .int (nI 0), .int (nI 0), .int (nI 0), .ref m_levelOf, .ref m_times, .ref m_sizes, .ref m_isNext, .ref m_isLive, .ref m_isLooked, .ref m_turnsOf, .ref m_takenOf, .ref m_stallsOf, .ref m_here, .ref m_stands, .ref m_nextMove, .ref m_queued, .ref m_queue, .ref m_failedWorker, .ref m_failedLevel, .ref m_failedTurns, .ref m_can]))] := hD
  refine W.widen (k := 0) (n := 0) (Nat.le_of_ble_eq_true rfl) (Nat.le_of_ble_eq_true rfl) ?_
  refine W.eq (g2 := F0 m 9 ls [.int v_1, .ref h0]) rfl ?_
  rcases hf_6 with ⟨rfl, hg1, hg2⟩ | ⟨rfl, hg⟩
  · exact absurd hg2 (fun z => xs_no0 hg1 z)
  · refine lv_if_eq (tgt := 20) hx hb d_MO_failed_9 (by decide) (fun c_9 => ?_) (fun c_9 => ?_)
    · refine lv_iconst (v := nI 1) hx hb d_MO_failed_20 (by decide +kernel) ?_
      refine lv_goto (tgt := 25) hx hb d_MO_failed_21 (by decide) ?_
      refine lv_iconst (v := nI 0) hx hb d_MO_failed_25 (by decide +kernel) ?_
      refine lv_iconst (v := nI 0) hx hb d_MO_failed_26 (by decide +kernel) ?_
      refine xw_callV (C := R_MO) (wr := []) [.int (nI 1), .int (nI 0), .int (nI 0)] (c_MO_thr1 l D cI cB cL h0 m_from m_to m_failWorker m_failLevel m_failTurn m_levelOf m_times m_sizes m_isNext m_isLive m_isLooked m_turnsOf m_takenOf m_stallsOf m_here m_stands m_nextMove m_queued m_queue m_failedWorker m_failedLevel m_failedTurns m_can (.int (nI 0)) (.int (nI wk)) (.int (nI rm)) (.int (nI 0)) (.int (nI 0)) (.int (nI 0)) (.int (nI 0)) (.int (nI 0)) (.int (nI 0)) (.int (nI 0)) (.int (nI 0)) (.int (nI 0)) (.int (nI 0)) (nI 0) (nI 0)) ⟨hx, hb, hml, hown, hU⟩ (cwV 3 hU (xs_goodV uw_840 uw_842 uw_m13 uw_13 uw_843) rfl rfl rfl (by decide +kernel) ⟨Nat.le_of_ble_eq_true rfl, Nat.le_of_ble_eq_true rfl⟩) 0 rfl rfl rfl rfl hl.1 rfl (Nat.le_of_ble_eq_true rfl) d_MO_failed_27 ⟨Nat.le_of_ble_eq_true rfl, Nat.le_of_ble_eq_true rfl⟩ [0] [] rfl rfl (by decide) (by decide) (by decide) hN hK hP hD hS hA (fun u H locs hf hP hD hS => ?_)
      have hP : va_P D vwCl [(h0, .inr (10, [.int (nI 1), .int (nI wk), .int (nI rm), .int (nI 0), .int (nI 0), .int (nI 0), .ref m_from, .ref m_to, .ref m_failWorker, .ref m_failLevel, .ref m_failTurn, .int (nI 0), .int (nI 0), .int (nI 0), .int (nI 0), .int (nI 0), .int (nI 0), .int (nI 0), .ref m_levelOf, .ref m_times, .ref m_sizes, .ref m_isNext, .ref m_isLive, .ref m_isLooked, .ref m_turnsOf, .ref m_takenOf, .ref m_stallsOf, .ref m_here, .ref m_stands, .ref m_nextMove, .ref m_queued, .ref m_queue, .ref m_failedWorker, .ref m_failedLevel, .ref m_failedTurns, .ref m_can]))] H := hP
      have hD : va_D A [(h0, .inr (10, [.int (nI 1), .int (nI wk), .int (nI rm), .int (nI 0), .int (nI 0), .int (nI 0), .ref m_from, .ref m_to, .ref m_failWorker, .ref m_failLevel, .ref m_failTurn, .int (nI 0), .int (nI 0), .int (nI 0), .int (nI 0), .int (nI 0), .int (nI 0), .int (nI 0), .ref m_levelOf, .ref m_times, .ref m_sizes, .ref m_isNext, .ref m_isLive, .ref m_isLooked, .ref m_turnsOf, .ref m_takenOf, .ref m_stallsOf, .ref m_here, .ref m_stands, .ref m_nextMove, .ref m_queued, .ref m_queue, .ref m_failedWorker, .ref m_failedLevel, .ref m_failedTurns, .ref m_can]))] := hD
      refine W.widen (k := 0) (n := 0) (Nat.le_of_ble_eq_true rfl) (Nat.le_of_ble_eq_true rfl) ?_
      refine W.eq (g2 := F0 m 30 ls [.int (nI 1)]) rfl ?_
      refine lv_if_eq (tgt := 35) hx hb d_MO_failed_30 (by decide) (fun c_30 => ?_) (fun c_30 => ?_)
      · exact absurd c_30 (by decide +kernel)
      · refine lv_iconst (v := nI 0) hx hb d_MO_failed_33 (by decide +kernel) ?_
        have hP9 := xs_P_sub (w := [(h0, .inr (10, [.int (nI 1), .int (nI wk), .int (nI rm), .int (nI 0), .int (nI 0), .int (nI 0), .ref m_from, .ref m_to, .ref m_failWorker, .ref m_failLevel, .ref m_failTurn, .int (nI 0), .int (nI 0), .int (nI 0), .int (nI 0), .int (nI 0), .int (nI 0), .int (nI 0), .ref m_levelOf, .ref m_times, .ref m_sizes, .ref m_isNext, .ref m_isLive, .ref m_isLooked, .ref m_turnsOf, .ref m_takenOf, .ref m_stallsOf, .ref m_here, .ref m_stands, .ref m_nextMove, .ref m_queued, .ref m_queue, .ref m_failedWorker, .ref m_failedLevel, .ref m_failedTurns, .ref m_can]))]) hP [0] rfl
        have hD9 := hD.sub (ws' := [(h0, .inr (10, [.int (nI 1), .int (nI wk), .int (nI rm), .int (nI 0), .int (nI 0), .int (nI 0), .ref m_from, .ref m_to, .ref m_failWorker, .ref m_failLevel, .ref m_failTurn, .int (nI 0), .int (nI 0), .int (nI 0), .int (nI 0), .int (nI 0), .int (nI 0), .int (nI 0), .ref m_levelOf, .ref m_times, .ref m_sizes, .ref m_isNext, .ref m_isLive, .ref m_isLooked, .ref m_turnsOf, .ref m_takenOf, .ref m_stallsOf, .ref m_here, .ref m_stands, .ref m_nextMove, .ref m_queued, .ref m_queue, .ref m_failedWorker, .ref m_failedLevel, .ref m_failedTurns, .ref m_can]))]) [0] (by decide) rfl
        exact xw_iret () hx hb hr hlocks d_MO_failed_34 (rfl) (trivial) hAe hP9 hD9 hS (Nat.le_of_ble_eq_true rfl) (Nat.le_of_ble_eq_true rfl)
    · exact absurd c_9 (by decide +kernel)
set_option maxHeartbeats 4000000 in
set_option maxRecDepth 100000 in
/-- toldAt, when none is told -/
theorem c_MO_toldAt0 (l : Launch) (D : va_G) (cI cB cL : ClassId) (h0 : Nat) (wk : Nat) (rm : Nat) (m_from : Nat) (m_to : Nat) (m_failWorker : Nat) (m_failLevel : Nat) (m_failTurn : Nat) (m_levelOf : Nat) (m_times : Nat) (m_sizes : Nat) (m_isNext : Nat) (m_isLive : Nat) (m_isLooked : Nat) (m_turnsOf : Nat) (m_takenOf : Nat) (m_stallsOf : Nat) (m_here : Nat) (m_stands : Nat) (m_nextMove : Nat) (m_queued : Nat) (m_queue : Nat) (m_failedWorker : Nat) (m_failedLevel : Nat) (m_failedTurns : Nat) (m_can : Nat) (a : Int32) (b : Int32)  : xG (σ := Unit) l y_MO_toldAt w_MO_toldAt ({ frames := 0, cells := 0, slots := 0, locals := 0  } : Room) D vwCl (xs_tys cI cB cL) [.ref h0, .int a, .int b] [(h0, .inr (10, [.int (nI 0), .int (nI wk), .int (nI rm), .int (nI 0), .int (nI 0), .int (nI 0), .ref m_from, .ref m_to, .ref m_failWorker, .ref m_failLevel, .ref m_failTurn, .int (nI 0), .int (nI 0), .int (nI 0), .int (nI 0), .int (nI 0), .int (nI 0), .int (nI 0), .ref m_levelOf, .ref m_times, .ref m_sizes, .ref m_isNext, .ref m_isLive, .ref m_isLooked, .ref m_turnsOf, .ref m_takenOf, .ref m_stallsOf, .ref m_here, .ref m_stands, .ref m_nextMove, .ref m_queued, .ref m_queue, .ref m_failedWorker, .ref m_failedLevel, .ref m_failedTurns, .ref m_can]))] (fun _ => True) (fun _ => some (.int (-1))) (fun _ => [(h0, .inr (10, [.int (nI 0), .int (nI wk), .int (nI rm), .int (nI 0), .int (nI 0), .int (nI 0), .ref m_from, .ref m_to, .ref m_failWorker, .ref m_failLevel, .ref m_failTurn, .int (nI 0), .int (nI 0), .int (nI 0), .int (nI 0), .int (nI 0), .int (nI 0), .int (nI 0), .ref m_levelOf, .ref m_times, .ref m_sizes, .ref m_isNext, .ref m_isLive, .ref m_isLooked, .ref m_turnsOf, .ref m_takenOf, .ref m_stallsOf, .ref m_here, .ref m_stands, .ref m_nextMove, .ref m_queued, .ref m_queue, .ref m_failedWorker, .ref m_failedLevel, .ref m_failedTurns, .ref m_can]))]) := by
  refine xG.of b_MO_toldAt 4 (some .int) (by decide +kernel) rfl (Nat.le_of_ble_eq_true rfl) ?_
  intro p e s m below meth c A ls hAe C0 hP hD hS hl
  obtain ⟨hx, hb, hr, hml, hown, hlocks, hts, hnm, hN, hK, hA⟩ := C0
  have hU : ∀ w ∈ xU, w.before #[.ref h0, .int a, .int b] s = true := fun w h => hts w (List.mem_cons_of_mem _ h)
  have hl : lv_has ls 4 [(0, .ref h0), (1, .int a), (2, .int b)] := hl
  refine lv_iconst (v := nI 0) hx hb d_MO_toldAt_0 (by decide +kernel) ?_
  refine lv_istore_n (lv' := [(3, .int (nI 0)), (0, .ref h0), (1, .int a), (2, .int b)]) hx hb d_MO_toldAt_1 rfl hl (by decide) rfl (fun ls hl => ?_)
  refine lv_iload_n hx hb d_MO_toldAt_2 rfl (lv_at hl 0 rfl) ?_
  refine lv_aload_n hx hb d_MO_toldAt_3 rfl (lv_at hl 1 rfl) ?_
  refine va_get (D := D) (ci := 10) (v := .int (nI 0)) (C := R_MO) (T := T_MO) (N := 36) hx hb hU iw_MO hown hK hP 0 rfl rfl 5 (by decide) (hU _ uw_728) (fun _ h9 => h9) rfl d_MO_toldAt_4 ?_
  refine lv_icmp_ge (tgt := 38) hx hb d_MO_toldAt_7 (by decide) (fun c_7 => ?_) (fun c_7 => ?_)
  · refine lv_iconst (v := (-1)) hx hb d_MO_toldAt_38 (by decide +kernel) ?_
    have hP9 := xs_P_sub (w := [(h0, .inr (10, [.int (nI 0), .int (nI wk), .int (nI rm), .int (nI 0), .int (nI 0), .int (nI 0), .ref m_from, .ref m_to, .ref m_failWorker, .ref m_failLevel, .ref m_failTurn, .int (nI 0), .int (nI 0), .int (nI 0), .int (nI 0), .int (nI 0), .int (nI 0), .int (nI 0), .ref m_levelOf, .ref m_times, .ref m_sizes, .ref m_isNext, .ref m_isLive, .ref m_isLooked, .ref m_turnsOf, .ref m_takenOf, .ref m_stallsOf, .ref m_here, .ref m_stands, .ref m_nextMove, .ref m_queued, .ref m_queue, .ref m_failedWorker, .ref m_failedLevel, .ref m_failedTurns, .ref m_can]))]) hP [0] rfl
    have hD9 := hD.sub (ws' := [(h0, .inr (10, [.int (nI 0), .int (nI wk), .int (nI rm), .int (nI 0), .int (nI 0), .int (nI 0), .ref m_from, .ref m_to, .ref m_failWorker, .ref m_failLevel, .ref m_failTurn, .int (nI 0), .int (nI 0), .int (nI 0), .int (nI 0), .int (nI 0), .int (nI 0), .int (nI 0), .ref m_levelOf, .ref m_times, .ref m_sizes, .ref m_isNext, .ref m_isLive, .ref m_isLooked, .ref m_turnsOf, .ref m_takenOf, .ref m_stallsOf, .ref m_here, .ref m_stands, .ref m_nextMove, .ref m_queued, .ref m_queue, .ref m_failedWorker, .ref m_failedLevel, .ref m_failedTurns, .ref m_can]))]) [0] (by decide) rfl
    exact xw_iret () hx hb hr hlocks d_MO_toldAt_39 (rfl) (trivial) hAe hP9 hD9 hS (Nat.le_of_ble_eq_true rfl) (Nat.le_of_ble_eq_true rfl)
  · exact absurd c_7 (by decide +kernel)
set_option maxHeartbeats 4000000 in
set_option maxRecDepth 100000 in
/-- owned, when there are no states -/
theorem c_MO_owned0 (l : Launch) (D : va_G) (cI cB cL : ClassId) (h0 : Nat) (wk : Nat) (rm : Nat) (m_from : Nat) (m_to : Nat) (m_failWorker : Nat) (m_failLevel : Nat) (m_failTurn : Nat) (m_levelOf : Nat) (m_times : Nat) (m_sizes : Nat) (m_isNext : Nat) (m_isLive : Nat) (m_isLooked : Nat) (m_turnsOf : Nat) (m_takenOf : Nat) (m_stallsOf : Nat) (m_here : Nat) (m_stands : Nat) (m_nextMove : Nat) (m_queued : Nat) (m_queue : Nat) (m_failedWorker : Nat) (m_failedLevel : Nat) (m_failedTurns : Nat) (m_can : Nat) (a : Int32)  : xG (σ := Unit) l y_MO_owned w_MO_owned ({ frames := 0, cells := 0, slots := 0, locals := 0  } : Room) D vwCl (xs_tys cI cB cL) [.ref h0, .int a] [(h0, .inr (10, [.int (nI 0), .int (nI wk), .int (nI rm), .int (nI 0), .int (nI 0), .int (nI 0), .ref m_from, .ref m_to, .ref m_failWorker, .ref m_failLevel, .ref m_failTurn, .int (nI 0), .int (nI 0), .int (nI 0), .int (nI 0), .int (nI 0), .int (nI 0), .int (nI 0), .ref m_levelOf, .ref m_times, .ref m_sizes, .ref m_isNext, .ref m_isLive, .ref m_isLooked, .ref m_turnsOf, .ref m_takenOf, .ref m_stallsOf, .ref m_here, .ref m_stands, .ref m_nextMove, .ref m_queued, .ref m_queue, .ref m_failedWorker, .ref m_failedLevel, .ref m_failedTurns, .ref m_can]))] (fun _ => True) (fun _ => some (.int (nI 0))) (fun _ => [(h0, .inr (10, [.int (nI 0), .int (nI wk), .int (nI rm), .int (nI 0), .int (nI 0), .int (nI 0), .ref m_from, .ref m_to, .ref m_failWorker, .ref m_failLevel, .ref m_failTurn, .int (nI 0), .int (nI 0), .int (nI 0), .int (nI 0), .int (nI 0), .int (nI 0), .int (nI 0), .ref m_levelOf, .ref m_times, .ref m_sizes, .ref m_isNext, .ref m_isLive, .ref m_isLooked, .ref m_turnsOf, .ref m_takenOf, .ref m_stallsOf, .ref m_here, .ref m_stands, .ref m_nextMove, .ref m_queued, .ref m_queue, .ref m_failedWorker, .ref m_failedLevel, .ref m_failedTurns, .ref m_can]))]) := by
  refine xG.of b_MO_owned 4 (some .int) (by decide +kernel) rfl (Nat.le_of_ble_eq_true rfl) ?_
  intro p e s m below meth c A ls hAe C0 hP hD hS hl
  obtain ⟨hx, hb, hr, hml, hown, hlocks, hts, hnm, hN, hK, hA⟩ := C0
  have hU : ∀ w ∈ xU, w.before #[.ref h0, .int a] s = true := fun w h => hts w (List.mem_cons_of_mem _ h)
  have hl : lv_has ls 4 [(0, .ref h0), (1, .int a)] := hl
  refine lv_iconst (v := nI 0) hx hb d_MO_owned_0 (by decide +kernel) ?_
  refine lv_istore_n (lv' := [(2, .int (nI 0)), (0, .ref h0), (1, .int a)]) hx hb d_MO_owned_1 rfl hl (by decide) rfl (fun ls hl => ?_)
  refine lv_iconst (v := nI 0) hx hb d_MO_owned_2 (by decide +kernel) ?_
  refine lv_istore_n (lv' := [(3, .int (nI 0)), (2, .int (nI 0)), (0, .ref h0), (1, .int a)]) hx hb d_MO_owned_3 rfl hl (by decide) rfl (fun ls hl => ?_)
  refine lv_iload_n hx hb d_MO_owned_4 rfl (lv_at hl 0 rfl) ?_
  refine lv_aload_n hx hb d_MO_owned_5 rfl (lv_at hl 2 rfl) ?_
  refine va_get (D := D) (ci := 10) (v := .int (nI 0)) (C := R_MO) (T := T_MO) (N := 36) hx hb hU iw_MO hown hK hP 0 rfl rfl 3 (by decide) (hU _ uw_726) (fun _ h9 => h9) rfl d_MO_owned_6 ?_
  refine lv_icmp_ge (tgt := 44) hx hb d_MO_owned_9 (by decide) (fun c_9 => ?_) (fun c_9 => ?_)
  · refine lv_iload_n hx hb d_MO_owned_44 rfl (lv_at hl 1 rfl) ?_
    have hP9 := xs_P_sub (w := [(h0, .inr (10, [.int (nI 0), .int (nI wk), .int (nI rm), .int (nI 0), .int (nI 0), .int (nI 0), .ref m_from, .ref m_to, .ref m_failWorker, .ref m_failLevel, .ref m_failTurn, .int (nI 0), .int (nI 0), .int (nI 0), .int (nI 0), .int (nI 0), .int (nI 0), .int (nI 0), .ref m_levelOf, .ref m_times, .ref m_sizes, .ref m_isNext, .ref m_isLive, .ref m_isLooked, .ref m_turnsOf, .ref m_takenOf, .ref m_stallsOf, .ref m_here, .ref m_stands, .ref m_nextMove, .ref m_queued, .ref m_queue, .ref m_failedWorker, .ref m_failedLevel, .ref m_failedTurns, .ref m_can]))]) hP [0] rfl
    have hD9 := hD.sub (ws' := [(h0, .inr (10, [.int (nI 0), .int (nI wk), .int (nI rm), .int (nI 0), .int (nI 0), .int (nI 0), .ref m_from, .ref m_to, .ref m_failWorker, .ref m_failLevel, .ref m_failTurn, .int (nI 0), .int (nI 0), .int (nI 0), .int (nI 0), .int (nI 0), .int (nI 0), .int (nI 0), .ref m_levelOf, .ref m_times, .ref m_sizes, .ref m_isNext, .ref m_isLive, .ref m_isLooked, .ref m_turnsOf, .ref m_takenOf, .ref m_stallsOf, .ref m_here, .ref m_stands, .ref m_nextMove, .ref m_queued, .ref m_queue, .ref m_failedWorker, .ref m_failedLevel, .ref m_failedTurns, .ref m_can]))]) [0] (by decide) rfl
    exact xw_iret () hx hb hr hlocks d_MO_owned_45 (rfl) (trivial) hAe hP9 hD9 hS (Nat.le_of_ble_eq_true rfl) (Nat.le_of_ble_eq_true rfl)
  · exact absurd c_9 (by decide +kernel)
set_option maxHeartbeats 4000000 in
set_option maxRecDepth 100000 in
/-- cameAll, when there are no states -/
theorem c_MO_cameAll0 (l : Launch) (D : va_G) (cI cB cL : ClassId) (h0 : Nat) (wk : Nat) (rm : Nat) (m_from : Nat) (m_to : Nat) (m_failWorker : Nat) (m_failLevel : Nat) (m_failTurn : Nat) (m_levelOf : Nat) (m_times : Nat) (m_sizes : Nat) (m_isNext : Nat) (m_isLive : Nat) (m_isLooked : Nat) (m_turnsOf : Nat) (m_takenOf : Nat) (m_stallsOf : Nat) (m_here : Nat) (m_stands : Nat) (m_nextMove : Nat) (m_queued : Nat) (m_queue : Nat) (m_failedWorker : Nat) (m_failedLevel : Nat) (m_failedTurns : Nat) (m_can : Nat)  : xG (σ := Unit) l y_MO_cameAll w_MO_cameAll ({ frames := 0, cells := 0, slots := 0, locals := 0  } : Room) D vwCl (xs_tys cI cB cL) [.ref h0] [(h0, .inr (10, [.int (nI 0), .int (nI wk), .int (nI rm), .int (nI 0), .int (nI 0), .int (nI 0), .ref m_from, .ref m_to, .ref m_failWorker, .ref m_failLevel, .ref m_failTurn, .int (nI 0), .int (nI 0), .int (nI 0), .int (nI 0), .int (nI 0), .int (nI 0), .int (nI 0), .ref m_levelOf, .ref m_times, .ref m_sizes, .ref m_isNext, .ref m_isLive, .ref m_isLooked, .ref m_turnsOf, .ref m_takenOf, .ref m_stallsOf, .ref m_here, .ref m_stands, .ref m_nextMove, .ref m_queued, .ref m_queue, .ref m_failedWorker, .ref m_failedLevel, .ref m_failedTurns, .ref m_can]))] (fun _ => True) (fun _ => some (.int (nI 0))) (fun _ => [(h0, .inr (10, [.int (nI 0), .int (nI wk), .int (nI rm), .int (nI 0), .int (nI 0), .int (nI 0), .ref m_from, .ref m_to, .ref m_failWorker, .ref m_failLevel, .ref m_failTurn, .int (nI 0), .int (nI 0), .int (nI 0), .int (nI 0), .int (nI 0), .int (nI 0), .int (nI 0), .ref m_levelOf, .ref m_times, .ref m_sizes, .ref m_isNext, .ref m_isLive, .ref m_isLooked, .ref m_turnsOf, .ref m_takenOf, .ref m_stallsOf, .ref m_here, .ref m_stands, .ref m_nextMove, .ref m_queued, .ref m_queue, .ref m_failedWorker, .ref m_failedLevel, .ref m_failedTurns, .ref m_can]))]) := by
  refine xG.of b_MO_cameAll 3 (some .int) (by decide +kernel) rfl (Nat.le_of_ble_eq_true rfl) ?_
  intro p e s m below meth c A ls hAe C0 hP hD hS hl
  obtain ⟨hx, hb, hr, hml, hown, hlocks, hts, hnm, hN, hK, hA⟩ := C0
  have hU : ∀ w ∈ xU, w.before #[.ref h0] s = true := fun w h => hts w (List.mem_cons_of_mem _ h)
  have hl : lv_has ls 3 [(0, .ref h0)] := hl
  refine lv_iconst (v := nI 0) hx hb d_MO_cameAll_0 (by decide +kernel) ?_
  refine lv_istore_n (lv' := [(1, .int (nI 0)), (0, .ref h0)]) hx hb d_MO_cameAll_1 rfl hl (by decide) rfl (fun ls hl => ?_)
  refine lv_iconst (v := nI 0) hx hb d_MO_cameAll_2 (by decide +kernel) ?_
  refine lv_istore_n (lv' := [(2, .int (nI 0)), (1, .int (nI 0)), (0, .ref h0)]) hx hb d_MO_cameAll_3 rfl hl (by decide) rfl (fun ls hl => ?_)
  refine lv_iload_n hx hb d_MO_cameAll_4 rfl (lv_at hl 0 rfl) ?_
  refine lv_aload_n hx hb d_MO_cameAll_5 rfl (lv_at hl 2 rfl) ?_
  refine va_get (D := D) (ci := 10) (v := .int (nI 0)) (C := R_MO) (T := T_MO) (N := 36) hx hb hU iw_MO hown hK hP 0 rfl rfl 3 (by decide) (hU _ uw_726) (fun _ h9 => h9) rfl d_MO_cameAll_6 ?_
  refine lv_icmp_ge (tgt := 35) hx hb d_MO_cameAll_9 (by decide) (fun c_9 => ?_) (fun c_9 => ?_)
  · refine lv_iload_n hx hb d_MO_cameAll_35 rfl (lv_at hl 1 rfl) ?_
    have hP9 := xs_P_sub (w := [(h0, .inr (10, [.int (nI 0), .int (nI wk), .int (nI rm), .int (nI 0), .int (nI 0), .int (nI 0), .ref m_from, .ref m_to, .ref m_failWorker, .ref m_failLevel, .ref m_failTurn, .int (nI 0), .int (nI 0), .int (nI 0), .int (nI 0), .int (nI 0), .int (nI 0), .int (nI 0), .ref m_levelOf, .ref m_times, .ref m_sizes, .ref m_isNext, .ref m_isLive, .ref m_isLooked, .ref m_turnsOf, .ref m_takenOf, .ref m_stallsOf, .ref m_here, .ref m_stands, .ref m_nextMove, .ref m_queued, .ref m_queue, .ref m_failedWorker, .ref m_failedLevel, .ref m_failedTurns, .ref m_can]))]) hP [0] rfl
    have hD9 := hD.sub (ws' := [(h0, .inr (10, [.int (nI 0), .int (nI wk), .int (nI rm), .int (nI 0), .int (nI 0), .int (nI 0), .ref m_from, .ref m_to, .ref m_failWorker, .ref m_failLevel, .ref m_failTurn, .int (nI 0), .int (nI 0), .int (nI 0), .int (nI 0), .int (nI 0), .int (nI 0), .int (nI 0), .ref m_levelOf, .ref m_times, .ref m_sizes, .ref m_isNext, .ref m_isLive, .ref m_isLooked, .ref m_turnsOf, .ref m_takenOf, .ref m_stallsOf, .ref m_here, .ref m_stands, .ref m_nextMove, .ref m_queued, .ref m_queue, .ref m_failedWorker, .ref m_failedLevel, .ref m_failedTurns, .ref m_can]))]) [0] (by decide) rfl
    exact xw_iret () hx hb hr hlocks d_MO_cameAll_36 (rfl) (trivial) hAe hP9 hD9 hS (Nat.le_of_ble_eq_true rfl) (Nat.le_of_ble_eq_true rfl)
  · exact absurd c_9 (by decide +kernel)
set_option maxHeartbeats 4000000 in
set_option maxRecDepth 100000 in
/-- live: all -/
theorem c_MO_live (l : Launch) (D : va_G) (cI cB cL : ClassId) (h0 : Nat) (wk : Nat) (rm : Nat) (m_from : Nat) (m_to : Nat) (m_failWorker : Nat) (m_failLevel : Nat) (m_failTurn : Nat) (m_levelOf : Nat) (m_times : Nat) (m_sizes : Nat) (m_isNext : Nat) (m_isLive : Nat) (m_isLooked : Nat) (m_turnsOf : Nat) (m_takenOf : Nat) (m_stallsOf : Nat) (m_here : Nat) (m_stands : Nat) (m_nextMove : Nat) (m_queued : Nat) (m_queue : Nat) (m_failedWorker : Nat) (m_failedLevel : Nat) (m_failedTurns : Nat) (m_can : Nat) (hw : wk ≤ 16) : xG (σ := Unit) l y_MO_live w_MO_live ({ frames := 0, cells := 0, slots := 0, locals := 0  } : Room) D vwCl (xs_tys cI cB cL) [.ref h0] [(h0, .inr (10, [.int (nI 0), .int (nI wk), .int (nI rm), .int (nI 0), .int (nI 0), .int (nI 0), .ref m_from, .ref m_to, .ref m_failWorker, .ref m_failLevel, .ref m_failTurn, .int (nI 0), .int (nI 0), .int (nI 0), .int (nI 0), .int (nI 0), .int (nI 0), .int (nI 0), .ref m_levelOf, .ref m_times, .ref m_sizes, .ref m_isNext, .ref m_isLive, .ref m_isLooked, .ref m_turnsOf, .ref m_takenOf, .ref m_stallsOf, .ref m_here, .ref m_stands, .ref m_nextMove, .ref m_queued, .ref m_queue, .ref m_failedWorker, .ref m_failedLevel, .ref m_failedTurns, .ref m_can])), (m_isLive, .inl (cB, 16, .inl (fun j => if j < wk then nI 1 else nI 0)))] (fun _ => True) (fun _ => some (.int (nI wk))) (fun _ => [(h0, .inr (10, [.int (nI 0), .int (nI wk), .int (nI rm), .int (nI 0), .int (nI 0), .int (nI 0), .ref m_from, .ref m_to, .ref m_failWorker, .ref m_failLevel, .ref m_failTurn, .int (nI 0), .int (nI 0), .int (nI 0), .int (nI 0), .int (nI 0), .int (nI 0), .int (nI 0), .ref m_levelOf, .ref m_times, .ref m_sizes, .ref m_isNext, .ref m_isLive, .ref m_isLooked, .ref m_turnsOf, .ref m_takenOf, .ref m_stallsOf, .ref m_here, .ref m_stands, .ref m_nextMove, .ref m_queued, .ref m_queue, .ref m_failedWorker, .ref m_failedLevel, .ref m_failedTurns, .ref m_can]))]) := by
  refine xG.of b_MO_live 3 (some .int) (by decide +kernel) rfl (Nat.le_of_ble_eq_true rfl) ?_
  intro p e s m below meth c A ls hAe C0 hP hD hS hl
  obtain ⟨hx, hb, hr, hml, hown, hlocks, hts, hnm, hN, hK, hA⟩ := C0
  have hU : ∀ w ∈ xU, w.before #[.ref h0] s = true := fun w h => hts w (List.mem_cons_of_mem _ h)
  have hl : lv_has ls 3 [(0, .ref h0)] := hl
  refine lv_iconst (v := nI 0) hx hb d_MO_live_0 (by decide +kernel) ?_
  refine lv_istore_n (lv' := [(1, .int (nI 0)), (0, .ref h0)]) hx hb d_MO_live_1 rfl hl (by decide) rfl (fun ls hl => ?_)
  refine lv_iconst (v := nI 0) hx hb d_MO_live_2 (by decide +kernel) ?_
  refine lv_istore_n (lv' := [(2, .int (nI 0)), (1, .int (nI 0)), (0, .ref h0)]) hx hb d_MO_live_3 rfl hl (by decide) rfl (fun ls hl => ?_)
  refine W.widen (k := 0) (n := 0) (Nat.le_of_ble_eq_true rfl) (Nat.le_of_ble_eq_true rfl) ?_
  have lp_4 : ∀ (fu : Nat) (i : Nat) (H : Heap) (locs : List Loc) (ls : Array Slot), (i + fu = wk) → va_P D vwCl [(h0, .inr (10, [.int (nI 0), .int (nI wk), .int (nI rm), .int (nI 0), .int (nI 0), .int (nI 0), .ref m_from, .ref m_to, .ref m_failWorker, .ref m_failLevel, .ref m_failTurn, .int (nI 0), .int (nI 0), .int (nI 0), .int (nI 0), .int (nI 0), .int (nI 0), .int (nI 0), .ref m_levelOf, .ref m_times, .ref m_sizes, .ref m_isNext, .ref m_isLive, .ref m_isLooked, .ref m_turnsOf, .ref m_takenOf, .ref m_stallsOf, .ref m_here, .ref m_stands, .ref m_nextMove, .ref m_queued, .ref m_queue, .ref m_failedWorker, .ref m_failedLevel, .ref m_failedTurns, .ref m_can])), (m_isLive, .inl (cB, 16, .inl (fun j => if j < wk then nI 1 else nI 0)))] H → va_D A [(h0, .inr (10, [.int (nI 0), .int (nI wk), .int (nI rm), .int (nI 0), .int (nI 0), .int (nI 0), .ref m_from, .ref m_to, .ref m_failWorker, .ref m_failLevel, .ref m_failTurn, .int (nI 0), .int (nI 0), .int (nI 0), .int (nI 0), .int (nI 0), .int (nI 0), .int (nI 0), .ref m_levelOf, .ref m_times, .ref m_sizes, .ref m_isNext, .ref m_isLive, .ref m_isLooked, .ref m_turnsOf, .ref m_takenOf, .ref m_stallsOf, .ref m_here, .ref m_stands, .ref m_nextMove, .ref m_queued, .ref m_queue, .ref m_failedWorker, .ref m_failedLevel, .ref m_failedTurns, .ref m_can])), (m_isLive, .inl (cB, 16, .inl (fun j => if j < wk then nI 1 else nI 0)))] → va_S A s.heap H locs → lv_has ls 3 [(2, .int (nI i)), (1, .int (nI i)), (0, .ref h0)] → W p l e (headSpec w_MO_live ({ frames := 0, cells := 0, slots := 0, locals := 0  } : Room)).room s m #[.ref h0] below meth c H locs 0 0 (xZ (σ := Unit) below #[.ref h0] s D vwCl [(h0, .inr (10, [.int (nI 0), .int (nI wk), .int (nI rm), .int (nI 0), .int (nI 0), .int (nI 0), .ref m_from, .ref m_to, .ref m_failWorker, .ref m_failLevel, .ref m_failTurn, .int (nI 0), .int (nI 0), .int (nI 0), .int (nI 0), .int (nI 0), .int (nI 0), .int (nI 0), .ref m_levelOf, .ref m_times, .ref m_sizes, .ref m_isNext, .ref m_isLive, .ref m_isLooked, .ref m_turnsOf, .ref m_takenOf, .ref m_stallsOf, .ref m_here, .ref m_stands, .ref m_nextMove, .ref m_queued, .ref m_queue, .ref m_failedWorker, .ref m_failedLevel, .ref m_failedTurns, .ref m_can])), (m_isLive, .inl (cB, 16, .inl (fun j => if j < wk then nI 1 else nI 0)))] s.heap.size ({ frames := 0, cells := 0, slots := 0, locals := 0  } : Room).cells ({ frames := 0, cells := 0, slots := 0, locals := 0  } : Room).slots (fun _ => True) (fun _ => some (.int (nI wk))) (fun _ => [(h0, .inr (10, [.int (nI 0), .int (nI wk), .int (nI rm), .int (nI 0), .int (nI 0), .int (nI 0), .ref m_from, .ref m_to, .ref m_failWorker, .ref m_failLevel, .ref m_failTurn, .int (nI 0), .int (nI 0), .int (nI 0), .int (nI 0), .int (nI 0), .int (nI 0), .int (nI 0), .ref m_levelOf, .ref m_times, .ref m_sizes, .ref m_isNext, .ref m_isLive, .ref m_isLooked, .ref m_turnsOf, .ref m_takenOf, .ref m_stallsOf, .ref m_here, .ref m_stands, .ref m_nextMove, .ref m_queued, .ref m_queue, .ref m_failedWorker, .ref m_failedLevel, .ref m_failedTurns, .ref m_can]))])) (F0 m 4 ls []) := by
    intro fu
    induction fu with
    | zero =>
      intro i H locs ls hi hP hD hS hl
      refine lv_iload_n hx hb d_MO_live_4 rfl (lv_at hl 0 rfl) ?_
      refine lv_aload_n hx hb d_MO_live_5 rfl (lv_at hl 2 rfl) ?_
      refine va_get (D := D) (ci := 10) (v := .int (nI wk)) (C := R_MO) (T := T_MO) (N := 36) hx hb hU iw_MO hown hK hP 0 rfl rfl 1 (by decide) (hU _ uw_724) (fun _ h9 => h9) rfl d_MO_live_6 ?_
      refine lv_icmp_ge (tgt := 35) hx hb d_MO_live_9 (by decide) (fun c_9 => ?_) (fun c_9 => ?_)
      · refine lv_iload_n hx hb d_MO_live_35 rfl (lv_at hl 1 rfl) ?_
        have hP9 := xs_P_sub (w := [(h0, .inr (10, [.int (nI 0), .int (nI wk), .int (nI rm), .int (nI 0), .int (nI 0), .int (nI 0), .ref m_from, .ref m_to, .ref m_failWorker, .ref m_failLevel, .ref m_failTurn, .int (nI 0), .int (nI 0), .int (nI 0), .int (nI 0), .int (nI 0), .int (nI 0), .int (nI 0), .ref m_levelOf, .ref m_times, .ref m_sizes, .ref m_isNext, .ref m_isLive, .ref m_isLooked, .ref m_turnsOf, .ref m_takenOf, .ref m_stallsOf, .ref m_here, .ref m_stands, .ref m_nextMove, .ref m_queued, .ref m_queue, .ref m_failedWorker, .ref m_failedLevel, .ref m_failedTurns, .ref m_can]))]) hP [0] rfl
        have hD9 := hD.sub (ws' := [(h0, .inr (10, [.int (nI 0), .int (nI wk), .int (nI rm), .int (nI 0), .int (nI 0), .int (nI 0), .ref m_from, .ref m_to, .ref m_failWorker, .ref m_failLevel, .ref m_failTurn, .int (nI 0), .int (nI 0), .int (nI 0), .int (nI 0), .int (nI 0), .int (nI 0), .int (nI 0), .ref m_levelOf, .ref m_times, .ref m_sizes, .ref m_isNext, .ref m_isLive, .ref m_isLooked, .ref m_turnsOf, .ref m_takenOf, .ref m_stallsOf, .ref m_here, .ref m_stands, .ref m_nextMove, .ref m_queued, .ref m_queue, .ref m_failedWorker, .ref m_failedLevel, .ref m_failedTurns, .ref m_can]))]) [0] (by decide) rfl
        exact xw_iret () hx hb hr hlocks d_MO_live_36 (by rw [show i = wk by omega]) (trivial) hAe hP9 hD9 hS (Nat.le_of_ble_eq_true rfl) (Nat.le_of_ble_eq_true rfl)
      · exact absurd (nI_le (a := wk) (b := i) (by omega) (by omega)) c_9
    | succ fu ih =>
      intro i H locs ls hi hP hD hS hl
      refine lv_iload_n hx hb d_MO_live_4 rfl (lv_at hl 0 rfl) ?_
      refine lv_aload_n hx hb d_MO_live_5 rfl (lv_at hl 2 rfl) ?_
      refine va_get (D := D) (ci := 10) (v := .int (nI wk)) (C := R_MO) (T := T_MO) (N := 36) hx hb hU iw_MO hown hK hP 0 rfl rfl 1 (by decide) (hU _ uw_724) (fun _ h9 => h9) rfl d_MO_live_6 ?_
      refine lv_icmp_ge (tgt := 35) hx hb d_MO_live_9 (by decide) (fun c_9 => ?_) (fun c_9 => ?_)
      · exact absurd c_9 (nI_ge (by omega) (by omega))
      · refine lv_iload_n hx hb d_MO_live_12 rfl (lv_at hl 1 rfl) ?_
        refine lv_aload_n hx hb d_MO_live_13 rfl (lv_at hl 2 rfl) ?_
        refine va_get (D := D) (ci := 10) (v := .ref m_isLive) (C := R_MO) (T := T_MO) (N := 36) hx hb hU iw_MO hown hK hP 0 rfl rfl 22 (by decide) (hU _ uw_745) (fun _ h9 => h9) rfl d_MO_live_14 ?_
        refine lv_iload_n hx hb d_MO_live_17 rfl (lv_at hl 0 rfl) ?_
        refine xw_zld hx hb hK hP 1 1 rfl rfl (by omega) (by decide) d_MO_live_18 ?_
        refine xw_top (nI 1) (if_pos (by omega)) ?_
        refine lv_if_eq (tgt := 26) hx hb d_MO_live_19 (by decide) (fun c_19 => ?_) (fun c_19 => ?_)
        · exact absurd c_19 (by decide +kernel)
        · refine lv_iconst (v := nI 1) hx hb d_MO_live_22 (by decide +kernel) ?_
          refine lv_goto (tgt := 27) hx hb d_MO_live_23 (by decide) ?_
          refine lv_iadd hx hb d_MO_live_27 ?_
          refine xw_top (nI (i + 1)) (nI_add _ _) ?_
          refine lv_istore_n (lv' := [(1, .int (nI (i + 1))), (2, .int (nI i)), (0, .ref h0)]) hx hb d_MO_live_28 rfl hl (by decide) rfl (fun ls hl => ?_)
          refine lv_iinc (v := nI (i + 1)) (lv' := [(2, .int (nI (i + 1))), (1, .int (nI (i + 1))), (0, .ref h0)]) hx hb d_MO_live_29 hl (k := 1) rfl (xs_inc i 1) (by decide) rfl (fun ls hl => ?_)
          refine lv_goto (tgt := 4) hx hb d_MO_live_32 (by decide) ?_
          exact ih (i + 1) _ _ _ (by omega) (xs_P_sub hP [0, 1] rfl) (hD.sub [0, 1] (by decide) rfl) hS (lv_sub hl [0, 1, 2] rfl)
  exact lp_4 (wk) 0 _ _ _ (by omega) hP hD hS (lv_sub hl [0, 1, 2] rfl)
end
