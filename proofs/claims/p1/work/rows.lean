section
-- ===== PART A: goes FIRST, ahead of the names: the tables' words, and 'selects' of the private methods out of them =====
/-- a private method of a class that the tables say can be made, by its rows of tables_1 -/
def lw_okq (q : MethodName × Nat) : Prop := (q.1.cls ≠ "java/lang/invoke/MethodHandle" ∧ q.1.cls ≠ "java/lang/invoke/VarHandle") ∧ Cond.instantiable q.1.cls q.2 ∈ tables_1 ∧ Cond.privateMethod q.1 ∈ tables_1 ∧ Cond.instanceMethod q.1 ∈ tables_1
theorem lw_p0 : lw_okq (⟨"java/lang/Throwable", "fillInStackTrace", "(I)Ljava/lang/Throwable;"⟩, 6) := ⟨⟨by decide +kernel, by decide +kernel⟩, List.mem_of_getElem? (i := 379) (by decide +kernel), List.mem_of_getElem? (i := 377) (by decide +kernel), List.mem_of_getElem? (i := 378) (by decide +kernel)⟩
theorem lw_p1 : lw_okq (⟨"ExploreShares$FailPlan", "takeBack", "(I)V"⟩, 4) := ⟨⟨by decide +kernel, by decide +kernel⟩, List.mem_of_getElem? (i := 66) (by decide +kernel), List.mem_of_getElem? (i := 504) (by decide +kernel), List.mem_of_getElem? (i := 505) (by decide +kernel)⟩
theorem lw_p2 : lw_okq (⟨"ExploreShares$Search", "beginLevel", "(I)V"⟩, 11) := ⟨⟨by decide +kernel, by decide +kernel⟩, List.mem_of_getElem? (i := 30) (by decide +kernel), List.mem_of_getElem? (i := 546) (by decide +kernel), List.mem_of_getElem? (i := 547) (by decide +kernel)⟩
theorem lw_p3 : lw_okq (⟨"ExploreShares$Search", "takeTurns", "(I)Z"⟩, 11) := ⟨⟨by decide +kernel, by decide +kernel⟩, List.mem_of_getElem? (i := 30) (by decide +kernel), List.mem_of_getElem? (i := 570) (by decide +kernel), List.mem_of_getElem? (i := 571) (by decide +kernel)⟩
theorem lw_p4 : lw_okq (⟨"ExploreShares$Search", "workerOfNextTurn", "()I"⟩, 11) := ⟨⟨by decide +kernel, by decide +kernel⟩, List.mem_of_getElem? (i := 30) (by decide +kernel), List.mem_of_getElem? (i := 575) (by decide +kernel), List.mem_of_getElem? (i := 576) (by decide +kernel)⟩
theorem lw_p5 : lw_okq (⟨"ExploreShares$Search", "isToFail", "(II)Z"⟩, 11) := ⟨⟨by decide +kernel, by decide +kernel⟩, List.mem_of_getElem? (i := 30) (by decide +kernel), List.mem_of_getElem? (i := 589) (by decide +kernel), List.mem_of_getElem? (i := 590) (by decide +kernel)⟩
theorem lw_p6 : lw_okq (⟨"ExploreShares$Search", "takeTurn", "(I)V"⟩, 11) := ⟨⟨by decide +kernel, by decide +kernel⟩, List.mem_of_getElem? (i := 30) (by decide +kernel), List.mem_of_getElem? (i := 605) (by decide +kernel), List.mem_of_getElem? (i := 606) (by decide +kernel)⟩
theorem lw_p7 : lw_okq (⟨"ExploreShares$Search", "takeMove", "(I)V"⟩, 11) := ⟨⟨by decide +kernel, by decide +kernel⟩, List.mem_of_getElem? (i := 30) (by decide +kernel), List.mem_of_getElem? (i := 617) (by decide +kernel), List.mem_of_getElem? (i := 618) (by decide +kernel)⟩
theorem lw_p8 : lw_okq (⟨"ExploreShares$Search", "handOver", "(II)Z"⟩, 11) := ⟨⟨by decide +kernel, by decide +kernel⟩, List.mem_of_getElem? (i := 30) (by decide +kernel), List.mem_of_getElem? (i := 625) (by decide +kernel), List.mem_of_getElem? (i := 626) (by decide +kernel)⟩
theorem lw_p9 : lw_okq (⟨"ExploreShares$Ways", "markWhatLeadsTo", "(LExploreShares$Net;LExploreShares$Levels;I)V"⟩, 1) := ⟨⟨by decide +kernel, by decide +kernel⟩, List.mem_of_getElem? (i := 175) (by decide +kernel), List.mem_of_getElem? (i := 675) (by decide +kernel), List.mem_of_getElem? (i := 676) (by decide +kernel)⟩
theorem lw_p10 : lw_okq (⟨"ExploreShares$Ways", "lowestBehind", "(LExploreShares$Net;LExploreShares$Levels;I)I"⟩, 1) := ⟨⟨by decide +kernel, by decide +kernel⟩, List.mem_of_getElem? (i := 175) (by decide +kernel), List.mem_of_getElem? (i := 680) (by decide +kernel), List.mem_of_getElem? (i := 681) (by decide +kernel)⟩
theorem lw_p11 : lw_okq (⟨"ExploreSharesModel", "forget", "()V"⟩, 36) := ⟨⟨by decide +kernel, by decide +kernel⟩, List.mem_of_getElem? (i := 714) (by decide +kernel), List.mem_of_getElem? (i := 720) (by decide +kernel), List.mem_of_getElem? (i := 721) (by decide +kernel)⟩
theorem lw_p12 : lw_okq (⟨"ExploreSharesModel", "throwing", "(ZZZ)Z"⟩, 36) := ⟨⟨by decide +kernel, by decide +kernel⟩, List.mem_of_getElem? (i := 714) (by decide +kernel), List.mem_of_getElem? (i := 841) (by decide +kernel), List.mem_of_getElem? (i := 842) (by decide +kernel)⟩
theorem lw_p13 : lw_okq (⟨"ExploreSharesModel", "toldAt", "(II)I"⟩, 36) := ⟨⟨by decide +kernel, by decide +kernel⟩, List.mem_of_getElem? (i := 714) (by decide +kernel), List.mem_of_getElem? (i := 856) (by decide +kernel), List.mem_of_getElem? (i := 857) (by decide +kernel)⟩
theorem lw_p14 : lw_okq (⟨"ExploreSharesModel", "goThrough", "()V"⟩, 36) := ⟨⟨by decide +kernel, by decide +kernel⟩, List.mem_of_getElem? (i := 714) (by decide +kernel), List.mem_of_getElem? (i := 865) (by decide +kernel), List.mem_of_getElem? (i := 866) (by decide +kernel)⟩
theorem lw_p15 : lw_okq (⟨"ExploreSharesModel", "beginLevel", "()V"⟩, 36) := ⟨⟨by decide +kernel, by decide +kernel⟩, List.mem_of_getElem? (i := 714) (by decide +kernel), List.mem_of_getElem? (i := 869) (by decide +kernel), List.mem_of_getElem? (i := 870) (by decide +kernel)⟩
def lw_privs_1 : List (MethodName × Nat) := [(⟨"java/lang/Throwable", "fillInStackTrace", "(I)Ljava/lang/Throwable;"⟩, 6), (⟨"ExploreShares$FailPlan", "takeBack", "(I)V"⟩, 4), (⟨"ExploreShares$Search", "beginLevel", "(I)V"⟩, 11), (⟨"ExploreShares$Search", "takeTurns", "(I)Z"⟩, 11), (⟨"ExploreShares$Search", "workerOfNextTurn", "()I"⟩, 11), (⟨"ExploreShares$Search", "isToFail", "(II)Z"⟩, 11), (⟨"ExploreShares$Search", "takeTurn", "(I)V"⟩, 11), (⟨"ExploreShares$Search", "takeMove", "(I)V"⟩, 11), (⟨"ExploreShares$Search", "handOver", "(II)Z"⟩, 11), (⟨"ExploreShares$Ways", "markWhatLeadsTo", "(LExploreShares$Net;LExploreShares$Levels;I)V"⟩, 1), (⟨"ExploreShares$Ways", "lowestBehind", "(LExploreShares$Net;LExploreShares$Levels;I)I"⟩, 1), (⟨"ExploreSharesModel", "forget", "()V"⟩, 36), (⟨"ExploreSharesModel", "throwing", "(ZZZ)Z"⟩, 36), (⟨"ExploreSharesModel", "toldAt", "(II)I"⟩, 36), (⟨"ExploreSharesModel", "goThrough", "()V"⟩, 36), (⟨"ExploreSharesModel", "beginLevel", "()V"⟩, 36)]
theorem lw_r1 : ∀ q ∈ lw_privs_1, lw_okq q := List.forall_mem_cons.mpr ⟨lw_p0, List.forall_mem_cons.mpr ⟨lw_p1, List.forall_mem_cons.mpr ⟨lw_p2, List.forall_mem_cons.mpr ⟨lw_p3, List.forall_mem_cons.mpr ⟨lw_p4, List.forall_mem_cons.mpr ⟨lw_p5, List.forall_mem_cons.mpr ⟨lw_p6, List.forall_mem_cons.mpr ⟨lw_p7, List.forall_mem_cons.mpr ⟨lw_p8, List.forall_mem_cons.mpr ⟨lw_p9, List.forall_mem_cons.mpr ⟨lw_p10, List.forall_mem_cons.mpr ⟨lw_p11, List.forall_mem_cons.mpr ⟨lw_p12, List.forall_mem_cons.mpr ⟨lw_p13, List.forall_mem_cons.mpr ⟨lw_p14, List.forall_mem_cons.mpr ⟨lw_p15, fun _ h => absurd h List.not_mem_nil⟩⟩⟩⟩⟩⟩⟩⟩⟩⟩⟩⟩⟩⟩⟩⟩
theorem lw_p16 : lw_okq (⟨"ExploreSharesModel", "nextState", "(II)I"⟩, 36) := ⟨⟨by decide +kernel, by decide +kernel⟩, List.mem_of_getElem? (i := 714) (by decide +kernel), List.mem_of_getElem? (i := 873) (by decide +kernel), List.mem_of_getElem? (i := 874) (by decide +kernel)⟩
theorem lw_p17 : lw_okq (⟨"ExploreSharesModel", "ownerOf", "(I)I"⟩, 36) := ⟨⟨by decide +kernel, by decide +kernel⟩, List.mem_of_getElem? (i := 714) (by decide +kernel), List.mem_of_getElem? (i := 877) (by decide +kernel), List.mem_of_getElem? (i := 878) (by decide +kernel)⟩
theorem lw_p18 : lw_okq (⟨"ExploreSharesModel", "pick", "()I"⟩, 36) := ⟨⟨by decide +kernel, by decide +kernel⟩, List.mem_of_getElem? (i := 714) (by decide +kernel), List.mem_of_getElem? (i := 886) (by decide +kernel), List.mem_of_getElem? (i := 887) (by decide +kernel)⟩
theorem lw_p19 : lw_okq (⟨"ExploreSharesModel", "isDone", "(I)Z"⟩, 36) := ⟨⟨by decide +kernel, by decide +kernel⟩, List.mem_of_getElem? (i := 714) (by decide +kernel), List.mem_of_getElem? (i := 890) (by decide +kernel), List.mem_of_getElem? (i := 891) (by decide +kernel)⟩
theorem lw_p20 : lw_okq (⟨"ExploreSharesModel", "fails", "(I)Z"⟩, 36) := ⟨⟨by decide +kernel, by decide +kernel⟩, List.mem_of_getElem? (i := 714) (by decide +kernel), List.mem_of_getElem? (i := 894) (by decide +kernel), List.mem_of_getElem? (i := 895) (by decide +kernel)⟩
theorem lw_p21 : lw_okq (⟨"ExploreSharesModel", "live", "()I"⟩, 36) := ⟨⟨by decide +kernel, by decide +kernel⟩, List.mem_of_getElem? (i := 714) (by decide +kernel), List.mem_of_getElem? (i := 898) (by decide +kernel), List.mem_of_getElem? (i := 899) (by decide +kernel)⟩
theorem lw_p22 : lw_okq (⟨"ExploreSharesModel", "turn", "(I)V"⟩, 36) := ⟨⟨by decide +kernel, by decide +kernel⟩, List.mem_of_getElem? (i := 714) (by decide +kernel), List.mem_of_getElem? (i := 902) (by decide +kernel), List.mem_of_getElem? (i := 903) (by decide +kernel)⟩
theorem lw_p23 : lw_okq (⟨"ExploreSharesModel", "take", "(I)V"⟩, 36) := ⟨⟨by decide +kernel, by decide +kernel⟩, List.mem_of_getElem? (i := 714) (by decide +kernel), List.mem_of_getElem? (i := 906) (by decide +kernel), List.mem_of_getElem? (i := 907) (by decide +kernel)⟩
theorem lw_p24 : lw_okq (⟨"ExploreSharesModel", "meet", "(I)V"⟩, 36) := ⟨⟨by decide +kernel, by decide +kernel⟩, List.mem_of_getElem? (i := 714) (by decide +kernel), List.mem_of_getElem? (i := 910) (by decide +kernel), List.mem_of_getElem? (i := 911) (by decide +kernel)⟩
theorem lw_p25 : lw_okq (⟨"ExploreSharesModel", "target", "(II)I"⟩, 36) := ⟨⟨by decide +kernel, by decide +kernel⟩, List.mem_of_getElem? (i := 714) (by decide +kernel), List.mem_of_getElem? (i := 914) (by decide +kernel), List.mem_of_getElem? (i := 915) (by decide +kernel)⟩
theorem lw_p26 : lw_okq (⟨"ExploreSharesModel", "findWays", "(I)V"⟩, 36) := ⟨⟨by decide +kernel, by decide +kernel⟩, List.mem_of_getElem? (i := 714) (by decide +kernel), List.mem_of_getElem? (i := 934) (by decide +kernel), List.mem_of_getElem? (i := 935) (by decide +kernel)⟩
theorem lw_p27 : lw_okq (⟨"ExploreSharesModel", "isMove", "(II)Z"⟩, 36) := ⟨⟨by decide +kernel, by decide +kernel⟩, List.mem_of_getElem? (i := 714) (by decide +kernel), List.mem_of_getElem? (i := 938) (by decide +kernel), List.mem_of_getElem? (i := 939) (by decide +kernel)⟩
theorem lw_p28 : lw_okq (⟨"ExploreSharesModel", "owned", "(I)I"⟩, 36) := ⟨⟨by decide +kernel, by decide +kernel⟩, List.mem_of_getElem? (i := 714) (by decide +kernel), List.mem_of_getElem? (i := 946) (by decide +kernel), List.mem_of_getElem? (i := 947) (by decide +kernel)⟩
theorem lw_p29 : lw_okq (⟨"ExploreSharesModel", "cameAll", "()I"⟩, 36) := ⟨⟨by decide +kernel, by decide +kernel⟩, List.mem_of_getElem? (i := 714) (by decide +kernel), List.mem_of_getElem? (i := 962) (by decide +kernel), List.mem_of_getElem? (i := 963) (by decide +kernel)⟩
def lw_privs_2 : List (MethodName × Nat) := [(⟨"ExploreSharesModel", "nextState", "(II)I"⟩, 36), (⟨"ExploreSharesModel", "ownerOf", "(I)I"⟩, 36), (⟨"ExploreSharesModel", "pick", "()I"⟩, 36), (⟨"ExploreSharesModel", "isDone", "(I)Z"⟩, 36), (⟨"ExploreSharesModel", "fails", "(I)Z"⟩, 36), (⟨"ExploreSharesModel", "live", "()I"⟩, 36), (⟨"ExploreSharesModel", "turn", "(I)V"⟩, 36), (⟨"ExploreSharesModel", "take", "(I)V"⟩, 36), (⟨"ExploreSharesModel", "meet", "(I)V"⟩, 36), (⟨"ExploreSharesModel", "target", "(II)I"⟩, 36), (⟨"ExploreSharesModel", "findWays", "(I)V"⟩, 36), (⟨"ExploreSharesModel", "isMove", "(II)Z"⟩, 36), (⟨"ExploreSharesModel", "owned", "(I)I"⟩, 36), (⟨"ExploreSharesModel", "cameAll", "()I"⟩, 36)]
theorem lw_r2 : ∀ q ∈ lw_privs_2, lw_okq q := List.forall_mem_cons.mpr ⟨lw_p16, List.forall_mem_cons.mpr ⟨lw_p17, List.forall_mem_cons.mpr ⟨lw_p18, List.forall_mem_cons.mpr ⟨lw_p19, List.forall_mem_cons.mpr ⟨lw_p20, List.forall_mem_cons.mpr ⟨lw_p21, List.forall_mem_cons.mpr ⟨lw_p22, List.forall_mem_cons.mpr ⟨lw_p23, List.forall_mem_cons.mpr ⟨lw_p24, List.forall_mem_cons.mpr ⟨lw_p25, List.forall_mem_cons.mpr ⟨lw_p26, List.forall_mem_cons.mpr ⟨lw_p27, List.forall_mem_cons.mpr ⟨lw_p28, List.forall_mem_cons.mpr ⟨lw_p29, fun _ h => absurd h List.not_mem_nil⟩⟩⟩⟩⟩⟩⟩⟩⟩⟩⟩⟩⟩⟩
def lw_privs : List (MethodName × Nat) := lw_privs_1 ++ (lw_privs_2)
def lw_tbl : List Cond := k2_sels lw_privs ++ tables_1
theorem lw_privs_ok : ∀ q ∈ lw_privs, lw_okq q := by
  show ∀ q ∈ lw_privs_1 ++ (lw_privs_2), lw_okq q
  exact List.forall_mem_append.mpr ⟨lw_r1, lw_r2⟩
end
section
def R_X : String := "ExploreShares"
def T_X : u_T := fun k => match k with
  | 0 => ("ExploreShares", "search", "LExploreShares$Search;", true)
  | 1 => ("ExploreShares", "net", "LExploreShares$Net;", true)
  | 2 => ("ExploreShares", "plan", "LExploreShares$FailPlan;", true)
  | _ => ("ExploreShares", "crew", "LExploreShares$Crew;", true)
def ty_X : Nat → FieldType := fun k => match k with
  | 0 => (.object "ExploreShares$Search")
  | 1 => (.object "ExploreShares$Net")
  | 2 => (.object "ExploreShares$FailPlan")
  | _ => (.object "ExploreShares$Crew")
theorem nm_X : ∀ a, a < 4 → ∀ b, b < 4 → a ≠ b → (T_X a).2.1 ≠ (T_X b).2.1 := by decide +kernel
theorem ty_X_ok : ∀ k, k < 4 → parseFieldDescriptor (T_X k).2.2.1 = some (ty_X k) := by decide +kernel
def R_NET : String := "ExploreShares$Net"
def T_NET : u_T := fun k => match k with
  | 0 => ("ExploreShares$Net", "states", "I", false)
  | 1 => ("ExploreShares$Net", "moves", "I", false)
  | 2 => ("ExploreShares$Net", "begin", "[I", true)
  | _ => ("ExploreShares$Net", "target", "[I", true)
def ty_NET : Nat → FieldType := fun k => match k with
  | 0 => .int
  | 1 => .int
  | 2 => (.array .int)
  | _ => (.array .int)
theorem nm_NET : ∀ a, a < 4 → ∀ b, b < 4 → a ≠ b → (T_NET a).2.1 ≠ (T_NET b).2.1 := by decide +kernel
theorem ty_NET_ok : ∀ k, k < 4 → parseFieldDescriptor (T_NET k).2.2.1 = some (ty_NET k) := by decide +kernel
def R_FP : String := "ExploreShares$FailPlan"
def T_FP : u_T := fun k => match k with
  | 0 => ("ExploreShares$FailPlan", "worker", "[I", true)
  | 1 => ("ExploreShares$FailPlan", "level", "[I", true)
  | 2 => ("ExploreShares$FailPlan", "turn", "[I", true)
  | _ => ("ExploreShares$FailPlan", "told", "I", false)
def ty_FP : Nat → FieldType := fun k => match k with
  | 0 => (.array .int)
  | 1 => (.array .int)
  | 2 => (.array .int)
  | _ => .int
theorem nm_FP : ∀ a, a < 4 → ∀ b, b < 4 → a ≠ b → (T_FP a).2.1 ≠ (T_FP b).2.1 := by decide +kernel
theorem ty_FP_ok : ∀ k, k < 4 → parseFieldDescriptor (T_FP k).2.2.1 = some (ty_FP k) := by decide +kernel
def R_FL : String := "ExploreShares$FailLog"
def T_FL : u_T := fun k => match k with
  | 0 => ("ExploreShares$FailLog", "worker", "[I", true)
  | 1 => ("ExploreShares$FailLog", "level", "[I", true)
  | 2 => ("ExploreShares$FailLog", "turnsBefore", "[I", true)
  | _ => ("ExploreShares$FailLog", "happened", "I", false)
def ty_FL : Nat → FieldType := fun k => match k with
  | 0 => (.array .int)
  | 1 => (.array .int)
  | 2 => (.array .int)
  | _ => .int
theorem nm_FL : ∀ a, a < 4 → ∀ b, b < 4 → a ≠ b → (T_FL a).2.1 ≠ (T_FL b).2.1 := by decide +kernel
theorem ty_FL_ok : ∀ k, k < 4 → parseFieldDescriptor (T_FL k).2.2.1 = some (ty_FL k) := by decide +kernel
def R_CR : String := "ExploreShares$Crew"
def T_CR : u_T := fun k => match k with
  | 0 => ("ExploreShares$Crew", "workers", "I", true)
  | 1 => ("ExploreShares$Crew", "firstOwner", "[I", true)
  | 2 => ("ExploreShares$Crew", "live", "[Z", true)
  | 3 => ("ExploreShares$Crew", "turns", "[I", true)
  | 4 => ("ExploreShares$Crew", "taken", "[I", true)
  | 5 => ("ExploreShares$Crew", "stalls", "[I", true)
  | 6 => ("ExploreShares$Crew", "liveWorkers", "I", false)
  | _ => ("ExploreShares$Crew", "allTurns", "I", false)
def ty_CR : Nat → FieldType := fun k => match k with
  | 0 => .int
  | 1 => (.array .int)
  | 2 => (.array .boolean)
  | 3 => (.array .int)
  | 4 => (.array .int)
  | 5 => (.array .int)
  | 6 => .int
  | _ => .int
theorem nm_CR : ∀ a, a < 8 → ∀ b, b < 8 → a ≠ b → (T_CR a).2.1 ≠ (T_CR b).2.1 := by decide +kernel
theorem ty_CR_ok : ∀ k, k < 8 → parseFieldDescriptor (T_CR k).2.2.1 = some (ty_CR k) := by decide +kernel
def R_QU : String := "ExploreShares$Queues"
def T_QU : u_T := fun k => match k with
  | 0 => ("ExploreShares$Queues", "room", "I", true)
  | 1 => ("ExploreShares$Queues", "ring", "[[I", true)
  | 2 => ("ExploreShares$Queues", "first", "[I", true)
  | 3 => ("ExploreShares$Queues", "held", "[I", true)
  | _ => ("ExploreShares$Queues", "most", "I", false)
def ty_QU : Nat → FieldType := fun k => match k with
  | 0 => .int
  | 1 => (.array (.array .int))
  | 2 => (.array .int)
  | 3 => (.array .int)
  | _ => .int
theorem nm_QU : ∀ a, a < 5 → ∀ b, b < 5 → a ≠ b → (T_QU a).2.1 ≠ (T_QU b).2.1 := by decide +kernel
theorem ty_QU_ok : ∀ k, k < 5 → parseFieldDescriptor (T_QU k).2.2.1 = some (ty_QU k) := by decide +kernel
def R_LI : String := "ExploreShares$Lists"
def T_LI : u_T := fun k => match k with
  | 0 => ("ExploreShares$Lists", "list", "[[I", true)
  | 1 => ("ExploreShares$Lists", "listed", "[I", true)
  | 2 => ("ExploreShares$Lists", "at", "[I", true)
  | 3 => ("ExploreShares$Lists", "movesDone", "[I", true)
  | 4 => ("ExploreShares$Lists", "lookedAt", "[Z", true)
  | _ => ("ExploreShares$Lists", "turns", "[I", true)
def ty_LI : Nat → FieldType := fun k => match k with
  | 0 => (.array (.array .int))
  | 1 => (.array .int)
  | 2 => (.array .int)
  | 3 => (.array .int)
  | 4 => (.array .boolean)
  | _ => (.array .int)
theorem nm_LI : ∀ a, a < 6 → ∀ b, b < 6 → a ≠ b → (T_LI a).2.1 ≠ (T_LI b).2.1 := by decide +kernel
theorem ty_LI_ok : ∀ k, k < 6 → parseFieldDescriptor (T_LI k).2.2.1 = some (ty_LI k) := by decide +kernel
def R_LE : String := "ExploreShares$Levels"
def T_LE : u_T := fun k => match k with
  | 0 => ("ExploreShares$Levels", "levelOf", "[I", true)
  | 1 => ("ExploreShares$Levels", "order", "[I", true)
  | 2 => ("ExploreShares$Levels", "begin", "[I", true)
  | 3 => ("ExploreShares$Levels", "levels", "I", false)
  | _ => ("ExploreShares$Levels", "found", "[Z", true)
def ty_LE : Nat → FieldType := fun k => match k with
  | 0 => (.array .int)
  | 1 => (.array .int)
  | 2 => (.array .int)
  | 3 => .int
  | _ => (.array .boolean)
theorem nm_LE : ∀ a, a < 5 → ∀ b, b < 5 → a ≠ b → (T_LE a).2.1 ≠ (T_LE b).2.1 := by decide +kernel
theorem ty_LE_ok : ∀ k, k < 5 → parseFieldDescriptor (T_LE k).2.2.1 = some (ty_LE k) := by decide +kernel
def R_WA : String := "ExploreShares$Ways"
def T_WA : u_T := fun k => match k with
  | _ => ("ExploreShares$Ways", "leads", "[Z", true)
def ty_WA : Nat → FieldType := fun k => match k with
  | _ => (.array .boolean)
theorem nm_WA : ∀ a, a < 1 → ∀ b, b < 1 → a ≠ b → (T_WA a).2.1 ≠ (T_WA b).2.1 := by decide +kernel
theorem ty_WA_ok : ∀ k, k < 1 → parseFieldDescriptor (T_WA k).2.2.1 = some (ty_WA k) := by decide +kernel
def R_SE : String := "ExploreShares$Search"
def T_SE : u_T := fun k => match k with
  | 0 => ("ExploreShares$Search", "net", "LExploreShares$Net;", true)
  | 1 => ("ExploreShares$Search", "plan", "LExploreShares$FailPlan;", true)
  | 2 => ("ExploreShares$Search", "crew", "LExploreShares$Crew;", true)
  | 3 => ("ExploreShares$Search", "queues", "LExploreShares$Queues;", true)
  | 4 => ("ExploreShares$Search", "lists", "LExploreShares$Lists;", true)
  | 5 => ("ExploreShares$Search", "levels", "LExploreShares$Levels;", true)
  | 6 => ("ExploreShares$Search", "log", "LExploreShares$FailLog;", true)
  | 7 => ("ExploreShares$Search", "ways", "LExploreShares$Ways;", true)
  | 8 => ("ExploreShares$Search", "looks", "[I", true)
  | 9 => ("ExploreShares$Search", "busy", "[I", true)
  | _ => ("ExploreShares$Search", "x", "I", false)
def ty_SE : Nat → FieldType := fun k => match k with
  | 0 => (.object "ExploreShares$Net")
  | 1 => (.object "ExploreShares$FailPlan")
  | 2 => (.object "ExploreShares$Crew")
  | 3 => (.object "ExploreShares$Queues")
  | 4 => (.object "ExploreShares$Lists")
  | 5 => (.object "ExploreShares$Levels")
  | 6 => (.object "ExploreShares$FailLog")
  | 7 => (.object "ExploreShares$Ways")
  | 8 => (.array .int)
  | 9 => (.array .int)
  | _ => .int
theorem nm_SE : ∀ a, a < 11 → ∀ b, b < 11 → a ≠ b → (T_SE a).2.1 ≠ (T_SE b).2.1 := by decide +kernel
theorem ty_SE_ok : ∀ k, k < 11 → parseFieldDescriptor (T_SE k).2.2.1 = some (ty_SE k) := by decide +kernel
def R_MO : String := "ExploreSharesModel"
def T_MO : u_T := fun k => match k with
  | 0 => ("ExploreSharesModel", "thrown", "I", false)
  | 1 => ("ExploreSharesModel", "workers", "I", true)
  | 2 => ("ExploreSharesModel", "room", "I", true)
  | 3 => ("ExploreSharesModel", "states", "I", false)
  | 4 => ("ExploreSharesModel", "moves", "I", false)
  | 5 => ("ExploreSharesModel", "told", "I", false)
  | 6 => ("ExploreSharesModel", "from", "[I", true)
  | 7 => ("ExploreSharesModel", "to", "[I", true)
  | 8 => ("ExploreSharesModel", "failWorker", "[I", true)
  | 9 => ("ExploreSharesModel", "failLevel", "[I", true)
  | 10 => ("ExploreSharesModel", "failTurn", "[I", true)
  | 11 => ("ExploreSharesModel", "wasRun", "Z", false)
  | 12 => ("ExploreSharesModel", "x", "I", false)
  | 13 => ("ExploreSharesModel", "level", "I", false)
  | 14 => ("ExploreSharesModel", "levels", "I", false)
  | 15 => ("ExploreSharesModel", "turns", "I", false)
  | 16 => ("ExploreSharesModel", "most", "I", false)
  | 17 => ("ExploreSharesModel", "failings", "I", false)
  | 18 => ("ExploreSharesModel", "levelOf", "[I", true)
  | 19 => ("ExploreSharesModel", "times", "[I", true)
  | 20 => ("ExploreSharesModel", "sizes", "[I", true)
  | 21 => ("ExploreSharesModel", "isNext", "[Z", true)
  | 22 => ("ExploreSharesModel", "isLive", "[Z", true)
  | 23 => ("ExploreSharesModel", "isLooked", "[Z", true)
  | 24 => ("ExploreSharesModel", "turnsOf", "[I", true)
  | 25 => ("ExploreSharesModel", "takenOf", "[I", true)
  | 26 => ("ExploreSharesModel", "stallsOf", "[I", true)
  | 27 => ("ExploreSharesModel", "here", "[I", true)
  | 28 => ("ExploreSharesModel", "stands", "[I", true)
  | 29 => ("ExploreSharesModel", "nextMove", "[I", true)
  | 30 => ("ExploreSharesModel", "queued", "[I", true)
  | 31 => ("ExploreSharesModel", "queue", "[I", true)
  | 32 => ("ExploreSharesModel", "failedWorker", "[I", true)
  | 33 => ("ExploreSharesModel", "failedLevel", "[I", true)
  | 34 => ("ExploreSharesModel", "failedTurns", "[I", true)
  | _ => ("ExploreSharesModel", "can", "[Z", true)
def ty_MO : Nat → FieldType := fun k => match k with
  | 0 => .int
  | 1 => .int
  | 2 => .int
  | 3 => .int
  | 4 => .int
  | 5 => .int
  | 6 => (.array .int)
  | 7 => (.array .int)
  | 8 => (.array .int)
  | 9 => (.array .int)
  | 10 => (.array .int)
  | 11 => .boolean
  | 12 => .int
  | 13 => .int
  | 14 => .int
  | 15 => .int
  | 16 => .int
  | 17 => .int
  | 18 => (.array .int)
  | 19 => (.array .int)
  | 20 => (.array .int)
  | 21 => (.array .boolean)
  | 22 => (.array .boolean)
  | 23 => (.array .boolean)
  | 24 => (.array .int)
  | 25 => (.array .int)
  | 26 => (.array .int)
  | 27 => (.array .int)
  | 28 => (.array .int)
  | 29 => (.array .int)
  | 30 => (.array .int)
  | 31 => (.array .int)
  | 32 => (.array .int)
  | 33 => (.array .int)
  | 34 => (.array .int)
  | _ => (.array .boolean)
theorem nm_MO : ∀ a, a < 36 → ∀ b, b < 36 → a ≠ b → (T_MO a).2.1 ≠ (T_MO b).2.1 := by decide +kernel
theorem ty_MO_ok : ∀ k, k < 36 → parseFieldDescriptor (T_MO k).2.2.1 = some (ty_MO k) := by decide +kernel
abbrev vwCl : List vw_C := [(R_X, T_X, 4), (R_NET, T_NET, 4), (R_FP, T_FP, 4), (R_FL, T_FL, 4), (R_CR, T_CR, 8), (R_QU, T_QU, 5), (R_LI, T_LI, 6), (R_LE, T_LE, 5), (R_WA, T_WA, 1), (R_SE, T_SE, 11), (R_MO, T_MO, 36)]
abbrev xs_tys (cI cB cL : ClassId) : List (ClassId × FieldType) := [(cI, .int), (cB, .boolean), (cL, .long)]
end
section
/-- the tables' words that every state of the run keeps -/
def xU : List Cond := lw_tbl.filter goodWord
theorem xU_of {w : Cond} (i : Nat) (h : lw_tbl[i]? = some w) (hg : goodWord w = true) : w ∈ xU := List.mem_filter.mpr ⟨List.mem_of_getElem? h, hg⟩
theorem xU_all (ws : List Cond) (ps : List Nat) (hp : ws = ps.filterMap (fun i => lw_tbl[i]?)) (h : ws.all goodWord = true) : ∀ w ∈ ws, w ∈ xU := by
  intro w hw
  have h1 := List.all_eq_true.mp h w hw
  rw [hp] at hw
  obtain ⟨i, -, hi⟩ := List.mem_filterMap.mp hw
  exact xU_of i hi h1
theorem xU_good {w : Cond} (h : w ∈ xU) : (w.onTables && w.keeps) = true ∨ ∃ ty, w = .arrayClass ty := good_of_word (List.mem_filter.mp h).2
theorem xs_good {y : MethodName} {b : ByteArray} {n : Nat} {r : Option FieldType} (hc : Cond.code y b n r ∈ xU) : GoodIn xU (Cond.code y b n r :: xU) := fun w h => by
  rcases List.mem_cons.mp h with e | h
  · rw [e]; exact ⟨hc, xU_good hc⟩
  · exact ⟨h, xU_good h⟩
theorem xs_goodV {own C : String} {idx : Nat} {y : MethodName} {b : ByteArray} {n : Nat} {r : Option FieldType} (h1 : Cond.methodLink own idx y ∈ xU) (h2 : Cond.instanceMethod y ∈ xU) (h3 : Cond.selects C y y ∈ xU) (h4 : Cond.initialized C ∈ xU) (hc : Cond.code y b n r ∈ xU) : GoodIn xU (wsV own idx C y (Cond.code y b n r :: xU)) := fun w h => by
  unfold wsV at h
  rcases List.mem_append.mp h with h | h
  · simp only [List.mem_cons, List.not_mem_nil, or_false] at h
    rcases h with e | e | e | e <;> rw [e]
    · exact ⟨h1, xU_good h1⟩
    · exact ⟨h2, xU_good h2⟩
    · exact ⟨h3, xU_good h3⟩
    · exact ⟨h4, xU_good h4⟩
  · exact xs_good hc w h
theorem xs_goodS {own : String} {idx : Nat} {y : MethodName} {b : ByteArray} {n : Nat} {r : Option FieldType} (h1 : Cond.methodLink own idx y ∈ xU) (h2 : Cond.static y ∈ xU) (h4 : Cond.initialized y.cls ∈ xU) (hc : Cond.code y b n r ∈ xU) : GoodIn xU (va_wsS own idx y (Cond.code y b n r :: xU)) := fun w h => by
  unfold va_wsS at h
  rcases List.mem_append.mp h with h | h
  · simp only [List.mem_cons, List.not_mem_nil, or_false] at h
    rcases h with e | e | e <;> rw [e]
    · exact ⟨h1, xU_good h1⟩
    · exact ⟨h2, xU_good h2⟩
    · exact ⟨h4, xU_good h4⟩
  · exact xs_good hc w h
/-- words of nest mates, of casts, of declarations: kept too, but not by the same rule -/
def xs_nk : Cond → Bool
  | .fieldLinkNest _ _ _ _ _ _ => true
  | .methodLinkNest _ _ _ _ => true
  | .declares _ => true
  | .castable _ _ => true
  | .arrayOver (.array _) => true
  | _ => false
def xs_NW : List Cond := lw_tbl.filter xs_nk
theorem xs_NW_of {w : Cond} (i : Nat) (h : lw_tbl[i]? = some w) (hg : xs_nk w = true) : w ∈ xs_NW := List.mem_filter.mpr ⟨List.mem_of_getElem? h, hg⟩
def xs_N (U : State) : Prop := ∀ w ∈ xs_NW, va_Nw w U
theorem xs_nk_warm {w : Cond} (hk : xs_nk w = true) {s U : State} (hW : s.WarmedH U.vm) (h : va_Nw w s) : va_Nw w U := by
  cases w with
  | fieldLinkNest => exact va_Nw.warmF hW h
  | methodLinkNest => exact va_Nw.warmM hW h
  | declares => exact va_Nw.warmD hW h
  | castable => exact va_Nw.warmC hW h
  | arrayOver t =>
    cases t with
    | array t => exact Jvm.Stand.arrayOver_alikeB (args' := #[]) hW.alike h
    | _ => exact Bool.noConfusion hk
  | _ => exact Bool.noConfusion hk
theorem xs_N.warm {s U : State} (hW : s.WarmedH U.vm) (h : xs_N s) : xs_N U := fun w hw => xs_nk_warm (List.mem_filter.mp hw).2 hW (h w hw)
def xs_strs : List (Nat × String) := [(47, "there are 200 states"), (65, "no such state"), (71, "there are 600 moves"), (81, "no such worker"), (84, "no such level or turn"), (94, "twenty failings are told"), (102, "no states"), (129, "no such state on a way"), (157, "no such thing of a worker"), (168, "no such failing"), (179, "no such thing of a failing"), (183, "no such level")]
theorem iw_X : ∀ w ∈ u_ws R_X T_X 4, w ∈ xU := xU_all _ [341, 343, 345, 347] (by decide +kernel) (by decide +kernel)
theorem iw_NET : ∀ w ∈ u_ws R_NET T_NET 4, w ∈ xU := xU_all _ [85, 87, 89, 91] (by decide +kernel) (by decide +kernel)
theorem iw_FP : ∀ w ∈ u_ws R_FP T_FP 4, w ∈ xU := xU_all _ [106, 108, 110, 112] (by decide +kernel) (by decide +kernel)
theorem iw_FL : ∀ w ∈ u_ws R_FL T_FL 4, w ∈ xU := xU_all _ [195, 197, 199, 201] (by decide +kernel) (by decide +kernel)
theorem iw_CR : ∀ w ∈ u_ws R_CR T_CR 8, w ∈ xU := xU_all _ [252, 254, 256, 258, 260, 262, 264, 266] (by decide +kernel) (by decide +kernel)
theorem iw_QU : ∀ w ∈ u_ws R_QU T_QU 5, w ∈ xU := xU_all _ [284, 286, 288, 290, 292] (by decide +kernel) (by decide +kernel)
theorem iw_LI : ∀ w ∈ u_ws R_LI T_LI 6, w ∈ xU := xU_all _ [132, 134, 136, 138, 140, 142] (by decide +kernel) (by decide +kernel)
theorem iw_LE : ∀ w ∈ u_ws R_LE T_LE 5, w ∈ xU := xU_all _ [169, 171, 173, 175, 177] (by decide +kernel) (by decide +kernel)
theorem iw_WA : ∀ w ∈ u_ws R_WA T_WA 1, w ∈ xU := xU_all _ [211] (by decide +kernel) (by decide +kernel)
theorem iw_SE : ∀ w ∈ u_ws R_SE T_SE 11, w ∈ xU := xU_all _ [314, 316, 318, 320, 322, 324, 326, 328, 330, 332, 334] (by decide +kernel) (by decide +kernel)
theorem iw_MO : ∀ w ∈ u_ws R_MO T_MO 36, w ∈ xU := xU_all _ [789, 791, 793, 795, 797, 799, 801, 803, 805, 807, 809, 811, 813, 815, 817, 819, 821, 823, 825, 827, 829, 831, 833, 835, 837, 839, 841, 843, 845, 847, 849, 851, 853, 855, 857, 859] (by decide +kernel) (by decide +kernel)
theorem uw_45 : (Cond.fieldLink "ExploreShares$Net" (18 : Nat) "ExploreShares$Net" "states" "I") ∈ xU := xU_of 75 (by decide +kernel) (by decide +kernel)
theorem uw_196 : (Cond.constant "ExploreShares" (209 : Nat) (1103515245 : Int32)) ∈ xU := xU_of 226 (by decide +kernel) (by decide +kernel)
theorem uw_197 : (Cond.constant "ExploreShares" (210 : Nat) (2147483647 : Int32)) ∈ xU := xU_of 227 (by decide +kernel) (by decide +kernel)
theorem uw_201 : (Cond.constant "ExploreShares" (211 : Nat) (65536 : Int32)) ∈ xU := xU_of 231 (by decide +kernel) (by decide +kernel)
end
section
section XSB
/-! a method over cells: where it starts, where it ends, what it makes -/
def xPre (D : va_G) (cl : List vw_C) (tys : List (ClassId × FieldType)) (av : List Value) (w : va_W) (sz : Nat) : Array Value → State → Prop := va_Pc av (fun U => U.heap.size = sz ∧ va_P D cl w U.heap ∧ va_K D cl tys U ∧ va_D (fun _ => True) w ∧ xs_N U)
def xPost {σ : Type} (D : va_G) (cl : List vw_C) (w : va_W) (sz : Nat) (f : σ → Prop) (r : σ → Option Value) (w2 : σ → va_W) : State → Outcome → State → Prop := fun st oc t => ∃ u : σ, oc = .returned (r u) ∧ f u ∧ va_P D cl (w2 u) t.heap ∧ va_D (va_A w sz) (w2 u) ∧ va_F (va_A w sz) st t
/-- from the cells w: it answers r u and leaves the cells w2 u, for some u with f u; nothing else that was there changes; it makes at most rm.cells cells of rm.slots slots -/
def xG {σ : Type} (l : Launch) (y : MethodName) (wd : List Cond) (rm : Room) (D : va_G) (cl : List vw_C) (tys : List (ClassId × FieldType)) (av : List Value) (w : va_W) (f : σ → Prop) (r : σ → Option Value) (w2 : σ → va_W) : Prop :=
  ∀ sz : Nat, Met l y wd rm (xPre D cl tys av w sz) (fun _ => xPost D cl w sz f r w2) rm.cells rm.slots (va_A w sz)
theorem xs_blind {av : List Value} {sz : Nat} {D : va_G} {cl : List vw_C} {tys : List (ClassId × FieldType)} {w : va_W} : FrameBlind (xPre D cl tys av w sz) :=
  fun a U g mk q => by obtain ⟨q0, q1, qP, qK, qD, qN⟩ := q; exact ⟨q0, q1, qP, va_K.moved (u := U) (U := U.calling g mk a) (Vm.Alike.refl U.vm) qK, qD, xs_N.warm (s := U) (U := U.calling g mk a) (State.WarmedH.refl U) qN⟩
theorem xs_P_sub {D : va_G} {cl : List vw_C} {ws w : va_W} {H : Heap} (h : va_P D cl ws H) (is : List Nat) (hs : is.map (fun i => ws[i]?) = w.map some) : va_P D cl w H := by
  intro k q hq
  have h1 : (is.map (fun i => ws[i]?))[k]? = some (some q) := by rw [hs, List.getElem?_map, hq]; rfl
  rw [List.getElem?_map] at h1
  cases hi : is[k]? with
  | none => rw [hi] at h1; cases h1
  | some i => rw [hi] at h1; exact h i q (Option.some.inj h1)
theorem xs_pre {D : va_G} {cl : List vw_C} {tys : List (ClassId × FieldType)} {s : State} {ws w : va_W} {A : Nat → Prop} {H : Heap} (av : List Value) (hN : xs_N s) (hK : va_K D cl tys s) (hP : va_P D cl ws H) (hD : va_D A ws) (is : List Nat) (hn : va_nd is = true) (hs : is.map (fun i => ws[i]?) = w.map some) :
    ∀ U : State, U.heap = H → s.WarmedH U.vm → xPre D cl tys av w H.size av.toArray U := fun U hU hW =>
  ⟨rfl, by rw [hU], by rw [hU]; exact xs_P_sub hP is hs, va_K.moved hW.alike hK, (hD.sub is hn hs).weaken (fun _ _ _ _ => trivial), xs_N.warm hW hN⟩
section XSR
variable {p : Program} {l : Launch} {e : Env} {R : Room} {s : State} {m : MethodId} {args : Array Value} {below : List Frame} {meth : Method} {c : Code} {H : Heap} {locs : List Loc} {cells slots : Nat} {Q : State → Prop}
variable {pc : Nat} {ls : Array Slot} {rest st0 : List Value} {A : Nat → Prop} {H0 : Heap} {D : va_G} {cl : List vw_C} {tys : List (ClassId × FieldType)}
theorem xs_keep {w : va_W} {st₀ t T' : State} {L : List Loc} (h0 : st₀.heap = H) (e1 : T'.heap = t.heap) (hS : va_S A H0 H locs) (hF : ∀ q, va_A w H.size q → A q) (hL : ∀ q ∈ L, va_A w H.size q.base) (hf : va_F (va_A w H.size) st₀ t) :
    (∀ q : Nat, q < H.size → ¬ va_A w H.size q → T'.heap[q]? = H[q]?) ∧ va_S A H0 T'.heap (locs ++ L) := by
  obtain ⟨hz, hk⟩ := hf
  rw [h0] at hz hk
  rw [← e1] at hz hk
  exact ⟨hk, Nat.le_trans hS.1 hz, fun q h1 h2 => by
    rw [hk q (Nat.lt_of_lt_of_le h1 hS.1) (fun z => h2 (hF q z))]; exact hS.2.1 q h1 h2, fun q hq => by
    rcases List.mem_append.mp hq with h | h
    · exact hS.2.2 q h
    · exact hF _ (hL q h)⟩
/-- behind a call -/
theorem xw_back {σ : Type} {f : σ → Prop} {r : σ → Option Value} {w2 : σ → va_W} {ws w wr : va_W} {mc ms : Nat} (hr : va_Run p l e R s m args below meth c H locs cells slots mc ms (F0 m pc ls st0) rest (xPost D cl w H.size f r w2) (va_A w H.size))
    (isC isR : List Nat) (hC : isC.map (fun i => ws[i]?) = w.map some) (hR : isR.map (fun i => ws[i]?) = wr.map some) (hn : va_nd isR = true) (hdis : ∀ i ∈ isR, i ∉ isC) (hP : va_P D cl ws H) (hD : va_D A ws) (hS : va_S A H0 H locs) (hA : ∀ q, H0.size ≤ q → A q)
    (kk : ∀ (u : σ) (H1 : Heap) (locs1 : List Loc), f u → va_P D cl (wr ++ w2 u) H1 → va_D A (wr ++ w2 u) → va_S A H0 H1 locs1 → W p l e R s m args below meth c H1 locs1 (cells + mc) (slots + ms) Q (F0 m (pc + 3) ls ((r u).toList ++ rest))) : W p l e R s m args below meth c H locs cells slots Q (F0 m pc ls st0) := by
  have hF := va_free (wc := w) hD hS hA isC hC
  intro T hT X
  obtain ⟨v, st₀, t, T', L, h0, X', hL, e1, e2, ⟨u, hv, hq, hp, hd, hf⟩, st⟩ := hr T hT X
  cases hv
  obtain ⟨hk, hS'⟩ := xs_keep h0 e1 hS hF hL hf
  rw [← e1] at hp
  obtain ⟨j1, j2⟩ := va_join hP hD isC isR hC hR hn hdis hk hF hp hd
  obtain ⟨t2, a1, b1⟩ := kk u T'.heap (locs ++ L) hq j1 j2 hS' T' rfl X'
  exact ⟨t2, st t2 a1, b1⟩
variable {y : MethodName} {bytes cc : ByteArray} {maxL nL n index : Nat} {ret : Option FieldType} {wd : List Cond} {rm : Room} {Ts : List Cond} {own C host : String} {b : Nat}
/-- calls of such a method: by its receiver, of a nest mate, static, a constructor -/
theorem xw_callV {σ : Type} {f : σ → Prop} {r : σ → Option Value} {w2 : σ → va_W} {ws w wr : va_W} (As : List Value) (hM : xG l y wd rm D cl tys (.ref b :: As) w f r w2) (S : CallFix p m c cc nL s args Ts own) (cw : CallW R s args own C index y bytes maxL ret wd rm rm.cells rm.slots n)
    (q0 : Nat) {ci : Nat} {q : vw_C} {fs : List Value} (hc : cl[ci]? = some q) (he : ws[q0]? = some (b, .inr (ci, fs))) (hq : q.1 = C) (hn9 : As.length = n) (hsize : ls.size = nL) (hstack : st0 = As.reverse ++ .ref b :: rest) (hW : (rest.map fun v => v.category).sum ≤ 8) (hdg : decode cc pc = .ok (.invokevirtual index, 3)) (hf : cells + rm.cells ≤ R.cells ∧ slots + rm.slots ≤ R.slots)
    (isC isR : List Nat) (hC : isC.map (fun i => ws[i]?) = w.map some) (hR : isR.map (fun i => ws[i]?) = wr.map some) (hnC : va_nd isC = true) (hn : va_nd isR = true) (hdis : ∀ i ∈ isR, i ∉ isC) (hN : xs_N s) (hK : va_K D cl tys s) (hP : va_P D cl ws H) (hD : va_D A ws) (hS : va_S A H0 H locs) (hA : ∀ q, H0.size ≤ q → A q)
    (kk : ∀ (u : σ) (H1 : Heap) (locs1 : List Loc), f u → va_P D cl (wr ++ w2 u) H1 → va_D A (wr ++ w2 u) → va_S A H0 H1 locs1 → W p l e R s m args below meth c H1 locs1 (cells + rm.cells) (slots + rm.slots) Q (F0 m (pc + 3) ls ((r u).toList ++ rest))) : W p l e R s m args below meth c H locs cells slots Q (F0 m pc ls st0) :=
  xw_back (va_runV S (hM H.size) cw ⟨xs_blind, by have h9 := va_recv hK hP hc he; rw [hq] at h9; exact h9, xs_pre (.ref b :: As) hN hK hP hD isC hnC hC⟩ rfl hn9 hsize hstack (lv_room hW) hdg hf) isC isR hC hR hn hdis hP hD hS hA kk
theorem xw_callN {σ : Type} {f : σ → Prop} {r : σ → Option Value} {w2 : σ → va_W} {ws w wr : va_W} (As : List Value) (hM : xG l y wd rm D cl tys (.ref b :: As) w f r w2) (S : CallFix p m c cc nL s args Ts own) (cw : va_CN R s args own index y host bytes maxL ret wd rm rm.cells rm.slots n ∧ (Cond.instanceMethod y).before args s = true ∧ (Cond.selects C y y).before args s = true)
    (q0 : Nat) {ci : Nat} {q : vw_C} {fs : List Value} (hc : cl[ci]? = some q) (he : ws[q0]? = some (b, .inr (ci, fs))) (hq : q.1 = C) (hn9 : As.length = n) (hsize : ls.size = nL) (hstack : st0 = As.reverse ++ .ref b :: rest) (hW : (rest.map fun v => v.category).sum ≤ 8) (hdg : decode cc pc = .ok (.invokevirtual index, 3)) (hf : cells + rm.cells ≤ R.cells ∧ slots + rm.slots ≤ R.slots)
    (isC isR : List Nat) (hC : isC.map (fun i => ws[i]?) = w.map some) (hR : isR.map (fun i => ws[i]?) = wr.map some) (hnC : va_nd isC = true) (hn : va_nd isR = true) (hdis : ∀ i ∈ isR, i ∉ isC) (hN : xs_N s) (hK : va_K D cl tys s) (hP : va_P D cl ws H) (hD : va_D A ws) (hS : va_S A H0 H locs) (hA : ∀ q, H0.size ≤ q → A q)
    (kk : ∀ (u : σ) (H1 : Heap) (locs1 : List Loc), f u → va_P D cl (wr ++ w2 u) H1 → va_D A (wr ++ w2 u) → va_S A H0 H1 locs1 → W p l e R s m args below meth c H1 locs1 (cells + rm.cells) (slots + rm.slots) Q (F0 m (pc + 3) ls ((r u).toList ++ rest))) : W p l e R s m args below meth c H locs cells slots Q (F0 m pc ls st0) :=
  xw_back (va_runVN S (hM H.size) cw ⟨xs_blind, by have h9 := va_recv hK hP hc he; rw [hq] at h9; exact h9, xs_pre (.ref b :: As) hN hK hP hD isC hnC hC⟩ rfl hn9 hsize hstack (lv_room hW) hdg hf) isC isR hC hR hn hdis hP hD hS hA kk
theorem xw_callS {σ : Type} {f : σ → Prop} {r : σ → Option Value} {w2 : σ → va_W} {ws w wr : va_W} (As : List Value) (hM : xG l y wd rm D cl tys As w f r w2) (S : CallFix p m c cc nL s args Ts own) (cw : CallB R s args own index y bytes maxL ret wd rm rm.cells rm.slots n ∧ (Cond.static y).before args s = true)
    (hn9 : As.length = n) (hsize : ls.size = nL) (hstack : st0 = As.reverse ++ rest) (hW : (rest.map fun v => v.category).sum ≤ 8) (hdg : decode cc pc = .ok (.invokestatic index, 3)) (hf : cells + rm.cells ≤ R.cells ∧ slots + rm.slots ≤ R.slots)
    (isC isR : List Nat) (hC : isC.map (fun i => ws[i]?) = w.map some) (hR : isR.map (fun i => ws[i]?) = wr.map some) (hnC : va_nd isC = true) (hn : va_nd isR = true) (hdis : ∀ i ∈ isR, i ∉ isC) (hN : xs_N s) (hK : va_K D cl tys s) (hP : va_P D cl ws H) (hD : va_D A ws) (hS : va_S A H0 H locs) (hA : ∀ q, H0.size ≤ q → A q)
    (kk : ∀ (u : σ) (H1 : Heap) (locs1 : List Loc), f u → va_P D cl (wr ++ w2 u) H1 → va_D A (wr ++ w2 u) → va_S A H0 H1 locs1 → W p l e R s m args below meth c H1 locs1 (cells + rm.cells) (slots + rm.slots) Q (F0 m (pc + 3) ls ((r u).toList ++ rest))) : W p l e R s m args below meth c H locs cells slots Q (F0 m pc ls st0) :=
  xw_back (va_runS S (hM H.size) cw ⟨xs_blind, xs_pre As hN hK hP hD isC hnC hC⟩ rfl hn9 hsize hstack (lv_room hW) hdg hf) isC isR hC hR hn hdis hP hD hS hA kk
theorem xw_callSN {σ : Type} {f : σ → Prop} {r : σ → Option Value} {w2 : σ → va_W} {ws w wr : va_W} (As : List Value) (hM : xG l y wd rm D cl tys As w f r w2) (S : CallFix p m c cc nL s args Ts own) (cw : va_CN R s args own index y host bytes maxL ret wd rm rm.cells rm.slots n ∧ (Cond.static y).before args s = true ∧ True)
    (hn9 : As.length = n) (hsize : ls.size = nL) (hstack : st0 = As.reverse ++ rest) (hW : (rest.map fun v => v.category).sum ≤ 8) (hdg : decode cc pc = .ok (.invokestatic index, 3)) (hf : cells + rm.cells ≤ R.cells ∧ slots + rm.slots ≤ R.slots)
    (isC isR : List Nat) (hC : isC.map (fun i => ws[i]?) = w.map some) (hR : isR.map (fun i => ws[i]?) = wr.map some) (hnC : va_nd isC = true) (hn : va_nd isR = true) (hdis : ∀ i ∈ isR, i ∉ isC) (hN : xs_N s) (hK : va_K D cl tys s) (hP : va_P D cl ws H) (hD : va_D A ws) (hS : va_S A H0 H locs) (hA : ∀ q, H0.size ≤ q → A q)
    (kk : ∀ (u : σ) (H1 : Heap) (locs1 : List Loc), f u → va_P D cl (wr ++ w2 u) H1 → va_D A (wr ++ w2 u) → va_S A H0 H1 locs1 → W p l e R s m args below meth c H1 locs1 (cells + rm.cells) (slots + rm.slots) Q (F0 m (pc + 3) ls ((r u).toList ++ rest))) : W p l e R s m args below meth c H locs cells slots Q (F0 m pc ls st0) :=
  xw_back (va_runSN S (hM H.size) cw ⟨xs_blind, xs_pre As hN hK hP hD isC hnC hC⟩ rfl hn9 hsize hstack (lv_room hW) hdg hf) isC isR hC hR hn hdis hP hD hS hA kk
theorem xw_callI {σ : Type} {f : σ → Prop} {r : σ → Option Value} {w2 : σ → va_W} {ws w wr : va_W} (As : List Value) (hM : xG l y wd rm D cl tys (.ref b :: As) w f r w2) (S : CallFix p m c cc nL s args Ts own) (cw : CallB R s args own index y bytes maxL none wd rm rm.cells rm.slots n ∧ y.name = "<init>" ∧ (Cond.instanceMethod y).before args s = true)
    (hn9 : As.length = n) (hsize : ls.size = nL) (hstack : st0 = As.reverse ++ .ref b :: rest) (hW : (rest.map fun v => v.category).sum ≤ 8) (hdg : decode cc pc = .ok (.invokespecial index, 3)) (hf : cells + rm.cells ≤ R.cells ∧ slots + rm.slots ≤ R.slots)
    (isC isR : List Nat) (hC : isC.map (fun i => ws[i]?) = w.map some) (hR : isR.map (fun i => ws[i]?) = wr.map some) (hnC : va_nd isC = true) (hn : va_nd isR = true) (hdis : ∀ i ∈ isR, i ∉ isC) (hN : xs_N s) (hK : va_K D cl tys s) (hP : va_P D cl ws H) (hD : va_D A ws) (hS : va_S A H0 H locs) (hA : ∀ q, H0.size ≤ q → A q)
    (kk : ∀ (u : σ) (H1 : Heap) (locs1 : List Loc), f u → va_P D cl (wr ++ w2 u) H1 → va_D A (wr ++ w2 u) → va_S A H0 H1 locs1 → W p l e R s m args below meth c H1 locs1 (cells + rm.cells) (slots + rm.slots) Q (F0 m (pc + 3) ls ((r u).toList ++ rest))) : W p l e R s m args below meth c H locs cells slots Q (F0 m pc ls st0) :=
  xw_back (va_runI S (hM H.size) cw ⟨xs_blind, xs_pre (.ref b :: As) hN hK hP hD isC hnC hC⟩ rfl hn9 hsize hstack (lv_room hW) hdg hf) isC isR hC hR hn hdis hP hD hS hA kk
theorem xw_callIN {σ : Type} {f : σ → Prop} {r : σ → Option Value} {w2 : σ → va_W} {ws w wr : va_W} (As : List Value) (hM : xG l y wd rm D cl tys (.ref b :: As) w f r w2) (S : CallFix p m c cc nL s args Ts own) (cw : va_CN R s args own index y host bytes maxL none wd rm rm.cells rm.slots n ∧ y.name = "<init>" ∧ (Cond.instanceMethod y).before args s = true)
    (hn9 : As.length = n) (hsize : ls.size = nL) (hstack : st0 = As.reverse ++ .ref b :: rest) (hW : (rest.map fun v => v.category).sum ≤ 8) (hdg : decode cc pc = .ok (.invokespecial index, 3)) (hf : cells + rm.cells ≤ R.cells ∧ slots + rm.slots ≤ R.slots)
    (isC isR : List Nat) (hC : isC.map (fun i => ws[i]?) = w.map some) (hR : isR.map (fun i => ws[i]?) = wr.map some) (hnC : va_nd isC = true) (hn : va_nd isR = true) (hdis : ∀ i ∈ isR, i ∉ isC) (hN : xs_N s) (hK : va_K D cl tys s) (hP : va_P D cl ws H) (hD : va_D A ws) (hS : va_S A H0 H locs) (hA : ∀ q, H0.size ≤ q → A q)
    (kk : ∀ (u : σ) (H1 : Heap) (locs1 : List Loc), f u → va_P D cl (wr ++ w2 u) H1 → va_D A (wr ++ w2 u) → va_S A H0 H1 locs1 → W p l e R s m args below meth c H1 locs1 (cells + rm.cells) (slots + rm.slots) Q (F0 m (pc + 3) ls ((r u).toList ++ rest))) : W p l e R s m args below meth c H locs cells slots Q (F0 m pc ls st0) :=
  xw_back (va_runIN S (hM H.size) cw ⟨xs_blind, xs_pre (.ref b :: As) hN hK hP hD isC hnC hC⟩ rfl hn9 hsize hstack (lv_room hW) hdg hf) isC isR hC hR hn hdis hP hD hS hA kk
end XSR
section XSE
/-- what a walk in a method over cells owes at its end -/
def xZ {σ : Type} (below : List Frame) (args : Array Value) (s : State) (D : va_G) (cl : List vw_C) (w : va_W) (sz mc ms : Nat) (f : σ → Prop) (r : σ → Option Value) (w2 : σ → va_W) : State → Prop :=
  MQ below (fun _ => xPost D cl w sz f r w2) args s mc ms (va_A w sz)
/-- what holds all through a walk -/
def xC (p : Program) (s : State) (m : MethodId) (args : Array Value) (meth : Method) (c : Code) (cc : ByteArray) (nL : Nat) (ret : Option FieldType) (own nm : String) (wd : List Cond) (D : va_G) (cl : List vw_C) (tys : List (ClassId × FieldType)) (A : Nat → Prop) : Prop :=
  p.tables.exec = Jvm.exec ∧ c.code = cc ∧ meth.sig.returnType = ret ∧ c.maxLocals = nL ∧ s.vm.findClass own = some m.cls ∧ meth.locks = false ∧ (∀ w ∈ wd, w.before args s = true) ∧ meth.name = nm ∧ xs_N s ∧ va_K D cl tys s ∧ ∀ q : Nat, s.heap.size ≤ q → A q
theorem xs_ofW {l : Launch} {y : MethodName} {ws ws' : List Cond} {rm : Room} {Pc : Array Value → State → Prop} {Qc : Array Value → State → Outcome → State → Prop} {mc ms : Nat} {free : Addr → Prop} {cc : ByteArray} {maxL : Nat} {ret : Option FieldType}
    (hy : plainFor y = true) (hw : ws = Cond.code y cc maxL ret :: ws')
    (body : ∀ p e s m args below meth c s₁, BodyLoose p l y (headSpec ws rm) cc maxL ret e s m args below meth c s₁ → c.maxLocals = maxL → Pc args s →
      W p l e (headSpec ws rm).room s m args below meth c s.heap [] 0 0 (MQ below Qc args s mc ms free) (entryFrame m args maxL)) : Met l y ws rm Pc Qc mc ms free := by
  refine MetFree.of_bodySF (code := cc) (maxLocals := maxL) (ret := ret) hy (fun args s m h hn => ?_) (fun p e s m args below meth c s₁ B hml hP _ => ?_)
  · obtain ⟨meth, c, h1, h2, h3, h4, h5, h6, -, -⟩ := Cond.code_spec hn (atoms_spec (ws := ws) h _ (by rw [hw]; exact List.mem_cons_self))
    exact ⟨meth, c, h1, h2, h3, h4, h5, h6⟩
  · obtain ⟨t, a1, o, b1, b2, b3, b4⟩ := body p e s m args below meth c s₁ B hml hP s₁ (by rw [B.state]; rfl) (Stand.of_body B)
    exact ⟨t, o, a1, b1, b2, b3, b4⟩
theorem xG.of {σ : Type} {l : Launch} {y : MethodName} {wd wd' : List Cond} {rm : Room} {D : va_G} {cl : List vw_C} {tys : List (ClassId × FieldType)} {av : List Value} {w : va_W} {f : σ → Prop} {r : σ → Option Value} {w2 : σ → va_W} (cc : ByteArray) (nL : Nat) (ret : Option FieldType)
    (hy : plainFor y = true) (hw : wd = Cond.code y cc nL ret :: wd') (hlen : (lg_sl av).length ≤ nL)
    (body : ∀ (p : Program) (e : Env) (s : State) (m : MethodId) (below : List Frame) (meth : Method) (c : Code) (A : Nat → Prop) (ls : Array Slot), A = va_A w s.heap.size → xC p s m av.toArray meth c cc nL ret y.cls y.name wd D cl tys A → va_P D cl w s.heap → va_D A w → va_S A s.heap s.heap [] → lv_has ls nL (lv_args 0 av) →
      W p l e (headSpec wd rm).room s m av.toArray below meth c s.heap [] 0 0 (xZ below av.toArray s D cl w s.heap.size rm.cells rm.slots f r w2) (F0 m 0 ls [])) : xG l y wd rm D cl tys av w f r w2 := by
  intro sz
  refine xs_ofW (cc := cc) (maxL := nL) (ret := ret) hy hw ?_
  intro p e s m args below meth c s₁ B hml hv
  obtain ⟨rfl, hsz, hP, hK, hD0, hN⟩ := hv
  subst hsz
  rw [lg_entry_eq]
  exact body p e s m below meth c (va_A w s.heap.size) _ rfl ⟨B.exec, B.bytes, B.returns, hml, findClass_of_methodNamed B.named, B.notSynchronized, atoms_spec (ws := wd) B.pre, (name_of_methodNamed B.named B.method).1, hN, hK, fun q h => Or.inr h⟩ hP (hD0.self (sz := s.heap.size)) va_S.rf (lv_entry av hlen)
variable {p : Program} {l : Launch} {e : Env} {R : Room} {s : State} {m : MethodId} {args : Array Value} {below : List Frame} {meth : Method} {c : Code} {H : Heap} {locs : List Loc}
variable {cc : ByteArray} {pc : Nat} {ls : Array Slot} {rest : List Value} {D : va_G} {cl : List vw_C} {A : Nat → Prop} {cells slots : Nat} {Q : State → Prop}
theorem xw_iret {σ : Type} {f : σ → Prop} {r : σ → Option Value} {w2 : σ → va_W} {w : va_W} {mc ms : Nat} (u : σ) {v : Int32} (hexec : p.tables.exec = Jvm.exec) (hb : c.code = cc) (hr : meth.sig.returnType = some .int) (hlocks : meth.locks = false) (hdg : decode cc pc = .ok (.ireturn, 1)) (hv : r u = some (.int v)) (hf : f u) (hAe : A = va_A w s.heap.size) (hP : va_P D cl (w2 u) H) (hD : va_D A (w2 u)) (hS : va_S A s.heap H locs) (hc : cells ≤ mc) (hs : slots ≤ ms) : W p l e R s m args below meth c H locs cells slots (xZ below args s D cl w s.heap.size mc ms f r w2) (F0 m pc ls [.int v]) := by
  subst hAe
  exact W.widen (k := mc) (n := ms) hc hs (W.iret hexec hb hr (fun t ht _ => ⟨u, by rw [hv], hf, by rw [ht]; exact hP, hD, hS.F ht⟩) hS.2.2 hdg hlocks)
theorem xw_zret {σ : Type} {f : σ → Prop} {r : σ → Option Value} {w2 : σ → va_W} {w : va_W} {mc ms : Nat} (u : σ) {v : Int32} (h01 : v = 0 ∨ v = 1) (hexec : p.tables.exec = Jvm.exec) (hb : c.code = cc) (hr : meth.sig.returnType = some .boolean) (hlocks : meth.locks = false) (hdg : decode cc pc = .ok (.ireturn, 1)) (hv : r u = some (.int v)) (hf : f u) (hAe : A = va_A w s.heap.size) (hP : va_P D cl (w2 u) H) (hD : va_D A (w2 u)) (hS : va_S A s.heap H locs) (hc : cells ≤ mc) (hs : slots ≤ ms) : W p l e R s m args below meth c H locs cells slots (xZ below args s D cl w s.heap.size mc ms f r w2) (F0 m pc ls [.int v]) := by
  subst hAe
  exact W.widen (k := mc) (n := ms) hc hs (W.zret (ty := .boolean) hexec hb hr (by rcases h01 with h | h <;> (rw [h]; rfl)) (fun t ht _ => ⟨u, by rw [hv], hf, by rw [ht]; exact hP, hD, hS.F ht⟩) hS.2.2 hdg hlocks)
theorem xw_vret {σ : Type} {f : σ → Prop} {r : σ → Option Value} {w2 : σ → va_W} {w : va_W} {mc ms : Nat} (u : σ) (hexec : p.tables.exec = Jvm.exec) (hb : c.code = cc) (hr : meth.sig.returnType = none) (hlocks : meth.locks = false) (hdg : decode cc pc = .ok (.return_, 1)) (hv : r u = none) (hf : f u) (hAe : A = va_A w s.heap.size) (hP : va_P D cl (w2 u) H) (hD : va_D A (w2 u)) (hS : va_S A s.heap H locs) (hc : cells ≤ mc) (hs : slots ≤ ms) : W p l e R s m args below meth c H locs cells slots (xZ below args s D cl w s.heap.size mc ms f r w2) (F0 m pc ls []) := by
  subst hAe
  exact W.widen (k := mc) (n := ms) hc hs (W.vret hexec hb hr (fun t ht _ => ⟨u, by rw [hv], hf, by rw [ht]; exact hP, hD, hS.F ht⟩) hS.2.2 hdg hlocks)
/-- the number on top, written otherwise -/
theorem xw_top {x : Int32} (z : Int32) (h : x = z) (k : W p l e R s m args below meth c H locs cells slots Q (F0 m pc ls (.int z :: rest))) : W p l e R s m args below meth c H locs cells slots Q (F0 m pc ls (.int x :: rest)) := by rw [h]; exact k
end XSE
end XSB
end
section
section XSA
variable {p : Program} {l : Launch} {e : Env} {R : Room} {s : State} {m : MethodId} {args : Array Value} {below : List Frame} {meth : Method} {c : Code} {H : Heap} {locs : List Loc} {cells slots : Nat} {Q : State → Prop}
variable {cc : ByteArray} {pc : Nat} {ls : Array Slot} {rest : List Value} {D : va_G} {cl : List vw_C} {A : Nat → Prop} {a : Nat} {tys : List (ClassId × FieldType)} {ws : va_W} {H0 : Heap}
theorem xs_cI {cI cA : ClassId} {t0 : Nat} (hK : va_K D cl (tys ++ [(cA, .int)]) s) (ht : tys[t0]? = some (cI, .int)) : cA = cI := by
  have h1 := (hK.2 tys.length (cA, .int) (by simp)).2
  have h2 := (hK.2 t0 (cI, .int) (by rw [List.getElem?_append_left (List.getElem?_eq_some_iff.mp ht).1]; exact ht)).2
  exact Option.some.inj (Eq.trans (Eq.symm h1) h2)
theorem xs_cB {cI cA : ClassId} {t0 : Nat} (hK : va_K D cl (tys ++ [(cA, .boolean)]) s) (ht : tys[t0]? = some (cI, .boolean)) : cA = cI := by
  have h1 := (hK.2 tys.length (cA, .boolean) (by simp)).2
  have h2 := (hK.2 t0 (cI, .boolean) (by rw [List.getElem?_append_left (List.getElem?_eq_some_iff.mp ht).1]; exact ht)).2
  exact Option.some.inj (Eq.trans (Eq.symm h1) h2)
theorem xs_cL {cI cA : ClassId} {t0 : Nat} (hK : va_K D cl (tys ++ [(cA, .long)]) s) (ht : tys[t0]? = some (cI, .long)) : cA = cI := by
  have h1 := (hK.2 tys.length (cA, .long) (by simp)).2
  have h2 := (hK.2 t0 (cI, .long) (by rw [List.getElem?_append_left (List.getElem?_eq_some_iff.mp ht).1]; exact ht)).2
  exact Option.some.inj (Eq.trans (Eq.symm h1) h2)
/-- new rows: of ints, of truth values, of longs -/
theorem xw_newI (hexec : p.tables.exec = Jvm.exec) (hb : c.code = cc) (harr : (Cond.arrayClass .int).before args s = true) (hK : va_K D cl tys s) (t0 : Nat) {cI : ClassId} (ht : tys[t0]? = some (cI, .int)) (hP : va_P D cl ws H) (hD : va_D A ws) (hS : va_S A H0 H locs) (hA : ∀ q, H0.size ≤ q → A q)
    {n : Int32} {N : Nat} (hn : ¬ n < 0) (hN : n.toNatClampNeg = N) (hbytes : N ≤ 100000) (hcells : cells + 1 ≤ R.cells) (hslots : slots + N ≤ R.slots) (hdg : decode cc pc = .ok (.newarray .int, 2))
    (kk : ∀ (q : Nat) (H1 : Heap), va_P D cl (ws ++ [(q, .inl (cI, N, .inl (fun _ => 0)))]) H1 → va_D A (ws ++ [(q, .inl (cI, N, .inl (fun _ => 0)))]) → va_S A H0 H1 locs →
      W p l e R s m args below meth c H1 locs (cells + 1) (slots + N) Q (F0 m (pc + 2) ls (.ref q :: rest))) : W p l e R s m args below meth c H locs cells slots Q (F0 m pc ls (.int n :: rest)) :=
  va_newa (N' := N) (atype := .int) (a0 := (N, .inl (fun _ => 0))) (ty := .int) hexec hb harr rfl hK hP hD hS hA (fun _ => rfl) hn hN (show N * 4 ≤ 536870912 by omega) hcells hslots hdg (fun q cA H1 hK1 hP1 hD1 hS1 => by
    cases xs_cI hK1 ht
    exact kk q H1 hP1 hD1 hS1)
theorem xw_newB (hexec : p.tables.exec = Jvm.exec) (hb : c.code = cc) (harr : (Cond.arrayClass .boolean).before args s = true) (hK : va_K D cl tys s) (t0 : Nat) {cI : ClassId} (ht : tys[t0]? = some (cI, .boolean)) (hP : va_P D cl ws H) (hD : va_D A ws) (hS : va_S A H0 H locs) (hA : ∀ q, H0.size ≤ q → A q)
    {n : Int32} {N : Nat} (hn : ¬ n < 0) (hN : n.toNatClampNeg = N) (hbytes : N ≤ 100000) (hcells : cells + 1 ≤ R.cells) (hslots : slots + N ≤ R.slots) (hdg : decode cc pc = .ok (.newarray .boolean, 2))
    (kk : ∀ (q : Nat) (H1 : Heap), va_P D cl (ws ++ [(q, .inl (cI, N, .inl (fun _ => 0)))]) H1 → va_D A (ws ++ [(q, .inl (cI, N, .inl (fun _ => 0)))]) → va_S A H0 H1 locs →
      W p l e R s m args below meth c H1 locs (cells + 1) (slots + N) Q (F0 m (pc + 2) ls (.ref q :: rest))) : W p l e R s m args below meth c H locs cells slots Q (F0 m pc ls (.int n :: rest)) :=
  va_newa (N' := N) (atype := .boolean) (a0 := (N, .inl (fun _ => 0))) (ty := .boolean) hexec hb harr rfl hK hP hD hS hA (fun _ => rfl) hn hN (show N * 1 ≤ 536870912 by omega) hcells hslots hdg (fun q cA H1 hK1 hP1 hD1 hS1 => by
    cases xs_cB hK1 ht
    exact kk q H1 hP1 hD1 hS1)
theorem xw_newL (hexec : p.tables.exec = Jvm.exec) (hb : c.code = cc) (harr : (Cond.arrayClass .long).before args s = true) (hK : va_K D cl tys s) (t0 : Nat) {cI : ClassId} (ht : tys[t0]? = some (cI, .long)) (hP : va_P D cl ws H) (hD : va_D A ws) (hS : va_S A H0 H locs) (hA : ∀ q, H0.size ≤ q → A q)
    {n : Int32} {N : Nat} (hn : ¬ n < 0) (hN : n.toNatClampNeg = N) (hbytes : N ≤ 100000) (hcells : cells + 1 ≤ R.cells) (hslots : slots + N ≤ R.slots) (hdg : decode cc pc = .ok (.newarray .long, 2))
    (kk : ∀ (q : Nat) (H1 : Heap), va_P D cl (ws ++ [(q, .inl (cI, N, .inr (.inl (fun _ => 0))))]) H1 → va_D A (ws ++ [(q, .inl (cI, N, .inr (.inl (fun _ => 0))))]) → va_S A H0 H1 locs →
      W p l e R s m args below meth c H1 locs (cells + 1) (slots + N) Q (F0 m (pc + 2) ls (.ref q :: rest))) : W p l e R s m args below meth c H locs cells slots Q (F0 m pc ls (.int n :: rest)) :=
  va_newa (N' := N) (atype := .long) (a0 := (N, .inr (.inl (fun _ => 0)))) (ty := .long) hexec hb harr rfl hK hP hD hS hA (fun _ => rfl) hn hN (show N * 8 ≤ 536870912 by omega) hcells hslots hdg (fun q cA H1 hK1 hP1 hD1 hS1 => by
    cases xs_cL hK1 ht
    exact kk q H1 hP1 hD1 hS1)
/-- two contents of an array that agree where it has places -/
theorem xs_arr_eq {cA : ClassId} {n : Nat} {f g : Nat → Int32} (h : ∀ j, j < n → f j = g j) : vp_cell cA (n, .inl f) = vp_cell cA (n, .inl g) := by
  show arrV cA n (fun j => .int (f j)) = arrV cA n (fun j => .int (g j))
  unfold arrV
  have e : (fun j : Fin n => Value.int (f j.val)) = fun j : Fin n => Value.int (g j.val) := funext fun j => by rw [h j.val j.isLt]
  rw [e]
theorem xs_refill {cA : ClassId} {n q0 : Nat} {f g : Nat → Int32} (hP : va_P D cl ws H) (hD : va_D A ws) (ha : ws[q0]? = some (a, .inl (cA, n, .inl f))) (h : ∀ j, j < n → f j = g j) : va_P D cl (ws.set q0 (a, .inl (cA, n, .inl g))) H ∧ va_D A (ws.set q0 (a, .inl (cA, n, .inl g))) := by
  refine ⟨fun k q hq => ?_, hD.set ha⟩
  by_cases hk : k = q0
  · subst hk
    have hl := (List.getElem?_eq_some_iff.mp ha).1
    rw [List.getElem?_set_self hl] at hq
    cases hq
    have h9 : H[a]? = some (vp_cell cA (n, .inl f)) := hP k _ ha
    show H[a]? = some (vp_cell cA (n, .inl g))
    rw [h9, xs_arr_eq h]
  · rw [List.getElem?_set_ne (Ne.symm hk)] at hq
    exact hP k q hq
/-- a row's content up to i is v, from there as before -/
def xs_fl (i : Nat) (v : Int32) (f : Nat → Int32) : Nat → Int32 := fun j => if j < i then v else f j
theorem xs_fl_s (i : Nat) (v : Int32) (f : Nat → Int32) : upd (xs_fl i v f) i v = xs_fl (i + 1) v f := by
  funext j
  by_cases h : j = i
  · subst h; rw [pk_us]; simp [xs_fl]
  · rw [pk_un h]
    by_cases h2 : j < i
    · simp [xs_fl, h2, Nat.lt_succ_of_lt h2]
    · simp [xs_fl, h2, show ¬ j < i + 1 by omega]
theorem xs_fl_0 (v : Int32) (f : Nat → Int32) : xs_fl 0 v f = f := by funext j; simp [xs_fl]
theorem xs_fl_n {n : Nat} (v : Int32) (f : Nat → Int32) : ∀ j, j < n → xs_fl n v f j = (fun _ => v) j := fun j h => by simp [xs_fl, h]
/-- the same with a rule for each place -/
def xs_fg (i : Nat) (g f : Nat → Int32) : Nat → Int32 := fun j => if j < i then g j else f j
theorem xs_fg_s (i : Nat) (g f : Nat → Int32) : upd (xs_fg i g f) i (g i) = xs_fg (i + 1) g f := by
  funext j
  by_cases h : j = i
  · subst h; rw [pk_us]; simp [xs_fg]
  · rw [pk_un h]
    by_cases h2 : j < i
    · simp [xs_fg, h2, Nat.lt_succ_of_lt h2]
    · simp [xs_fg, h2, show ¬ j < i + 1 by omega]
theorem xs_fg_0 (g f : Nat → Int32) : xs_fg 0 g f = f := by funext j; simp [xs_fg]
theorem xs_fg_n {n : Nat} (g f : Nat → Int32) : ∀ j, j < n → xs_fg n g f j = g j := fun j h => by simp [xs_fg, h]
/-- stores of a truth value -/
theorem xw_zst (hexec : p.tables.exec = Jvm.exec) (hb : c.code = cc) (hK : va_K D cl tys s) (hP : va_P D cl ws H) (hD : va_D A ws) (hS : va_S A H0 H locs) (q0 t0 : Nat) {cA : ClassId} {n : Nat} {f : Nat → Int32} (ha : ws[q0]? = some (a, .inl (cA, n, .inl f))) (ht : tys[t0]? = some (cA, .boolean)) {j : Nat} {x : Int32} (h01 : x = 0 ∨ x = 1) (hj : j < n) (hn : n < 2 ^ 31) (hdg : decode cc pc = .ok (.bastore, 1))
    (kk : ∀ (H1 : Heap) (locs1 : List Loc), va_P D cl (ws.set q0 (a, .inl (cA, n, .inl (upd f j x)))) H1 → va_D A (ws.set q0 (a, .inl (cA, n, .inl (upd f j x)))) → va_S A H0 H1 locs1 → W p l e R s m args below meth c H1 locs1 cells slots Q (F0 m (pc + 1) ls rest)) : W p l e R s m args below meth c H locs cells slots Q (F0 m pc ls (.int x :: .int (nI j) :: .ref a :: rest)) :=
  va_zast hexec hb hK hP hD hS q0 t0 ha ht (vp_in_nI hj hn) hdg (fun H1 locs1 h1 h2 h3 => kk H1 locs1
    (by rw [nI_clamp (Nat.lt_trans hj hn), show vp_nar .boolean x = x by rcases h01 with h | h <;> (rw [h]; decide +kernel)] at h1; exact h1)
    (by rw [nI_clamp (Nat.lt_trans hj hn), show vp_nar .boolean x = x by rcases h01 with h | h <;> (rw [h]; decide +kernel)] at h2; exact h2) h3)
theorem xw_ist (hexec : p.tables.exec = Jvm.exec) (hb : c.code = cc) (hK : va_K D cl tys s) (hP : va_P D cl ws H) (hD : va_D A ws) (hS : va_S A H0 H locs) (q0 t0 : Nat) {cA : ClassId} {n : Nat} {f : Nat → Int32} (ha : ws[q0]? = some (a, .inl (cA, n, .inl f))) (ht : tys[t0]? = some (cA, .int)) {j : Nat} {x : Int32} (hj : j < n) (hn : n < 2 ^ 31) (hdg : decode cc pc = .ok (.iastore, 1))
    (kk : ∀ (H1 : Heap) (locs1 : List Loc), va_P D cl (ws.set q0 (a, .inl (cA, n, .inl (upd f j x)))) H1 → va_D A (ws.set q0 (a, .inl (cA, n, .inl (upd f j x)))) → va_S A H0 H1 locs1 → W p l e R s m args below meth c H1 locs1 cells slots Q (F0 m (pc + 1) ls rest)) : W p l e R s m args below meth c H locs cells slots Q (F0 m pc ls (.int x :: .int (nI j) :: .ref a :: rest)) := va_iast hexec hb hK hP hD hS q0 t0 ha ht (vp_in_nI hj hn) hdg (fun H1 locs1 h1 h2 h3 => kk H1 locs1 (by rw [nI_clamp (Nat.lt_trans hj hn)] at h1; exact h1) (by rw [nI_clamp (Nat.lt_trans hj hn)] at h2; exact h2) h3)
theorem xw_ild (hexec : p.tables.exec = Jvm.exec) (hb : c.code = cc) (hK : va_K D cl tys s) (hP : va_P D cl ws H) (q0 t0 : Nat) {cA : ClassId} {n : Nat} {f : Nat → Int32} (ha : ws[q0]? = some (a, .inl (cA, n, .inl f))) (ht : tys[t0]? = some (cA, .int)) {j : Nat} (hj : j < n) (hn : n < 2 ^ 31) (hdg : decode cc pc = .ok (.iaload, 1))
    (kk : W p l e R s m args below meth c H locs cells slots Q (F0 m (pc + 1) ls (.int (f j) :: rest))) : W p l e R s m args below meth c H locs cells slots Q (F0 m pc ls (.int (nI j) :: .ref a :: rest)) := va_iald hexec hb hK hP q0 t0 ha ht (vp_in_nI hj hn) hdg (by rw [nI_clamp (Nat.lt_trans hj hn)]; exact kk)
theorem xw_zld (hexec : p.tables.exec = Jvm.exec) (hb : c.code = cc) (hK : va_K D cl tys s) (hP : va_P D cl ws H) (q0 t0 : Nat) {cA : ClassId} {n : Nat} {f : Nat → Int32} (ha : ws[q0]? = some (a, .inl (cA, n, .inl f))) (ht : tys[t0]? = some (cA, .boolean)) {j : Nat} (hj : j < n) (hn : n < 2 ^ 31) (hdg : decode cc pc = .ok (.baload, 1))
    (kk : W p l e R s m args below meth c H locs cells slots Q (F0 m (pc + 1) ls (.int (f j) :: rest))) : W p l e R s m args below meth c H locs cells slots Q (F0 m pc ls (.int (nI j) :: .ref a :: rest)) := va_zald hexec hb hK hP q0 t0 ha ht (vp_in_nI hj hn) hdg (by rw [nI_clamp (Nat.lt_trans hj hn)]; exact kk)
theorem xs_inc (x n : Nat) : nI x + Int32.ofInt (n : Int) = nI (x + n) := by
  rw [← nI_add]; rfl
end XSA
end
section
section XSN
theorem xs_lt0_xor (x : Int32) {y : Int32} (hy : y.toBitVec.msb = false) : x ^^^ y < 0 ↔ x < 0 := by
  have h : ∀ z : Int32, z < 0 ↔ z.toBitVec.msb = true := fun z => by
    rw [Int32.lt_iff_toInt_lt, BitVec.msb_eq_toInt]
    exact (decide_eq_true_iff (p := z.toBitVec.toInt < 0)).symm
  rw [h, h, Int32.toBitVec_xor, BitVec.msb_xor, hy]
  simp
theorem xs_and_toInt (x : Int32) {m : Int32} (k : Nat) (hk : k < 31) (hm : m.toBitVec.toNat = 2 ^ k - 1) : (x &&& m).toInt = x.toInt % (2 ^ k : Nat) := by
  rw [pk_and x k hm, nI_toInt (Nat.lt_trans (Nat.mod_lt _ (Nat.two_pow_pos k)) (Nat.pow_lt_pow_right (by decide) hk))]
  have h : x.toInt = if 2 * x.toBitVec.toNat < 2 ^ 32 then (x.toBitVec.toNat : Int) else (x.toBitVec.toNat : Int) - (2 ^ 32 : Nat) := BitVec.toInt_eq_toNat_cond x.toBitVec
  rw [h]
  split
  · rfl
  · have e : (2 ^ 32 : Nat) = 2 ^ k * 2 ^ (32 - k) := by rw [← Nat.pow_add]; congr 1; omega
    rw [e, Int.natCast_mul, Int.sub_mul_emod_self_left]
    rfl
theorem xs_rem_toInt (x y : Int32) (d : Nat) (hd : y.toInt = d) (h1 : 1 < d) (h2 : d < 1000) : (x - x / y * y).toInt = x.toInt.tmod d := by
  have hl := Int32.le_toInt x
  have hu := Int32.toInt_lt x
  rw [Int32.toInt_sub, Int32.toInt_mul, Int32.toInt_div, hd]
  generalize x.toInt = a at hl hu ⊢
  have e1 : a.tdiv d * d + a.tmod d = a := by
    have := Int.mul_tdiv_add_tmod a d
    rw [Int.mul_comm] at this
    exact this
  have e2 : 0 ≤ a → 0 ≤ a.tmod d := fun h => Int.tmod_nonneg _ h
  have e3 : a.tmod d < d := Int.tmod_lt_of_pos _ (by omega)
  have e4 : a ≤ 0 → a.tmod d ≤ 0 := fun h => by
    have := Int.tmod_nonneg (a := -a) (d : Int) (by omega)
    rw [Int.neg_tmod] at this
    omega
  have e5 : -(d : Int) < a.tmod d := Int.lt_tmod_of_pos _ (by omega)
  generalize a.tmod d = r at *
  have e6 : -2147483648 ≤ a.tdiv d * d ∧ a.tdiv d * d < 2147483648 := by
    rcases Int.le_total 0 a with h | h
    · have := e2 h; omega
    · have := e4 h; omega
  have e7 : -2147483648 ≤ a.tdiv d ∧ a.tdiv d < 2147483648 := by
    generalize a.tdiv d = q at e6
    constructor
    · rcases Int.le_total 0 q with h | h
      · omega
      · have : q * d ≤ q * 1 := Int.mul_le_mul_of_nonpos_left h (by omega)
        omega
    · rcases Int.le_total 0 q with h | h
      · have : q * 1 ≤ q * d := Int.mul_le_mul_of_nonneg_left (by omega) h
        omega
      · omega
  have b : ∀ z : Int, -2147483648 ≤ z → z < 2147483648 → z.bmod (2 ^ 32) = z := fun z h3 h4 => Int.bmod_eq_of_le (by omega) (by omega)
  rw [b (a.tdiv d) e7.1 e7.2, b _ e6.1 e6.2, b _ (by omega) (by omega)]
  omega
/-- Math.floorMod by a power of two, as the reference's mask has it -/
theorem xs_floor_p (x y m : Int32) (k d : Nat) (hd : y.toInt = d) (hk : k < 9) (hp : d = 2 ^ k) (h1 : 1 < d) (hm : m.toBitVec.toNat = 2 ^ k - 1) (hx : ¬ x < 0 ∨ x - x / y * y = 0) : x - x / y * y = x &&& m := by
  have h2 : d < 1000 := by rw [hp]; exact Nat.lt_of_lt_of_le (Nat.pow_lt_pow_right (by decide) hk) (by decide)
  have e := xs_rem_toInt x y d hd h1 h2
  have f := xs_and_toInt x k (by omega) hm
  rw [← hp] at f
  have h0 : (0 : Int32).toInt = 0 := rfl
  have hx' : 0 ≤ x.toInt ∨ x.toInt.tmod d = 0 := by
    rcases hx with h | h
    · rw [Int32.lt_iff_toInt_lt, h0] at h; omega
    · rw [h, h0] at e; omega
  apply Int32.toInt_inj.mp
  rw [e, f]
  have g1 := Int.emod_lt_of_pos x.toInt (b := (d : Int)) (by omega)
  have g2 := Int.emod_nonneg x.toInt (b := (d : Int)) (by omega)
  rw [Int.tmod_eq_emod] at hx' ⊢
  by_cases h : 0 ≤ x.toInt ∨ (d : Int) ∣ x.toInt
  · rw [if_pos h]; omega
  · rw [if_neg h] at hx'
    simp only [Int.natAbs_natCast] at hx'
    omega
theorem xs_floor_n (x y m : Int32) (k d : Nat) (hd : y.toInt = d) (hk : k < 9) (hp : d = 2 ^ k) (h1 : 1 < d) (hm : m.toBitVec.toNat = 2 ^ k - 1) (hx : x < 0) (hne : ¬ x - x / y * y = 0) : x - x / y * y + y = x &&& m := by
  have h2 : d < 1000 := by rw [hp]; exact Nat.lt_of_lt_of_le (Nat.pow_lt_pow_right (by decide) hk) (by decide)
  have e := xs_rem_toInt x y d hd h1 h2
  have f := xs_and_toInt x k (by omega) hm
  rw [← hp] at f
  have h0 : (0 : Int32).toInt = 0 := rfl
  rw [Int32.lt_iff_toInt_lt, h0] at hx
  have hne' : ¬ x.toInt.tmod d = 0 := fun z => hne (Int32.toInt_inj.mp (by rw [e, z]; rfl))
  apply Int32.toInt_inj.mp
  rw [Int32.toInt_add, e, f, hd]
  have g1 := Int.emod_lt_of_pos x.toInt (b := (d : Int)) (by omega)
  have g2 := Int.emod_nonneg x.toInt (b := (d : Int)) (by omega)
  have h : ¬ (0 ≤ x.toInt ∨ (d : Int) ∣ x.toInt) := fun z => by
    rcases z with z | z
    · omega
    · exact hne' (Int.tmod_eq_zero_of_dvd z)
  rw [Int.tmod_eq_emod, if_neg h]
  simp only [Int.natAbs_natCast]
  rw [Int.bmod_eq_of_le (by omega) (by omega)]
  omega
/-- no number is below none -/
theorem xs_no0 {k : Int32} (h0 : ¬ k < 0) (h : k < nI 0) : False := h0 (by rw [nI_0] at h; exact h)
end XSN
theorem xs_ltN {a b : Nat} (h : ¬ nI b ≤ nI a) (ha : a < 2 ^ 31) (hb : b < 2 ^ 31) : a < b := by
  rcases Nat.lt_or_ge a b with q | q
  · exact q
  · exact absurd (nI_le q ha) h
theorem xs_geN {a b : Nat} (h : nI b ≤ nI a) (ha : a < 2 ^ 31) (hb : b < 2 ^ 31) : ¬ a < b := fun q => nI_ge q hb h
end
section
section XSM
variable {p : Program} {l : Launch} {e : Env} {R : Room} {s : State} {m : MethodId} {args : Array Value} {below : List Frame} {meth : Method} {c : Code} {H : Heap} {locs : List Loc} {cells slots : Nat} {Q : State → Prop}
variable {cc : ByteArray} {pc : Nat} {ls : Array Slot} {rest : List Value} {D : va_G} {cl : List vw_C} {A : Nat → Prop} {ws : va_W} {H0 : Heap}
/-- new int[n][k]: of the new rows nothing is said -/
theorem xw_mna (hexec : p.tables.exec = Jvm.exec) (hb : c.code = cc) {own : String} {index : Nat} (hown : s.vm.findClass own = some m.cls) (hclink : (Cond.classLink own index ("[" ++ (FieldType.array FieldType.int).toString)).before args s = true) (hover : (Cond.arrayOver (.array .int)).before args s = true) (harr : (Cond.arrayClass .int).before args s = true)
    (hP : va_P D cl ws H) (hD : va_D A ws) (hS : va_S A H0 H locs) {n k : Int32} (hn : ¬ n < 0) (hk : ¬ k < 0) {N K : Nat} (hN : n.toNatClampNeg = N) (hM : k.toNatClampNeg = K)
    (hb1 : N ≤ 1000) (hb2 : K ≤ 1000) (hcells : cells + (1 + N) ≤ R.cells) (hslots : slots + (N + N * K) ≤ R.slots) (hdg : decode cc pc = .ok (.multianewarray index 2, 4))
    (kk : ∀ (q : Nat) (H1 : Heap), va_P D cl ws H1 → va_D A ws → va_S A H0 H1 locs → W p l e R s m args below meth c H1 locs (cells + 1 + N) (slots + N + N * K) Q (F0 m (pc + 4) ls (.ref q :: rest))) : W p l e R s m args below meth c H locs cells slots Q (F0 m pc ls (.int k :: .int n :: rest)) := by
  subst hN
  subst hM
  intro T hT Xs
  obtain ⟨vm₁, cA, comp, -, -, -, -, -, X', step⟩ := Xs.multianewarray2F hexec (ty := .int) hown hclink hover harr (g := F0 m pc ls (.int k :: .int n :: rest)) rfl (by rw [hb]; exact hdg) rfl hn hk (by omega) (by show k.toNatClampNeg * 4 ≤ _; omega) (by omega) (by decide) (by decide) hcells hslots
  have f1 := (Jvm.Free.Multi.fill_facts (T.setVm vm₁) cA comp n.toNatClampNeg k.toNatClampNeg (defaultValue .int) n.toNatClampNeg).1
  have hold : ∀ x : Nat, x < H.size → (Jvm.Free.Multi.fill (T.setVm vm₁) cA comp n.toNatClampNeg k.toNatClampNeg (defaultValue .int) n.toNatClampNeg).heap[x]? = H[x]? := fun x hx => by
    have h9 := Jvm.Free.Multi.fill_old (T.setVm vm₁) cA comp n.toNatClampNeg k.toNatClampNeg (defaultValue .int) (a := x) (by show x < T.heap.size; rw [hT]; exact hx) n.toNatClampNeg
    rw [h9]
    show T.heap[x]? = H[x]?
    rw [hT]
  have hsz : H.size ≤ (Jvm.Free.Multi.fill (T.setVm vm₁) cA comp n.toNatClampNeg k.toNatClampNeg (defaultValue .int) n.toNatClampNeg).heap.size := by
    have e : (T.setVm vm₁).heap = H := hT
    rw [e] at f1
    omega
  generalize Jvm.Free.Multi.fill (T.setVm vm₁) cA comp n.toNatClampNeg k.toNatClampNeg (defaultValue .int) n.toNatClampNeg = F at X' step hold hsz
  obtain ⟨t, a1, b1⟩ := kk T.heap.size F.heap (hP.kept (fun i q hq => hold q.1 ((hP i q hq).lt))) hD ⟨Nat.le_trans hS.1 hsz, fun q h1 h2 => (hold q (Nat.lt_of_lt_of_le h1 hS.1)).trans (hS.2.1 q h1 h2), hS.2.2⟩ F rfl X'
  exact ⟨t, step t a1, b1⟩
end XSM
end
section
abbrev b_AR_fill : ByteArray := prog_22_method_103_code
def y_AR_fill : MethodName := ⟨"java/util/Arrays", "fill", "([II)V"⟩
def w_AR_fill : List Cond := .code y_AR_fill b_AR_fill 4 (none) :: xU
theorem d_AR_fill_0 : decode b_AR_fill 0 = .ok (.iconst 0, 1) := by decide +kernel
theorem d_AR_fill_1 : decode b_AR_fill 1 = .ok (.istore_n 2, 1) := by decide +kernel
theorem d_AR_fill_2 : decode b_AR_fill 2 = .ok (.aload_n 0, 1) := by decide +kernel
theorem d_AR_fill_3 : decode b_AR_fill 3 = .ok (.arraylength, 1) := by decide +kernel
theorem d_AR_fill_4 : decode b_AR_fill 4 = .ok (.istore_n 3, 1) := by decide +kernel
theorem d_AR_fill_5 : decode b_AR_fill 5 = .ok (.iload_n 2, 1) := by decide +kernel
theorem d_AR_fill_6 : decode b_AR_fill 6 = .ok (.iload_n 3, 1) := by decide +kernel
theorem d_AR_fill_7 : decode b_AR_fill 7 = .ok (.if_icmp .ge 13, 3) := by decide +kernel
theorem d_AR_fill_10 : decode b_AR_fill 10 = .ok (.aload_n 0, 1) := by decide +kernel
theorem d_AR_fill_11 : decode b_AR_fill 11 = .ok (.iload_n 2, 1) := by decide +kernel
theorem d_AR_fill_12 : decode b_AR_fill 12 = .ok (.iload_n 1, 1) := by decide +kernel
theorem d_AR_fill_13 : decode b_AR_fill 13 = .ok (.iastore, 1) := by decide +kernel
theorem d_AR_fill_14 : decode b_AR_fill 14 = .ok (.iinc 2 1, 3) := by decide +kernel
theorem d_AR_fill_17 : decode b_AR_fill 17 = .ok (.goto (-12), 3) := by decide +kernel
theorem d_AR_fill_20 : decode b_AR_fill 20 = .ok (.return_, 1) := by decide +kernel
end
section
abbrev b_MA_floorMod : ByteArray := prog_17_method_50_code
def y_MA_floorMod : MethodName := ⟨"java/lang/Math", "floorMod", "(II)I"⟩
def w_MA_floorMod : List Cond := .code y_MA_floorMod b_MA_floorMod 3 (some .int) :: xU
theorem d_MA_floorMod_0 : decode b_MA_floorMod 0 = .ok (.iload_n 0, 1) := by decide +kernel
theorem d_MA_floorMod_1 : decode b_MA_floorMod 1 = .ok (.iload_n 1, 1) := by decide +kernel
theorem d_MA_floorMod_2 : decode b_MA_floorMod 2 = .ok (.irem, 1) := by decide +kernel
theorem d_MA_floorMod_3 : decode b_MA_floorMod 3 = .ok (.istore_n 2, 1) := by decide +kernel
theorem d_MA_floorMod_4 : decode b_MA_floorMod 4 = .ok (.iload_n 0, 1) := by decide +kernel
theorem d_MA_floorMod_5 : decode b_MA_floorMod 5 = .ok (.iload_n 1, 1) := by decide +kernel
theorem d_MA_floorMod_6 : decode b_MA_floorMod 6 = .ok (.ixor, 1) := by decide +kernel
theorem d_MA_floorMod_7 : decode b_MA_floorMod 7 = .ok (.ifCond .ge 11, 3) := by decide +kernel
theorem d_MA_floorMod_10 : decode b_MA_floorMod 10 = .ok (.iload_n 2, 1) := by decide +kernel
theorem d_MA_floorMod_11 : decode b_MA_floorMod 11 = .ok (.ifCond .eq 7, 3) := by decide +kernel
theorem d_MA_floorMod_14 : decode b_MA_floorMod 14 = .ok (.iload_n 2, 1) := by decide +kernel
theorem d_MA_floorMod_15 : decode b_MA_floorMod 15 = .ok (.iload_n 1, 1) := by decide +kernel
theorem d_MA_floorMod_16 : decode b_MA_floorMod 16 = .ok (.iadd, 1) := by decide +kernel
theorem d_MA_floorMod_17 : decode b_MA_floorMod 17 = .ok (.ireturn, 1) := by decide +kernel
theorem d_MA_floorMod_18 : decode b_MA_floorMod 18 = .ok (.iload_n 2, 1) := by decide +kernel
theorem d_MA_floorMod_19 : decode b_MA_floorMod 19 = .ok (.ireturn, 1) := by decide +kernel
end
section
abbrev b_NET_has : ByteArray := prog_7_method_2_code
def y_NET_has : MethodName := ⟨"ExploreShares$Net", "has", "(I)Z"⟩
def w_NET_has : List Cond := .code y_NET_has b_NET_has 2 (some .boolean) :: xU
theorem d_NET_has_0 : decode b_NET_has 0 = .ok (.iload_n 1, 1) := by decide +kernel
theorem d_NET_has_1 : decode b_NET_has 1 = .ok (.ifCond .lt 15, 3) := by decide +kernel
theorem d_NET_has_4 : decode b_NET_has 4 = .ok (.iload_n 1, 1) := by decide +kernel
theorem d_NET_has_5 : decode b_NET_has 5 = .ok (.aload_n 0, 1) := by decide +kernel
theorem d_NET_has_6 : decode b_NET_has 6 = .ok (.getfield 18, 3) := by decide +kernel
theorem d_NET_has_9 : decode b_NET_has 9 = .ok (.if_icmp .ge 7, 3) := by decide +kernel
theorem d_NET_has_16 : decode b_NET_has 16 = .ok (.iconst 0, 1) := by decide +kernel
theorem d_NET_has_17 : decode b_NET_has 17 = .ok (.ireturn, 1) := by decide +kernel
end
section
abbrev b_X_oneOf : ByteArray := prog_1_method_15_code
def y_X_oneOf : MethodName := ⟨"ExploreShares", "oneOf", "(II)I"⟩
def w_X_oneOf : List Cond := .code y_X_oneOf b_X_oneOf 2 (some .int) :: xU
theorem d_X_oneOf_0 : decode b_X_oneOf 0 = .ok (.iload_n 0, 1) := by decide +kernel
theorem d_X_oneOf_1 : decode b_X_oneOf 1 = .ok (.ifCond .le 12, 3) := by decide +kernel
theorem d_X_oneOf_4 : decode b_X_oneOf 4 = .ok (.iload_n 1, 1) := by decide +kernel
theorem d_X_oneOf_5 : decode b_X_oneOf 5 = .ok (.ldc 211, 2) := by decide +kernel
theorem d_X_oneOf_7 : decode b_X_oneOf 7 = .ok (.idiv, 1) := by decide +kernel
theorem d_X_oneOf_8 : decode b_X_oneOf 8 = .ok (.iload_n 0, 1) := by decide +kernel
theorem d_X_oneOf_9 : decode b_X_oneOf 9 = .ok (.irem, 1) := by decide +kernel
theorem d_X_oneOf_10 : decode b_X_oneOf 10 = .ok (.goto 4, 3) := by decide +kernel
theorem d_X_oneOf_14 : decode b_X_oneOf 14 = .ok (.ireturn, 1) := by decide +kernel
abbrev b_X_fillFlags : ByteArray := prog_1_method_16_code
def y_X_fillFlags : MethodName := ⟨"ExploreShares", "fillFlags", "([ZZ)V"⟩
def w_X_fillFlags : List Cond := .code y_X_fillFlags b_X_fillFlags 3 (none) :: xU
theorem d_X_fillFlags_0 : decode b_X_fillFlags 0 = .ok (.iconst 0, 1) := by decide +kernel
theorem d_X_fillFlags_1 : decode b_X_fillFlags 1 = .ok (.istore_n 2, 1) := by decide +kernel
theorem d_X_fillFlags_2 : decode b_X_fillFlags 2 = .ok (.iload_n 2, 1) := by decide +kernel
theorem d_X_fillFlags_3 : decode b_X_fillFlags 3 = .ok (.aload_n 0, 1) := by decide +kernel
theorem d_X_fillFlags_4 : decode b_X_fillFlags 4 = .ok (.arraylength, 1) := by decide +kernel
theorem d_X_fillFlags_5 : decode b_X_fillFlags 5 = .ok (.if_icmp .ge 13, 3) := by decide +kernel
theorem d_X_fillFlags_8 : decode b_X_fillFlags 8 = .ok (.aload_n 0, 1) := by decide +kernel
theorem d_X_fillFlags_9 : decode b_X_fillFlags 9 = .ok (.iload_n 2, 1) := by decide +kernel
theorem d_X_fillFlags_10 : decode b_X_fillFlags 10 = .ok (.iload_n 1, 1) := by decide +kernel
theorem d_X_fillFlags_11 : decode b_X_fillFlags 11 = .ok (.bastore, 1) := by decide +kernel
theorem d_X_fillFlags_12 : decode b_X_fillFlags 12 = .ok (.iinc 2 1, 3) := by decide +kernel
theorem d_X_fillFlags_15 : decode b_X_fillFlags 15 = .ok (.goto (-13), 3) := by decide +kernel
theorem d_X_fillFlags_18 : decode b_X_fillFlags 18 = .ok (.return_, 1) := by decide +kernel
abbrev b_X_numberBehind : ByteArray := prog_1_method_14_code
def y_X_numberBehind : MethodName := ⟨"ExploreShares", "numberBehind", "(I)I"⟩
def w_X_numberBehind : List Cond := .code y_X_numberBehind b_X_numberBehind 1 (some .int) :: xU
theorem d_X_numberBehind_0 : decode b_X_numberBehind 0 = .ok (.ldc 209, 2) := by decide +kernel
theorem d_X_numberBehind_2 : decode b_X_numberBehind 2 = .ok (.iload_n 0, 1) := by decide +kernel
theorem d_X_numberBehind_3 : decode b_X_numberBehind 3 = .ok (.imul, 1) := by decide +kernel
theorem d_X_numberBehind_4 : decode b_X_numberBehind 4 = .ok (.sipush 12345, 3) := by decide +kernel
theorem d_X_numberBehind_7 : decode b_X_numberBehind 7 = .ok (.iadd, 1) := by decide +kernel
theorem d_X_numberBehind_8 : decode b_X_numberBehind 8 = .ok (.ldc 210, 2) := by decide +kernel
theorem d_X_numberBehind_10 : decode b_X_numberBehind 10 = .ok (.iand, 1) := by decide +kernel
theorem d_X_numberBehind_11 : decode b_X_numberBehind 11 = .ok (.ireturn, 1) := by decide +kernel
end
section
section XTH
/-- a static field of Throwable: where its cell lies, and that the two words on it hold wherever that cell is unchanged -/
def xst (n d : String) (A : Nat → Prop) (U : State) (H : Heap) : Prop := ∃ (a : Nat) (cell : Cell), H[a]? = some cell ∧ ¬ A a ∧ ∀ (U' : State) (args : Array Value), U.vm.Alike U'.vm → U'.heap[a]? = some cell → (Cond.isRef (.static Bundle.tN n d)).before args U' = true ∧ (Cond.laysStatic Bundle.tN n d).before args U' = true
/-- what a throw needs of the start beside the tables' words -/
def xz (A : Nat → Prop) (U : State) : Prop := xst "UNASSIGNED_STACK" Bundle.steD A U U.heap ∧ xst "SUPPRESSED_SENTINEL" Bundle.listD A U U.heap ∧ ∀ q ∈ xs_strs, ∃ sa : Nat, vk_R "ExploreShares" q.1 q.2 sa U
theorem xst.down {n d : String} {A A' : Nat → Prop} {s U : State} {H : Heap} {locs : List Loc} (h : xst n d A s s.heap) (hS : va_S A s.heap H locs) (hAA : ∀ q, A' q → A q) (hU : U.heap = H) (hW : s.WarmedH U.vm) : xst n d A' U U.heap := by
  obtain ⟨a, cell, h1, h2, h3⟩ := h
  refine ⟨a, cell, ?_, fun z => h2 (hAA a z), fun U' args hal hc => h3 U' args (hW.alike.trans hal) hc⟩
  rw [hU, hS.2.1 a (Array.getElem?_eq_some_iff.mp h1).1 h2]
  exact h1
theorem xz.down {A A' : Nat → Prop} {s U : State} {H : Heap} {locs : List Loc} (h : xz A s) (hS : va_S A s.heap H locs) (hAA : ∀ q, A' q → A q) (hU : U.heap = H) (hW : s.WarmedH U.vm) : xz A' U :=
  ⟨h.1.down hS hAA hU hW, h.2.1.down hS hAA hU hW, fun q hq => by obtain ⟨sa, h9⟩ := h.2.2 q hq; exact ⟨sa, h9.warm hW⟩⟩
theorem xst.words {n d : String} {A : Nat → Prop} {s : State} (h : xst n d A s s.heap) (args : Array Value) : (Cond.isRef (.static Bundle.tN n d)).before args s = true ∧ (Cond.laysStatic Bundle.tN n d).before args s = true := by
  obtain ⟨a, cell, h1, -, h3⟩ := h
  exact h3 s args (Vm.Alike.refl s.vm) h1
def xPreZ (D : va_G) (cl : List vw_C) (tys : List (ClassId × FieldType)) (av : List Value) (w : va_W) (sz : Nat) : Array Value → State → Prop := va_Pc av (fun U => U.heap.size = sz ∧ va_P D cl w U.heap ∧ va_K D cl tys U ∧ va_D (fun _ => True) w ∧ xs_N U ∧ xz (va_A w sz) U)
/-- a method that throws an E: where it ends -/
def xTh (E : String) (w : va_W) (sz mc ms : Nat) : Array Value → State → Outcome → State → Prop := fun _ st o t => ∃ (q : Addr) (ce : Cell) (L : List Loc), o = .threw q ∧ t.heap[q]? = some ce ∧ ce.vm = .none ∧ st.vm.findClass E = some ce.cls ∧ va_F (va_A w sz) st t ∧ st.WarmedH t.vm ∧ st.sameButNew ({ t with vm := st.vm } : State) L mc ms ∧ ∀ z ∈ L, va_A w sz z.base
/-- from the cells w it throws an E; nothing that was there changes but of these cells -/
def xT (l : Launch) (y : MethodName) (wd : List Cond) (rm : Room) (D : va_G) (cl : List vw_C) (tys : List (ClassId × FieldType)) (av : List Value) (w : va_W) (E : String) : Prop :=
  ∀ sz : Nat, MetFree l y (headSpec wd rm) (xPreZ D cl tys av w sz) (fun _ _ _ _ _ => True) (xTh E w sz rm.cells rm.slots)
theorem xs_blindZ {av : List Value} {sz : Nat} {D : va_G} {cl : List vw_C} {tys : List (ClassId × FieldType)} {w : va_W} : FrameBlind (xPreZ D cl tys av w sz) :=
  fun a U g mk q => by obtain ⟨q0, q1, qP, qK, qD, qN, qZ⟩ := q; exact ⟨q0, q1, qP, va_K.moved (u := U) (U := U.calling g mk a) (Vm.Alike.refl U.vm) qK, qD, xs_N.warm (s := U) (U := U.calling g mk a) (State.WarmedH.refl U) qN, xz.down (s := U) (U := U.calling g mk a) (H := U.heap) (locs := []) qZ va_S.rf (fun _ h => h) rfl (State.WarmedH.refl U)⟩
theorem xs_preZ {D : va_G} {cl : List vw_C} {tys : List (ClassId × FieldType)} {s : State} {ws w : va_W} {A : Nat → Prop} {H : Heap} {locs : List Loc} (av : List Value) (hN : xs_N s) (hZ : xz A s) (hS : va_S A s.heap H locs) (hA : ∀ q, s.heap.size ≤ q → A q) (hK : va_K D cl tys s) (hP : va_P D cl ws H) (hD : va_D A ws) (is : List Nat) (hn : va_nd is = true) (hs : is.map (fun i => ws[i]?) = w.map some) :
    ∀ U : State, U.heap = H → s.WarmedH U.vm → xPreZ D cl tys av w H.size av.toArray U := fun U hU hW =>
  ⟨rfl, by rw [hU], by rw [hU]; exact xs_P_sub hP is hs, va_K.moved hW.alike hK, (hD.sub is hn hs).weaken (fun _ _ _ _ => trivial), xs_N.warm hW hN, xz.down hZ hS (va_free (wc := w) hD hS hA is hs) hU hW⟩
/-- what a walk in a throwing method owes -/
def xZT (below : List Frame) (args : Array Value) (s : State) (E : String) (w : va_W) (sz mc ms : Nat) : State → Prop := fun t => ∃ o, t.status = .running ∧ Ended t below o ∧ xTh E w sz mc ms args s o t
theorem xT.of {l : Launch} {y : MethodName} {wd wd' : List Cond} {rm : Room} {D : va_G} {cl : List vw_C} {tys : List (ClassId × FieldType)} {av : List Value} {w : va_W} {E : String} (cc : ByteArray) (nL : Nat) (ret : Option FieldType)
    (hy : plainFor y = true) (hw : wd = Cond.code y cc nL ret :: wd') (hlen : (lg_sl av).length ≤ nL)
    (body : ∀ (p : Program) (e : Env) (s : State) (m : MethodId) (below : List Frame) (meth : Method) (c : Code) (A : Nat → Prop) (ls : Array Slot), A = va_A w s.heap.size → xC p s m av.toArray meth c cc nL ret y.cls y.name wd D cl tys A → (∀ x ∈ c.exceptionTable.toList, False) → xz A s → va_P D cl w s.heap → va_D A w → va_S A s.heap s.heap [] → lv_has ls nL (lv_args 0 av) →
      W p l e (headSpec wd rm).room s m av.toArray below meth c s.heap [] 0 0 (xZT below av.toArray s E w s.heap.size rm.cells rm.slots) (F0 m 0 ls [])) : xT l y wd rm D cl tys av w E := by
  intro sz
  refine MetFree.of_bodySF (code := cc) (maxLocals := nL) (ret := ret) hy (fun args s m h hn => ?_) (fun p e s m args below meth c s₁ B hml hv _ => ?_)
  · obtain ⟨meth, c, h1, h2, h3, h4, h5, h6, -, -⟩ := Cond.code_spec hn (atoms_spec (ws := wd) h _ (by rw [hw]; exact List.mem_cons_self))
    exact ⟨meth, c, h1, h2, h3, h4, h5, h6⟩
  · obtain ⟨rfl, hsz, hP, hK, hD0, hN, hZ⟩ := hv
    subst hsz
    have ht : ∀ x ∈ c.exceptionTable.toList, False := by
      obtain ⟨meth9, c9, h1, h2, -, -, -, -, h7, -⟩ := Cond.code_spec B.named (atoms_spec (ws := wd) B.pre _ (by rw [hw]; exact List.mem_cons_self))
      cases Option.some.inj (h1.symm.trans B.method)
      cases Option.some.inj (h2.symm.trans (Stand.of_body B).code)
      intro x hx
      rw [Array.isEmpty_iff.mp h7] at hx
      cases hx
    have K := body p e s m below meth c (va_A w s.heap.size) _ rfl ⟨B.exec, B.bytes, B.returns, hml, findClass_of_methodNamed B.named, B.notSynchronized, atoms_spec (ws := wd) B.pre, (name_of_methodNamed B.named B.method).1, hN, hK, fun q h => Or.inr h⟩ ht hZ hP (hD0.self (sz := s.heap.size)) va_S.rf (lv_entry av hlen)
    rw [← lg_entry_eq] at K
    obtain ⟨t, a1, o, b1, b2, b3⟩ := K s₁ (by rw [B.state]; rfl) (Stand.of_body B)
    exact ⟨t, o, a1, b1, b2, b3⟩
section XTR
variable {p : Program} {l : Launch} {e : Env} {R : Room} {s : State} {m : MethodId} {args : Array Value} {below : List Frame} {meth : Method} {c : Code} {H : Heap} {locs : List Loc} {cells slots : Nat} {Q : State → Prop}
variable {pc : Nat} {ls : Array Slot} {rest st0 : List Value} {A : Nat → Prop} {D : va_G} {cl : List vw_C} {tys : List (ClassId × FieldType)} {cc : ByteArray}
theorem xs_same {U : State} {L : List Loc} {k n : Nat} (h : s.sameButNew ({ U with vm := s.vm } : State) L k n) (hL : ∀ z ∈ L, A z.base) : va_F A s U := by
  obtain ⟨-, h2, -, -, -, h6⟩ := h
  refine ⟨h2, fun q hq hz => ?_⟩
  obtain ⟨c9, e1, e2, -, e4⟩ := h6 q _ (Array.getElem?_eq_getElem hq)
  have hs : c9.slots = (s.heap[q]).slots := Array.ext_getElem? fun i => e4 i fun hm => hz (hL _ hm)
  rw [hs] at e2
  have e5 : U.heap[q]? = some c9 := e1
  rw [e5, e2, Array.getElem?_eq_getElem hq]
/-- throw new E("text") -/
theorem xw_throwS {w : va_W} {mc ms : Nat} (hexec : p.tables.exec = Jvm.exec) (hb : c.code = cc) (htr : l.stackTraces = false) {own cls text : String} {names : List String} {ik is ic : Nat} (hown : s.vm.findClass own = some m.cls) (hcls : Bundle.fit cls = true) (hnames : ∀ n ∈ names, Bundle.fit n = true)
    (hk : (Cond.classLink own ik cls).before args s = true) (hini : (Cond.initialized cls).before args s = true) (hstr : ∃ sa : Nat, vk_R own is text sa s) (hat : ∀ a ∈ Bundle.ownAtoms own ic cls names, a.before args s = true)
    (hAe : A = va_A w s.heap.size) (hP0 : va_P D cl w s.heap) (hS : va_S A s.heap H locs) (hsize : ls.size = c.maxLocals)
    (d0 : decode cc pc = .ok (.new ik, 3)) (d3 : decode cc (pc + 3) = .ok (.dup, 1)) (d4 : decode cc (pc + 4) = .ok (.ldc is, 2)) (d6 : decode cc (pc + 6) = .ok (.invokespecial ic, 3)) (d9 : decode cc (pc + 9) = .ok (.athrow, 1))
    (hout : ∀ x ∈ c.exceptionTable.toList, False) (hRframes : names.length + 3 < R.frames) (hRlocals : (rest.map fun v => v.category).sum + (13 * (names.length + 1) + 43) ≤ R.locals) (hRcells : cells + 1 ≤ R.cells) (hRslots : slots + 6 ≤ R.slots) (hlocks : meth.locks = false) (hc : cells + 1 ≤ mc) (hs : slots + 6 ≤ ms) :
    W p l e R s m args below meth c H locs cells slots (xZT below args s cls w s.heap.size mc ms) (F0 m pc ls rest) := by
  subst hAe
  obtain ⟨sa, hsa⟩ := hstr
  intro T hT X
  have htr' : e.platform.stackTraces = false := (show e.platform.stackTraces = l.stackTraces by rw [X.admits.platform]).trans htr
  have hlocs : ∀ x ∈ locs, ∀ cell, s.heap[x.base]? = some cell → cell.vm.isStatics = false := fun x hx cell hcell => by
    rcases hS.2.2 x hx with ⟨k, ev, hk9⟩ | h9
    · have h8 := hP0 k _ hk9
      cases ev with
      | inl a9 =>
        have h7 : s.heap[x.base]? = some (vp_cell a9.1 a9.2) := h8
        rw [h7] at hcell
        cases hcell
        obtain ⟨c9, n9, f9⟩ := a9
        rcases f9 with f | f | f | f | f <;> rfl
      | inr o9 =>
        obtain ⟨r, -, cell9, g1, -, g3, -⟩ := h8
        have g1' : s.heap[x.base]? = some cell9 := g1
        rw [g1'] at hcell
        cases hcell
        rw [g3]; rfl
    · have := (Array.getElem?_eq_some_iff.mp hcell).1
      omega
  obtain ⟨vm₁, cX, kX, hfX, hkX, -, -, X₁, st1⟩ := X.newCold hexec (own := own) (C := cls) (index := ik) (n := 6) hown hk (hat _ (by simp [Bundle.ownAtoms])) hini (g := F0 m pc ls rest) rfl (by rw [hb]; exact d0) hRcells hRslots
  have hcellA := State.heap_pushCell_size (T.setVm vm₁) { cls := cX, slots := kX.instanceTypes.map defaultValue, vm := .none }
  have hcat : ∀ x : Nat, (Value.ref x).category = 1 := fun _ => rfl
  have d3' : decode c.code (pc + 3) = .ok (.dup, 1) := by rw [hb]; exact d3
  have d4' : decode c.code (pc + 4) = .ok (.ldc is, 2) := by rw [hb]; exact d4
  have hge : s.heap.size ≤ T.heap.size := by rw [hT]; exact hS.1
  generalize (T.setVm vm₁).pushCell { cls := cX, slots := kX.instanceTypes.map defaultValue, vm := .none } = T1 at X₁ st1 hcellA
  obtain ⟨U, hsteps, hrun, hend, hW, hsame, ce, hce, hO⟩ := X₁.ctorThrowS hexec htr' (own := own) (cls := cls) (names := names) (ic := ic) hown hcls hnames hat hlocs hfX hkX hcellA hge (msg := .ref sa) rfl
    (g := { method := m, pc := pc + 6, locals := ls, stack := .ref sa :: .ref T.heap.size :: .ref T.heap.size :: rest, locked := none }) rfl hsize rfl rfl (rest := rest) rfl
    (by rw [hb]; exact d6) (by rw [hb]; exact d9) (fun x hx => (hout x hx).elim) hRframes (by simp only [List.map_cons, List.sum_cons, hcat]; omega) hlocks
  refine ⟨U, st1 _ ?_, .threw T.heap.size, hrun, hend, T.heap.size, ce, locs, rfl, hce, hO.vm, hO.cls, xs_same hsame hS.2.2, hW, hsame.mono hc hs, hS.2.2⟩
  show Steps p.tables e below (T1.setTop { method := m, pc := pc + 3, locals := ls, stack := .ref T.heap.size :: rest, locked := none }) _
  jvm_step X₁.here [X₁.here.top, hexec, d3', Value.category]
  exact X₁.ldcString hexec (own := own) (text := text) (index := is) (a := sa) hown hsa.1 hsa.2
    (g := { method := m, pc := pc + 4, locals := ls, stack := .ref T.heap.size :: .ref T.heap.size :: rest, locked := none }) rfl d4' _ hsteps
end XTR
end XTH
end
section
section XCT
def xs_ck : Cond → Bool
  | .castable _ _ => true
  | .declares _ => true
  | _ => false
theorem xs_ck_use {w : Cond} {args : Array Value} {s : State} (h : w ∈ lw_tbl) (hk : xs_ck w = true) (hN : xs_N s) : w.before args s = true := by
  cases w with
  | castable => exact va_Nw.use rfl (hN _ (List.mem_filter.mpr ⟨h, rfl⟩))
  | declares => exact va_Nw.use rfl (hN _ (List.mem_filter.mpr ⟨h, rfl⟩))
  | _ => exact Bool.noConfusion hk
def xs_st4 : List Cond := [.isRef (.static Bundle.tN "UNASSIGNED_STACK" Bundle.steD), .laysStatic Bundle.tN "UNASSIGNED_STACK" Bundle.steD, .isRef (.static Bundle.tN "SUPPRESSED_SENTINEL" Bundle.listD), .laysStatic Bundle.tN "SUPPRESSED_SENTINEL" Bundle.listD]
def xs_okw (w : Cond) : Bool := decide (w ∈ xs_st4) || (decide (w ∈ lw_tbl) && (goodWord w || xs_ck w))
theorem xs_hat {args : Array Value} {s : State} {A : Nat → Prop} {L : List Cond} (h : L.all xs_okw = true) (hU : ∀ w ∈ xU, w.before args s = true) (hN : xs_N s) (hZ : xz A s) : ∀ a ∈ L, a.before args s = true := by
  intro a ha
  have h1 := List.all_eq_true.mp h a ha
  simp only [xs_okw, Bool.or_eq_true, Bool.and_eq_true, decide_eq_true_eq] at h1
  rcases h1 with h1 | ⟨h1, h2 | h2⟩
  · have w1 := hZ.1.words args
    have w2 := hZ.2.1.words args
    simp only [xs_st4, List.mem_cons, List.not_mem_nil, or_false] at h1
    rcases h1 with e | e | e | e <;> rw [e]
    · exact w1.1
    · exact w1.2
    · exact w2.1
    · exact w2.2
  · exact hU _ (List.mem_filter.mpr ⟨h1, h2⟩)
  · exact xs_ck_use h1 h2 hN
section XCR
variable {p : Program} {l : Launch} {e : Env} {R : Room} {s : State} {m : MethodId} {args : Array Value} {below : List Frame} {meth : Method} {c : Code} {H : Heap} {locs : List Loc} {cells slots : Nat} {Q : State → Prop}
variable {pc : Nat} {ls : Array Slot} {rest st0 : List Value} {A : Nat → Prop} {D : va_G} {cl : List vw_C} {tys : List (ClassId × FieldType)} {cc : ByteArray}
variable {y : MethodName} {bytes : ByteArray} {maxL nL n index : Nat} {ret : Option FieldType} {wd : List Cond} {rm : Room} {Ts : List Cond} {own C : String} {b : Nat}
set_option maxHeartbeats 2000000 in
/-- a call of a method that throws an E, caught by the row x of the caller's table -/
theorem xw_callT {E : String} {ws w wr : va_W} (As : List Value) (hM : xT l y wd rm D cl tys (.ref b :: As) w E) (S : CallFix p m c cc nL s args Ts own) (cw : CallW R s args own C index y bytes maxL ret wd rm rm.cells rm.slots n)
    (q0 : Nat) {ci : Nat} {q : vw_C} {fs : List Value} (hc : cl[ci]? = some q) (he : ws[q0]? = some (b, .inr (ci, fs))) (hq : q.1 = C) (hn9 : As.length = n) (hsize : ls.size = nL) (hstack : st0 = As.reverse ++ .ref b :: rest) (hW : (rest.map fun v => v.category).sum ≤ 8) (hdg : decode cc pc = .ok (.invokevirtual index, 3)) (hf : cells + rm.cells ≤ R.cells ∧ slots + rm.slots ≤ R.slots)
    (isC isR : List Nat) (hC : isC.map (fun i => ws[i]?) = w.map some) (hR : isR.map (fun i => ws[i]?) = wr.map some) (hnC : va_nd isC = true) (hn : va_nd isR = true) (hdis : ∀ i ∈ isR, i ∉ isC) (hN : xs_N s) (hZ : xz A s) (hK : va_K D cl tys s) (hP : va_P D cl ws H) (hD : va_D A ws) (hS : va_S A s.heap H locs) (hA : ∀ q, s.heap.size ≤ q → A q)
    (pre : List ExceptionTableEntry) (x : ExceptionTableEntry) (suf : List ExceptionTableEntry) (hsplit : c.exceptionTable.toList = pre ++ x :: suf) (hpass : ∀ z ∈ pre, z.catchType ≠ 0 ∧ ∃ nm : String, (Cond.classLink own z.catchType nm).before args s = true ∧ va_Nc E nm s) (hx : covers x pc = true) (h0 : x.catchType ≠ 0)
    (hlink : (Cond.classLink own x.catchType E).before args s = true) (hcast : (Cond.castable E E).before args s = true)
    (kk : ∀ (q9 : Addr) (H1 : Heap) (locs1 : List Loc), va_P D cl wr H1 → va_D A wr → va_S A s.heap H1 locs1 → W p l e R s m args below meth c H1 locs1 (cells + rm.cells) (slots + rm.slots) Q (F0 m x.handlerPc ls [.ref q9])) : W p l e R s m args below meth c H locs cells slots Q (F0 m pc ls st0) := by
  intro T hT X
  obtain ⟨cellB, hcB, hoB, hclB⟩ : ∃ cellB : Cell, H[b]? = some cellB ∧ cellB.vm.isStatics = false ∧ s.vm.findClass C = some cellB.cls := by
    have h9 := va_recv hK hP hc he
    rw [hq] at h9
    exact h9
  obtain ⟨⟨-, -, hfr, hlo, hws, hcw, hcode, hini, hy, hlen, hl⟩, hin, hse⟩ := cw
  obtain ⟨hx9, hb, hml, ho, -⟩ := S
  obtain ⟨mk, methM, hnamed, hmethM, hstM, habM⟩ := Cond.instanceMethod_spec hin
  obtain ⟨methM', cM, hmethM', -, -, -, -, -, -, hsigM⟩ := Cond.code_spec hnamed hcode
  cases hmethM.symm.trans hmethM'
  obtain ⟨c2, r2, m2, q1, q2, q3, q4, kP, hkP, hkPi⟩ := Cond.selects_spec hse
  cases hclB.symm.trans q1
  cases (State.methodFound?_of_named hnamed hy).symm.trans q2
  cases hnamed.symm.trans q3
  have hsel : selectMethod e.platform s.vm cellB.cls mk = .method mk := by rw [Launch.admits_selectMethod X.admits]; exact q4
  have hdg' : decode c.code pc = .ok (.invokevirtual index, 3) := by rw [hb]; exact hdg
  obtain ⟨vm₁, X₁, hstep₁⟩ := X.invokevirtual hx9 ho hl hnamed hmethM hstM hkP hkPi hy (a := b) (cell := cellB) (by rw [hT]; exact hcB) (fun z h => by rw [h] at hoB; cases hoB) hsel hmethM habM hkP hkPi (g := F0 m pc ls st0) rfl (argsL := As) (rest := rest) (hn9.trans (hlen _ hsigM)) hstack hdg'
  have hPc := xs_preZ (.ref b :: As) hN hZ hS hA hK hP hD isC hnC hC (T.setVm vm₁) hT X₁.warmed
  have hF9 := va_free (wc := w) hD hS hA isC hC
  have hTU : (T.setVm vm₁).heap = H := hT
  generalize T.setVm vm₁ = U at X₁ hstep₁ hPc hTU
  have hnU : U.methodNamed? y = some mk := X₁.named hnamed
  have h1 : (headSpec wd rm).pre.before (Value.ref b :: As).toArray U = true := atoms_intro fun w hw => hws w hw _ _ X₁.warmed
  have h2 : (Cond.code y bytes maxL ret).before (Value.ref b :: As).toArray U = true := hws _ hcw _ _ X₁.warmed
  have h3 : (Cond.initialized y.cls).before (Value.ref b :: As).toArray U = true := word_at X₁.warmed (Or.inl (by first | rfl | simp [Cond.onTables, Cond.keeps, Cond.steady])) hini
  obtain ⟨methY, cY, hmY, hcY, -, hlY, -, -, -, -⟩ := Cond.code_spec hnU h2
  obtain ⟨kY, hkY, -⟩ := className_of_methodNamed hnU
  have hinitY := Cond.initialized_spec (findClass_of_methodNamed hnU) hkY h3
  have hh : At U (F0 m pc ls rest).method c below := X₁.here
  have hlo9 : 8 + (maxL + 11) + (headSpec wd rm).room.locals ≤ R.locals := hlo
  have hWr : 2 * (F0 m pc ls rest).monitorRoom + ((F0 m pc ls rest).stack.map fun v => v.category).sum ≤ 8 := lv_room hW
  have happ : (headSpec wd rm).appliesLoose y e.platform (U.calling (F0 m pc ls rest) mk (Value.ref b :: As).toArray) = true :=
    Spec.appliesLoose_calling (g := F0 m pc ls rest) hh hdg' hnU hkY hinitY
      (X₁.room_calling (g := F0 m pc ls rest) (R' := (headSpec wd rm).room) (hsize.trans hml.symm) hmY hcY hfr (by rw [hlY]; omega) hf.1 hf.2) h1
  obtain ⟨mid, hmid⟩ := hh.above
  have hfr9 : (U.setTop (F0 m pc ls rest)).frames = (.java (F0 m pc ls rest) :: mid) ++ below := by rw [State.frames_setTop' _ hh.top, hmid]; rfl
  obtain ⟨o, s₂, hsteps, -, hend, q9, ce, L, rfl, hce, hcv, hcl, hF, hW₂, hsm, hL⟩ := Steps.callFree (hM H.size) p X.admits X.cas X.clock (acts := []) hfr9 happ (xs_blindZ _ _ (F0 m pc ls rest) mk hPc) trivial
  rw [State.frames_setTop' _ hh.top] at hend
  obtain ⟨g₀, hg0⟩ := Option.isSome_iff_exists.mp hh.top
  obtain ⟨r, hr⟩ := State.topJava?_eq_some.mp hg0
  have hr' : (({ U with heap := s₂.heap, slotsUsed := s₂.slotsUsed } : State).setVm s₂.vm).frames = .java g₀ :: r := hr
  obtain ⟨e2, p2, p3, p4, p5, p6⟩ := id hsm
  have e3 : s₂ = ({ (U.calling (F0 m pc ls rest) mk (Value.ref b :: As).toArray).setFrames s₂.frames with heap := s₂.heap, slotsUsed := s₂.slotsUsed } : State).setVm s₂.vm := by
    have h9 : s₂ = ({ s₂ with vm := (U.calling (F0 m pc ls rest) mk (Value.ref b :: As).toArray).vm } : State).setVm s₂.vm := rfl
    exact h9.trans (congrArg (fun z : State => z.setVm s₂.vm) e2)
  have hf₂ : s₂.frames = .throwing q9 :: .java (F0 m pc ls rest) :: U.frames.tail := hend
  have hW' : U.WarmedH s₂.vm := hW₂
  have hs₂ : s₂ = ((({ U with heap := s₂.heap, slotsUsed := s₂.slotsUsed } : State).setVm s₂.vm).setTop (F0 m pc ls rest)).pushFrame (.throwing q9) := by
    refine e3.trans ?_
    rw [hf₂, State.calling_eq hh.top, State.setFrames_setFrames, State.pushFrame, State.frames_setTop _ hr', State.setTop_of_frames _ hr', State.setFrames_setFrames, hr]
    rfl
  have hsame : U.sameButNew ({ U with heap := s₂.heap, slotsUsed := s₂.slotsUsed } : State) L rm.cells rm.slots := by
    refine ⟨?_, p2, p3, p4, p5, p6⟩
    obtain ⟨t, ht, -⟩ := State.frames_cons hr
    show ({ U with heap := s₂.heap, slotsUsed := s₂.slotsUsed } : State) = { U.setFrames U.frames with heap := s₂.heap, slotsUsed := s₂.slotsUsed }
    rw [State.setFrames_self ht]
  have X₂ : Stand p l e R s m args below meth c (({ U with heap := s₂.heap, slotsUsed := s₂.slotsUsed } : State).setVm s₂.vm) (locs ++ L) (cells + rm.cells) (slots + rm.slots) :=
    ⟨X₁.admits, X₁.cas, X₁.clock, X₁.frames, X₁.room, X₁.hears, X₁.method, X₁.code, (X₁.here.setHeapUsed s₂.heap s₂.slotsUsed).setVm hW'.alike, X₁.tail, State.WarmedH.trans X₁.warmed hW', X₁.limits, X₁.bytes, X₁.same.trans (hsame.setVm s.vm)⟩
  have hcome : Steps p.tables e below (T.setTop (F0 m pc ls st0)) (((({ U with heap := s₂.heap, slotsUsed := s₂.slotsUsed } : State).setVm s₂.vm).setTop (F0 m pc ls rest)).pushFrame (.throwing q9)) := by
    rw [← hs₂]
    exact hstep₁ _ fun acts => by rw [doInvoke_state]; exact hsteps
  have hTh : (({ U with heap := s₂.heap, slotsUsed := s₂.slotsUsed } : State).setVm s₂.vm).heap = s₂.heap := rfl
  have hclS : s.vm.findClass E = some ce.cls := by
    have h9 : U.vm.findClass E = some ce.cls := hcl
    rw [X₁.warmed.alike.findClass] at h9
    exact h9
  obtain ⟨hk9, hS9⟩ := xs_keep (st₀ := U.calling (F0 m pc ls rest) mk (Value.ref b :: As).toArray) (T' := ({ U with heap := s₂.heap, slotsUsed := s₂.slotsUsed } : State).setVm s₂.vm) (t := s₂) hTU hTh hS hF9 hL hF
  generalize (({ U with heap := s₂.heap, slotsUsed := s₂.slotsUsed } : State).setVm s₂.vm) = T' at X₂ hcome hTh hk9 hS9
  have hpl : e.platform.magicAccessors = ({} : Platform).magicAccessors := by rw [X.admits.platform]
  obtain ⟨c3, c4, hc3, hc4, hasg⟩ := Cond.castable_spec hcast
  cases Option.some.inj (hc3.symm.trans hclS)
  obtain ⟨c5, hc5, hcl5⟩ := Cond.classLink_spec ho hlink e.platform hpl
  cases Option.some.inj (hc4.symm.trans hc5)
  obtain ⟨vm', X', st⟩ := X₂.thenCaughtThrough q9 (g := F0 m pc ls rest) rfl hcome (by rw [hTh]; exact hce) (by rw [hcv]; rfl) (by obtain ⟨k9, h9, -⟩ := Vm.findClass_spec hclS; exact ⟨k9, h9⟩) pre x suf hsplit
    (fun z hz => by
      obtain ⟨hz0, nm, hl1, a8, b8, g1, g2, g3⟩ := hpass z hz
      obtain ⟨c6, hc6, hcl6⟩ := Cond.classLink_spec ho hl1 e.platform hpl
      cases Option.some.inj (g1.symm.trans hclS)
      cases Option.some.inj (g2.symm.trans hc6)
      exact Or.inr ⟨hz0, _, hcl6, g3⟩) hx (Or.inr ⟨h0, c4, hcl5, hasg⟩)
  have hP1 : va_P D cl [] T'.heap := fun k q h => by simp at h
  have hD1 : va_D (va_A w H.size) [] := ⟨fun i j p q h => by simp at h, fun k q h => by simp at h⟩
  obtain ⟨j1, j2⟩ := va_join (w1 := []) hP hD isC isR hC hR hn hdis hk9 hF9 hP1 hD1
  rw [List.append_nil] at j1 j2
  obtain ⟨t2, a1, b1⟩ := kk q9 T'.heap (locs ++ L) j1 j2 hS9 (T'.setVm vm') rfl X'
  exact ⟨t2, st.trans a1, b1⟩
end XCR
end XCT
end
section
set_option maxHeartbeats 4000000 in
set_option maxRecDepth 100000 in
/-- Arrays.fill: all places are v -/
theorem c_fill (l : Launch) (D : va_G) (cI cB cL : ClassId) (h0 : Nat) (n : Nat) (f : Nat → Int32) (v : Int32) (hn : n ≤ 1000) : xG (σ := Unit) l y_AR_fill w_AR_fill ({ frames := 0, cells := 0, slots := 0, locals := 0  } : Room) D vwCl (xs_tys cI cB cL) [.ref h0, .int v] [(h0, .inl (cI, n, .inl f))] (fun _ => True) (fun _ => none) (fun _ => [(h0, .inl (cI, n, .inl (fun _ => v)))]) := by
  refine xG.of b_AR_fill 4 (none) (by decide +kernel) rfl (Nat.le_of_ble_eq_true rfl) ?_
  intro p e s m below meth c A ls hAe C0 hP hD hS hl
  obtain ⟨hx, hb, hr, hml, hown, hlocks, hts, hnm, hN, hK, hA⟩ := C0
  have hU : ∀ w ∈ xU, w.before #[.ref h0, .int v] s = true := fun w h => hts w (List.mem_cons_of_mem _ h)
  have hl : lv_has ls 4 [(0, .ref h0), (1, .int v)] := hl
  refine lv_iconst (v := nI 0) hx hb d_AR_fill_0 (by decide +kernel) ?_
  refine lv_istore_n (lv' := [(2, .int (nI 0)), (0, .ref h0), (1, .int v)]) hx hb d_AR_fill_1 rfl hl (by decide) rfl (fun ls hl => ?_)
  refine lv_aload_n hx hb d_AR_fill_2 rfl (lv_at hl 1 rfl) ?_
  refine va_alen hx hb hK hP 0 0 rfl rfl (v := nI n) rfl d_AR_fill_3 ?_
  refine lv_istore_n (lv' := [(3, .int (nI n)), (2, .int (nI 0)), (0, .ref h0), (1, .int v)]) hx hb d_AR_fill_4 rfl hl (by decide) rfl (fun ls hl => ?_)
  obtain ⟨hP, hD⟩ := xs_refill (q0 := 0) (g := xs_fl 0 v f) hP hD rfl (fun j _ => by rw [xs_fl_0])
  have hP : va_P D vwCl [(h0, .inl (cI, n, .inl (xs_fl 0 v f)))] s.heap := hP
  have hD : va_D A [(h0, .inl (cI, n, .inl (xs_fl 0 v f)))] := hD
  refine W.widen (k := 0) (n := 0) (Nat.le_of_ble_eq_true rfl) (Nat.le_of_ble_eq_true rfl) ?_
  have lp_5 : ∀ (fu : Nat) (i : Nat) (H : Heap) (locs : List Loc) (ls : Array Slot), (i + fu = n) → va_P D vwCl [(h0, .inl (cI, n, .inl (xs_fl i v f)))] H → va_D A [(h0, .inl (cI, n, .inl (xs_fl i v f)))] → va_S A s.heap H locs → lv_has ls 4 [(3, .int (nI n)), (2, .int (nI i)), (0, .ref h0), (1, .int v)] → W p l e (headSpec w_AR_fill ({ frames := 0, cells := 0, slots := 0, locals := 0  } : Room)).room s m #[.ref h0, .int v] below meth c H locs 0 0 (xZ (σ := Unit) below #[.ref h0, .int v] s D vwCl [(h0, .inl (cI, n, .inl f))] s.heap.size ({ frames := 0, cells := 0, slots := 0, locals := 0  } : Room).cells ({ frames := 0, cells := 0, slots := 0, locals := 0  } : Room).slots (fun _ => True) (fun _ => none) (fun _ => [(h0, .inl (cI, n, .inl (fun _ => v)))])) (F0 m 5 ls []) := by
    intro fu
    induction fu with
    | zero =>
      intro i H locs ls hi hP hD hS hl
      refine lv_iload_n hx hb d_AR_fill_5 rfl (lv_at hl 1 rfl) ?_
      refine lv_iload_n hx hb d_AR_fill_6 rfl (lv_at hl 0 rfl) ?_
      refine lv_icmp_ge (tgt := 20) hx hb d_AR_fill_7 (by decide) (fun c_7 => ?_) (fun c_7 => ?_)
      · obtain ⟨hP, hD⟩ := xs_refill (q0 := 0) (g := fun _ => v) hP hD rfl (fun j hj => by show (if j < i then _ else _) = _; rw [if_pos (by omega)])
        have hP : va_P D vwCl [(h0, .inl (cI, n, .inl (fun _ => v)))] H := hP
        have hD : va_D A [(h0, .inl (cI, n, .inl (fun _ => v)))] := hD
        have hP9 := xs_P_sub (w := [(h0, .inl (cI, n, .inl (fun _ => v)))]) hP [0] rfl
        have hD9 := hD.sub (ws' := [(h0, .inl (cI, n, .inl (fun _ => v)))]) [0] (by decide) rfl
        exact xw_vret () hx hb hr hlocks d_AR_fill_20 (rfl) (trivial) hAe hP9 hD9 hS (Nat.le_of_ble_eq_true rfl) (Nat.le_of_ble_eq_true rfl)
      · exact absurd (nI_le (a := n) (b := i) (by omega) (by omega)) c_7
    | succ fu ih =>
      intro i H locs ls hi hP hD hS hl
      refine lv_iload_n hx hb d_AR_fill_5 rfl (lv_at hl 1 rfl) ?_
      refine lv_iload_n hx hb d_AR_fill_6 rfl (lv_at hl 0 rfl) ?_
      refine lv_icmp_ge (tgt := 20) hx hb d_AR_fill_7 (by decide) (fun c_7 => ?_) (fun c_7 => ?_)
      · exact absurd c_7 (nI_ge (by omega) (by omega))
      · refine lv_aload_n hx hb d_AR_fill_10 rfl (lv_at hl 2 rfl) ?_
        refine lv_iload_n hx hb d_AR_fill_11 rfl (lv_at hl 1 rfl) ?_
        refine lv_iload_n hx hb d_AR_fill_12 rfl (lv_at hl 3 rfl) ?_
        refine xw_ist hx hb hK hP hD hS 0 0 rfl rfl (by omega) (by omega) d_AR_fill_13 (fun H locs hP hD hS => ?_)
        have hP : va_P D vwCl [(h0, .inl (cI, n, .inl (upd (xs_fl i v f) i v)))] H := hP
        have hD : va_D A [(h0, .inl (cI, n, .inl (upd (xs_fl i v f) i v)))] := hD
        have e_13 : upd (xs_fl i v f) i v = xs_fl (i + 1) v f := xs_fl_s i v f
        rw [e_13] at hP hD
        have hP : va_P D vwCl [(h0, .inl (cI, n, .inl (xs_fl (i + 1) v f)))] H := hP
        have hD : va_D A [(h0, .inl (cI, n, .inl (xs_fl (i + 1) v f)))] := hD
        refine lv_iinc (v := nI (i + 1)) (lv' := [(2, .int (nI (i + 1))), (3, .int (nI n)), (0, .ref h0), (1, .int v)]) hx hb d_AR_fill_14 hl (k := 1) rfl (xs_inc i 1) (by decide) rfl (fun ls hl => ?_)
        refine lv_goto (tgt := 5) hx hb d_AR_fill_17 (by decide) ?_
        exact ih (i + 1) _ _ _ (by omega) (xs_P_sub hP [0] rfl) (hD.sub [0] (by decide) rfl) hS (lv_sub hl [1, 0, 2, 3] rfl)
  exact lp_5 (n) 0 _ _ _ (by omega) hP hD hS (lv_sub hl [0, 1, 2, 3] rfl)
set_option maxHeartbeats 4000000 in
set_option maxRecDepth 100000 in
/-- floorMod by 16 -/
theorem c_floorMod16 (l : Launch) (D : va_G) (cI cB cL : ClassId) (x : Int32)  : xG (σ := Unit) l y_MA_floorMod w_MA_floorMod ({ frames := 0, cells := 0, slots := 0, locals := 0  } : Room) D vwCl (xs_tys cI cB cL) [.int x, .int (nI 16)] [] (fun _ => True) (fun _ => some (.int (x &&& nI 15))) (fun _ => []) := by
  refine xG.of b_MA_floorMod 3 (some .int) (by decide +kernel) rfl (Nat.le_of_ble_eq_true rfl) ?_
  intro p e s m below meth c A ls hAe C0 hP hD hS hl
  obtain ⟨hx, hb, hr, hml, hown, hlocks, hts, hnm, hN, hK, hA⟩ := C0
  have hU : ∀ w ∈ xU, w.before #[.int x, .int (nI 16)] s = true := fun w h => hts w (List.mem_cons_of_mem _ h)
  have hl : lv_has ls 3 [(0, .int x), (1, .int (nI 16))] := hl
  refine lv_iload_n hx hb d_MA_floorMod_0 rfl (lv_at hl 0 rfl) ?_
  refine lv_iload_n hx hb d_MA_floorMod_1 rfl (lv_at hl 1 rfl) ?_
  refine lv_irem hx hb d_MA_floorMod_2 (by decide +kernel) ?_
  refine lv_istore_n (lv' := [(2, .int (x - x / (nI 16) * (nI 16))), (0, .int x), (1, .int (nI 16))]) hx hb d_MA_floorMod_3 rfl hl (by decide) rfl (fun ls hl => ?_)
  refine lv_iload_n hx hb d_MA_floorMod_4 rfl (lv_at hl 1 rfl) ?_
  refine lv_iload_n hx hb d_MA_floorMod_5 rfl (lv_at hl 2 rfl) ?_
  refine lv_ixor hx hb d_MA_floorMod_6 ?_
  refine lv_if_ge (tgt := 18) hx hb d_MA_floorMod_7 (by decide) (fun c_7 => ?_) (fun c_7 => ?_)
  · refine lv_iload_n hx hb d_MA_floorMod_18 rfl (lv_at hl 0 rfl) ?_
    have hP9 := xs_P_sub (w := []) hP [] rfl
    have hD9 := hD.sub (ws' := []) [] (by decide) rfl
    exact xw_iret () hx hb hr hlocks d_MA_floorMod_19 (by first | exact congrArg (fun z => some (Value.int z)) (Eq.symm (xs_floor_p x (nI 16) (nI 15) 4 16 (by decide +kernel) (by decide) (by decide) (by decide) (by decide +kernel) (Or.inl (fun z => absurd ((xs_lt0_xor (y := nI 16) _ (by decide +kernel)).mpr z) (Int32.not_lt.mpr c_7))))) | exact congrArg (fun z => some (Value.int z)) (Eq.symm (xs_floor_p x (nI 16) (nI 15) 4 16 (by decide +kernel) (by decide) (by decide) (by decide) (by decide +kernel) (Or.inr c_11))) | exact congrArg (fun z => some (Value.int z)) (Eq.symm (xs_floor_n x (nI 16) (nI 15) 4 16 (by decide +kernel) (by decide) (by decide) (by decide) (by decide +kernel) ((xs_lt0_xor (y := nI 16) _ (by decide +kernel)).mp (Int32.not_le.mp c_7)) (c_11)))) (trivial) hAe hP9 hD9 hS (Nat.le_of_ble_eq_true rfl) (Nat.le_of_ble_eq_true rfl)
  · refine lv_iload_n hx hb d_MA_floorMod_10 rfl (lv_at hl 0 rfl) ?_
    refine lv_if_eq (tgt := 18) hx hb d_MA_floorMod_11 (by decide) (fun c_11 => ?_) (fun c_11 => ?_)
    · refine lv_iload_n hx hb d_MA_floorMod_18 rfl (lv_at hl 0 rfl) ?_
      have hP9 := xs_P_sub (w := []) hP [] rfl
      have hD9 := hD.sub (ws' := []) [] (by decide) rfl
      exact xw_iret () hx hb hr hlocks d_MA_floorMod_19 (by first | exact congrArg (fun z => some (Value.int z)) (Eq.symm (xs_floor_p x (nI 16) (nI 15) 4 16 (by decide +kernel) (by decide) (by decide) (by decide) (by decide +kernel) (Or.inl (fun z => absurd ((xs_lt0_xor (y := nI 16) _ (by decide +kernel)).mpr z) (Int32.not_lt.mpr c_7))))) | exact congrArg (fun z => some (Value.int z)) (Eq.symm (xs_floor_p x (nI 16) (nI 15) 4 16 (by decide +kernel) (by decide) (by decide) (by decide) (by decide +kernel) (Or.inr c_11))) | exact congrArg (fun z => some (Value.int z)) (Eq.symm (xs_floor_n x (nI 16) (nI 15) 4 16 (by decide +kernel) (by decide) (by decide) (by decide) (by decide +kernel) ((xs_lt0_xor (y := nI 16) _ (by decide +kernel)).mp (Int32.not_le.mp c_7)) (c_11)))) (trivial) hAe hP9 hD9 hS (Nat.le_of_ble_eq_true rfl) (Nat.le_of_ble_eq_true rfl)
    · refine lv_iload_n hx hb d_MA_floorMod_14 rfl (lv_at hl 0 rfl) ?_
      refine lv_iload_n hx hb d_MA_floorMod_15 rfl (lv_at hl 2 rfl) ?_
      refine lv_iadd hx hb d_MA_floorMod_16 ?_
      have hP9 := xs_P_sub (w := []) hP [] rfl
      have hD9 := hD.sub (ws' := []) [] (by decide) rfl
      exact xw_iret () hx hb hr hlocks d_MA_floorMod_17 (by first | exact congrArg (fun z => some (Value.int z)) (Eq.symm (xs_floor_p x (nI 16) (nI 15) 4 16 (by decide +kernel) (by decide) (by decide) (by decide) (by decide +kernel) (Or.inl (fun z => absurd ((xs_lt0_xor (y := nI 16) _ (by decide +kernel)).mpr z) (Int32.not_lt.mpr c_7))))) | exact congrArg (fun z => some (Value.int z)) (Eq.symm (xs_floor_p x (nI 16) (nI 15) 4 16 (by decide +kernel) (by decide) (by decide) (by decide) (by decide +kernel) (Or.inr c_11))) | exact congrArg (fun z => some (Value.int z)) (Eq.symm (xs_floor_n x (nI 16) (nI 15) 4 16 (by decide +kernel) (by decide) (by decide) (by decide) (by decide +kernel) ((xs_lt0_xor (y := nI 16) _ (by decide +kernel)).mp (Int32.not_le.mp c_7)) (c_11)))) (trivial) hAe hP9 hD9 hS (Nat.le_of_ble_eq_true rfl) (Nat.le_of_ble_eq_true rfl)
set_option maxHeartbeats 4000000 in
set_option maxRecDepth 100000 in
/-- floorMod by 8 -/
theorem c_floorMod8 (l : Launch) (D : va_G) (cI cB cL : ClassId) (x : Int32)  : xG (σ := Unit) l y_MA_floorMod w_MA_floorMod ({ frames := 0, cells := 0, slots := 0, locals := 0  } : Room) D vwCl (xs_tys cI cB cL) [.int x, .int (nI 8)] [] (fun _ => True) (fun _ => some (.int (x &&& nI 7))) (fun _ => []) := by
  refine xG.of b_MA_floorMod 3 (some .int) (by decide +kernel) rfl (Nat.le_of_ble_eq_true rfl) ?_
  intro p e s m below meth c A ls hAe C0 hP hD hS hl
  obtain ⟨hx, hb, hr, hml, hown, hlocks, hts, hnm, hN, hK, hA⟩ := C0
  have hU : ∀ w ∈ xU, w.before #[.int x, .int (nI 8)] s = true := fun w h => hts w (List.mem_cons_of_mem _ h)
  have hl : lv_has ls 3 [(0, .int x), (1, .int (nI 8))] := hl
  refine lv_iload_n hx hb d_MA_floorMod_0 rfl (lv_at hl 0 rfl) ?_
  refine lv_iload_n hx hb d_MA_floorMod_1 rfl (lv_at hl 1 rfl) ?_
  refine lv_irem hx hb d_MA_floorMod_2 (by decide +kernel) ?_
  refine lv_istore_n (lv' := [(2, .int (x - x / (nI 8) * (nI 8))), (0, .int x), (1, .int (nI 8))]) hx hb d_MA_floorMod_3 rfl hl (by decide) rfl (fun ls hl => ?_)
  refine lv_iload_n hx hb d_MA_floorMod_4 rfl (lv_at hl 1 rfl) ?_
  refine lv_iload_n hx hb d_MA_floorMod_5 rfl (lv_at hl 2 rfl) ?_
  refine lv_ixor hx hb d_MA_floorMod_6 ?_
  refine lv_if_ge (tgt := 18) hx hb d_MA_floorMod_7 (by decide) (fun c_7 => ?_) (fun c_7 => ?_)
  · refine lv_iload_n hx hb d_MA_floorMod_18 rfl (lv_at hl 0 rfl) ?_
    have hP9 := xs_P_sub (w := []) hP [] rfl
    have hD9 := hD.sub (ws' := []) [] (by decide) rfl
    exact xw_iret () hx hb hr hlocks d_MA_floorMod_19 (by first | exact congrArg (fun z => some (Value.int z)) (Eq.symm (xs_floor_p x (nI 8) (nI 7) 3 8 (by decide +kernel) (by decide) (by decide) (by decide) (by decide +kernel) (Or.inl (fun z => absurd ((xs_lt0_xor (y := nI 8) _ (by decide +kernel)).mpr z) (Int32.not_lt.mpr c_7))))) | exact congrArg (fun z => some (Value.int z)) (Eq.symm (xs_floor_p x (nI 8) (nI 7) 3 8 (by decide +kernel) (by decide) (by decide) (by decide) (by decide +kernel) (Or.inr c_11))) | exact congrArg (fun z => some (Value.int z)) (Eq.symm (xs_floor_n x (nI 8) (nI 7) 3 8 (by decide +kernel) (by decide) (by decide) (by decide) (by decide +kernel) ((xs_lt0_xor (y := nI 8) _ (by decide +kernel)).mp (Int32.not_le.mp c_7)) (c_11)))) (trivial) hAe hP9 hD9 hS (Nat.le_of_ble_eq_true rfl) (Nat.le_of_ble_eq_true rfl)
  · refine lv_iload_n hx hb d_MA_floorMod_10 rfl (lv_at hl 0 rfl) ?_
    refine lv_if_eq (tgt := 18) hx hb d_MA_floorMod_11 (by decide) (fun c_11 => ?_) (fun c_11 => ?_)
    · refine lv_iload_n hx hb d_MA_floorMod_18 rfl (lv_at hl 0 rfl) ?_
      have hP9 := xs_P_sub (w := []) hP [] rfl
      have hD9 := hD.sub (ws' := []) [] (by decide) rfl
      exact xw_iret () hx hb hr hlocks d_MA_floorMod_19 (by first | exact congrArg (fun z => some (Value.int z)) (Eq.symm (xs_floor_p x (nI 8) (nI 7) 3 8 (by decide +kernel) (by decide) (by decide) (by decide) (by decide +kernel) (Or.inl (fun z => absurd ((xs_lt0_xor (y := nI 8) _ (by decide +kernel)).mpr z) (Int32.not_lt.mpr c_7))))) | exact congrArg (fun z => some (Value.int z)) (Eq.symm (xs_floor_p x (nI 8) (nI 7) 3 8 (by decide +kernel) (by decide) (by decide) (by decide) (by decide +kernel) (Or.inr c_11))) | exact congrArg (fun z => some (Value.int z)) (Eq.symm (xs_floor_n x (nI 8) (nI 7) 3 8 (by decide +kernel) (by decide) (by decide) (by decide) (by decide +kernel) ((xs_lt0_xor (y := nI 8) _ (by decide +kernel)).mp (Int32.not_le.mp c_7)) (c_11)))) (trivial) hAe hP9 hD9 hS (Nat.le_of_ble_eq_true rfl) (Nat.le_of_ble_eq_true rfl)
    · refine lv_iload_n hx hb d_MA_floorMod_14 rfl (lv_at hl 0 rfl) ?_
      refine lv_iload_n hx hb d_MA_floorMod_15 rfl (lv_at hl 2 rfl) ?_
      refine lv_iadd hx hb d_MA_floorMod_16 ?_
      have hP9 := xs_P_sub (w := []) hP [] rfl
      have hD9 := hD.sub (ws' := []) [] (by decide) rfl
      exact xw_iret () hx hb hr hlocks d_MA_floorMod_17 (by first | exact congrArg (fun z => some (Value.int z)) (Eq.symm (xs_floor_p x (nI 8) (nI 7) 3 8 (by decide +kernel) (by decide) (by decide) (by decide) (by decide +kernel) (Or.inl (fun z => absurd ((xs_lt0_xor (y := nI 8) _ (by decide +kernel)).mpr z) (Int32.not_lt.mpr c_7))))) | exact congrArg (fun z => some (Value.int z)) (Eq.symm (xs_floor_p x (nI 8) (nI 7) 3 8 (by decide +kernel) (by decide) (by decide) (by decide) (by decide +kernel) (Or.inr c_11))) | exact congrArg (fun z => some (Value.int z)) (Eq.symm (xs_floor_n x (nI 8) (nI 7) 3 8 (by decide +kernel) (by decide) (by decide) (by decide) (by decide +kernel) ((xs_lt0_xor (y := nI 8) _ (by decide +kernel)).mp (Int32.not_le.mp c_7)) (c_11)))) (trivial) hAe hP9 hD9 hS (Nat.le_of_ble_eq_true rfl) (Nat.le_of_ble_eq_true rfl)
set_option maxHeartbeats 4000000 in
set_option maxRecDepth 100000 in
/-- oneOf -/
theorem c_oneOf (l : Launch) (D : va_G) (cI cB cL : ClassId) (n : Nat) (x : Int32) (h0 : 0 < n) (hn : n ≤ 16) : xG (σ := Int32) l y_X_oneOf w_X_oneOf ({ frames := 0, cells := 0, slots := 0, locals := 0  } : Room) D vwCl (xs_tys cI cB cL) [.int (nI n), .int x] [] (fun v => True) (fun v => some (.int v)) (fun v => []) := by
  refine xG.of b_X_oneOf 2 (some .int) (by decide +kernel) rfl (Nat.le_of_ble_eq_true rfl) ?_
  intro p e s m below meth c A ls hAe C0 hP hD hS hl
  obtain ⟨hx, hb, hr, hml, hown, hlocks, hts, hnm, hN, hK, hA⟩ := C0
  have hU : ∀ w ∈ xU, w.before #[.int (nI n), .int x] s = true := fun w h => hts w (List.mem_cons_of_mem _ h)
  have hl : lv_has ls 2 [(0, .int (nI n)), (1, .int x)] := hl
  refine lv_iload_n hx hb d_X_oneOf_0 rfl (lv_at hl 0 rfl) ?_
  refine lv_if_le (tgt := 13) hx hb d_X_oneOf_1 (by decide) (fun c_1 => ?_) (fun c_1 => ?_)
  · exact absurd c_1 (nI_nle h0 (by omega))
  · refine lv_iload_n hx hb d_X_oneOf_4 rfl (lv_at hl 1 rfl) ?_
    refine lv_ldc (v := nI 65536) hx hb hown (hU _ uw_201) d_X_oneOf_5 ?_
    refine lv_idiv hx hb d_X_oneOf_7 (by decide +kernel) ?_
    refine lv_iload_n hx hb d_X_oneOf_8 rfl (lv_at hl 0 rfl) ?_
    refine lv_irem hx hb d_X_oneOf_9 (nI_ne0 h0 (by omega)) ?_
    refine lv_goto (tgt := 14) hx hb d_X_oneOf_10 (by decide) ?_
    have hP9 := xs_P_sub (w := []) hP [] rfl
    have hD9 := hD.sub (ws' := []) [] (by decide) rfl
    exact xw_iret ((x / (nI 65536)) - (x / (nI 65536)) / (nI n) * (nI n)) hx hb hr hlocks d_X_oneOf_14 (rfl) (trivial) hAe hP9 hD9 hS (Nat.le_of_ble_eq_true rfl) (Nat.le_of_ble_eq_true rfl)
set_option maxHeartbeats 4000000 in
set_option maxRecDepth 100000 in
/-- fillFlags: all places are v -/
theorem c_fillFlags (l : Launch) (D : va_G) (cI cB cL : ClassId) (h0 : Nat) (n : Nat) (f : Nat → Int32) (v : Int32) (hn : n ≤ 1000) (hv : v = 0 ∨ v = 1) : xG (σ := Unit) l y_X_fillFlags w_X_fillFlags ({ frames := 0, cells := 0, slots := 0, locals := 0  } : Room) D vwCl (xs_tys cI cB cL) [.ref h0, .int v] [(h0, .inl (cB, n, .inl f))] (fun _ => True) (fun _ => none) (fun _ => [(h0, .inl (cB, n, .inl (fun _ => v)))]) := by
  refine xG.of b_X_fillFlags 3 (none) (by decide +kernel) rfl (Nat.le_of_ble_eq_true rfl) ?_
  intro p e s m below meth c A ls hAe C0 hP hD hS hl
  obtain ⟨hx, hb, hr, hml, hown, hlocks, hts, hnm, hN, hK, hA⟩ := C0
  have hU : ∀ w ∈ xU, w.before #[.ref h0, .int v] s = true := fun w h => hts w (List.mem_cons_of_mem _ h)
  have hl : lv_has ls 3 [(0, .ref h0), (1, .int v)] := hl
  refine lv_iconst (v := nI 0) hx hb d_X_fillFlags_0 (by decide +kernel) ?_
  refine lv_istore_n (lv' := [(2, .int (nI 0)), (0, .ref h0), (1, .int v)]) hx hb d_X_fillFlags_1 rfl hl (by decide) rfl (fun ls hl => ?_)
  obtain ⟨hP, hD⟩ := xs_refill (q0 := 0) (g := xs_fl 0 v f) hP hD rfl (fun j _ => by rw [xs_fl_0])
  have hP : va_P D vwCl [(h0, .inl (cB, n, .inl (xs_fl 0 v f)))] s.heap := hP
  have hD : va_D A [(h0, .inl (cB, n, .inl (xs_fl 0 v f)))] := hD
  refine W.widen (k := 0) (n := 0) (Nat.le_of_ble_eq_true rfl) (Nat.le_of_ble_eq_true rfl) ?_
  have lp_2 : ∀ (fu : Nat) (i : Nat) (H : Heap) (locs : List Loc) (ls : Array Slot), (i + fu = n) → va_P D vwCl [(h0, .inl (cB, n, .inl (xs_fl i v f)))] H → va_D A [(h0, .inl (cB, n, .inl (xs_fl i v f)))] → va_S A s.heap H locs → lv_has ls 3 [(2, .int (nI i)), (0, .ref h0), (1, .int v)] → W p l e (headSpec w_X_fillFlags ({ frames := 0, cells := 0, slots := 0, locals := 0  } : Room)).room s m #[.ref h0, .int v] below meth c H locs 0 0 (xZ (σ := Unit) below #[.ref h0, .int v] s D vwCl [(h0, .inl (cB, n, .inl f))] s.heap.size ({ frames := 0, cells := 0, slots := 0, locals := 0  } : Room).cells ({ frames := 0, cells := 0, slots := 0, locals := 0  } : Room).slots (fun _ => True) (fun _ => none) (fun _ => [(h0, .inl (cB, n, .inl (fun _ => v)))])) (F0 m 2 ls []) := by
    intro fu
    induction fu with
    | zero =>
      intro i H locs ls hi hP hD hS hl
      refine lv_iload_n hx hb d_X_fillFlags_2 rfl (lv_at hl 0 rfl) ?_
      refine lv_aload_n hx hb d_X_fillFlags_3 rfl (lv_at hl 1 rfl) ?_
      refine va_alen hx hb hK hP 0 1 rfl rfl (v := nI n) rfl d_X_fillFlags_4 ?_
      refine lv_icmp_ge (tgt := 18) hx hb d_X_fillFlags_5 (by decide) (fun c_5 => ?_) (fun c_5 => ?_)
      · obtain ⟨hP, hD⟩ := xs_refill (q0 := 0) (g := fun _ => v) hP hD rfl (fun j hj => by show (if j < i then _ else _) = _; rw [if_pos (by omega)])
        have hP : va_P D vwCl [(h0, .inl (cB, n, .inl (fun _ => v)))] H := hP
        have hD : va_D A [(h0, .inl (cB, n, .inl (fun _ => v)))] := hD
        have hP9 := xs_P_sub (w := [(h0, .inl (cB, n, .inl (fun _ => v)))]) hP [0] rfl
        have hD9 := hD.sub (ws' := [(h0, .inl (cB, n, .inl (fun _ => v)))]) [0] (by decide) rfl
        exact xw_vret () hx hb hr hlocks d_X_fillFlags_18 (rfl) (trivial) hAe hP9 hD9 hS (Nat.le_of_ble_eq_true rfl) (Nat.le_of_ble_eq_true rfl)
      · exact absurd (nI_le (a := n) (b := i) (by omega) (by omega)) c_5
    | succ fu ih =>
      intro i H locs ls hi hP hD hS hl
      refine lv_iload_n hx hb d_X_fillFlags_2 rfl (lv_at hl 0 rfl) ?_
      refine lv_aload_n hx hb d_X_fillFlags_3 rfl (lv_at hl 1 rfl) ?_
      refine va_alen hx hb hK hP 0 1 rfl rfl (v := nI n) rfl d_X_fillFlags_4 ?_
      refine lv_icmp_ge (tgt := 18) hx hb d_X_fillFlags_5 (by decide) (fun c_5 => ?_) (fun c_5 => ?_)
      · exact absurd c_5 (nI_ge (by omega) (by omega))
      · refine lv_aload_n hx hb d_X_fillFlags_8 rfl (lv_at hl 1 rfl) ?_
        refine lv_iload_n hx hb d_X_fillFlags_9 rfl (lv_at hl 0 rfl) ?_
        refine lv_iload_n hx hb d_X_fillFlags_10 rfl (lv_at hl 2 rfl) ?_
        refine xw_zst hx hb hK hP hD hS 0 1 rfl rfl (hv) (by omega) (by omega) d_X_fillFlags_11 (fun H locs hP hD hS => ?_)
        have hP : va_P D vwCl [(h0, .inl (cB, n, .inl (upd (xs_fl i v f) i v)))] H := hP
        have hD : va_D A [(h0, .inl (cB, n, .inl (upd (xs_fl i v f) i v)))] := hD
        have e_11 : upd (xs_fl i v f) i v = xs_fl (i + 1) v f := xs_fl_s i v f
        rw [e_11] at hP hD
        have hP : va_P D vwCl [(h0, .inl (cB, n, .inl (xs_fl (i + 1) v f)))] H := hP
        have hD : va_D A [(h0, .inl (cB, n, .inl (xs_fl (i + 1) v f)))] := hD
        refine lv_iinc (v := nI (i + 1)) (lv' := [(2, .int (nI (i + 1))), (0, .ref h0), (1, .int v)]) hx hb d_X_fillFlags_12 hl (k := 0) rfl (xs_inc i 1) (by decide) rfl (fun ls hl => ?_)
        refine lv_goto (tgt := 2) hx hb d_X_fillFlags_15 (by decide) ?_
        exact ih (i + 1) _ _ _ (by omega) (xs_P_sub hP [0] rfl) (hD.sub [0] (by decide) rfl) hS (lv_sub hl [0, 1, 2] rfl)
  exact lp_2 (n) 0 _ _ _ (by omega) hP hD hS (lv_sub hl [0, 1, 2] rfl)
set_option maxHeartbeats 4000000 in
set_option maxRecDepth 100000 in
/-- numberBehind -/
theorem c_numberBehind (l : Launch) (D : va_G) (cI cB cL : ClassId) (x : Int32)  : xG (σ := Unit) l y_X_numberBehind w_X_numberBehind ({ frames := 0, cells := 0, slots := 0, locals := 0  } : Room) D vwCl (xs_tys cI cB cL) [.int x] [] (fun _ => True) (fun _ => some (.int ((nI 1103515245 * x + nI 12345) &&& nI 2147483647))) (fun _ => []) := by
  refine xG.of b_X_numberBehind 1 (some .int) (by decide +kernel) rfl (Nat.le_of_ble_eq_true rfl) ?_
  intro p e s m below meth c A ls hAe C0 hP hD hS hl
  obtain ⟨hx, hb, hr, hml, hown, hlocks, hts, hnm, hN, hK, hA⟩ := C0
  have hU : ∀ w ∈ xU, w.before #[.int x] s = true := fun w h => hts w (List.mem_cons_of_mem _ h)
  have hl : lv_has ls 1 [(0, .int x)] := hl
  refine lv_ldc (v := nI 1103515245) hx hb hown (hU _ uw_196) d_X_numberBehind_0 ?_
  refine lv_iload_n hx hb d_X_numberBehind_2 rfl (lv_at hl 0 rfl) ?_
  refine lv_imul hx hb d_X_numberBehind_3 ?_
  refine lv_sipush (v := nI 12345) hx hb d_X_numberBehind_4 (by decide +kernel) ?_
  refine lv_iadd hx hb d_X_numberBehind_7 ?_
  refine lv_ldc (v := nI 2147483647) hx hb hown (hU _ uw_197) d_X_numberBehind_8 ?_
  refine lv_iand hx hb d_X_numberBehind_10 ?_
  have hP9 := xs_P_sub (w := []) hP [] rfl
  have hD9 := hD.sub (ws' := []) [] (by decide) rfl
  exact xw_iret () hx hb hr hlocks d_X_numberBehind_11 (rfl) (trivial) hAe hP9 hD9 hS (Nat.le_of_ble_eq_true rfl) (Nat.le_of_ble_eq_true rfl)
set_option maxHeartbeats 4000000 in
set_option maxRecDepth 100000 in
/-- has, when there are no states -/
theorem c_Net_has0 (l : Launch) (D : va_G) (cI cB cL : ClassId) (h0 : Nat) (mv : Nat) (q1 : Nat) (q2 : Nat) (k : Int32)  : xG (σ := Unit) l y_NET_has w_NET_has ({ frames := 0, cells := 0, slots := 0, locals := 0  } : Room) D vwCl (xs_tys cI cB cL) [.ref h0, .int k] [(h0, .inr (1, [.int (nI 0), .int (nI mv), .ref q1, .ref q2]))] (fun _ => True) (fun _ => some (.int (nI 0))) (fun _ => [(h0, .inr (1, [.int (nI 0), .int (nI mv), .ref q1, .ref q2]))]) := by
  refine xG.of b_NET_has 2 (some .boolean) (by decide +kernel) rfl (Nat.le_of_ble_eq_true rfl) ?_
  intro p e s m below meth c A ls hAe C0 hP hD hS hl
  obtain ⟨hx, hb, hr, hml, hown, hlocks, hts, hnm, hN, hK, hA⟩ := C0
  have hU : ∀ w ∈ xU, w.before #[.ref h0, .int k] s = true := fun w h => hts w (List.mem_cons_of_mem _ h)
  have hl : lv_has ls 2 [(0, .ref h0), (1, .int k)] := hl
  refine lv_iload_n hx hb d_NET_has_0 rfl (lv_at hl 1 rfl) ?_
  refine lv_if_lt (tgt := 16) hx hb d_NET_has_1 (by decide) (fun c_1 => ?_) (fun c_1 => ?_)
  · refine lv_iconst (v := nI 0) hx hb d_NET_has_16 (by decide +kernel) ?_
    have hP9 := xs_P_sub (w := [(h0, .inr (1, [.int (nI 0), .int (nI mv), .ref q1, .ref q2]))]) hP [0] rfl
    have hD9 := hD.sub (ws' := [(h0, .inr (1, [.int (nI 0), .int (nI mv), .ref q1, .ref q2]))]) [0] (by decide) rfl
    exact xw_zret () (by first | exact Or.inl rfl | exact Or.inr rfl) hx hb hr hlocks d_NET_has_17 (rfl) (trivial) hAe hP9 hD9 hS (Nat.le_of_ble_eq_true rfl) (Nat.le_of_ble_eq_true rfl)
  · refine lv_iload_n hx hb d_NET_has_4 rfl (lv_at hl 1 rfl) ?_
    refine lv_aload_n hx hb d_NET_has_5 rfl (lv_at hl 0 rfl) ?_
    refine va_get (D := D) (ci := 1) (v := .int (nI 0)) (C := R_NET) (T := T_NET) (N := 4) hx hb hU iw_NET hown hK hP 0 rfl rfl 0 (by decide) (hU _ uw_45) (fun _ h9 => h9) rfl d_NET_has_6 ?_
    refine lv_icmp_ge (tgt := 16) hx hb d_NET_has_9 (by decide) (fun c_9 => ?_) (fun c_9 => ?_)
    · refine lv_iconst (v := nI 0) hx hb d_NET_has_16 (by decide +kernel) ?_
      have hP9 := xs_P_sub (w := [(h0, .inr (1, [.int (nI 0), .int (nI mv), .ref q1, .ref q2]))]) hP [0] rfl
      have hD9 := hD.sub (ws' := [(h0, .inr (1, [.int (nI 0), .int (nI mv), .ref q1, .ref q2]))]) [0] (by decide) rfl
      exact xw_zret () (by first | exact Or.inl rfl | exact Or.inr rfl) hx hb hr hlocks d_NET_has_17 (rfl) (trivial) hAe hP9 hD9 hS (Nat.le_of_ble_eq_true rfl) (Nat.le_of_ble_eq_true rfl)
    · exact absurd c_9 (fun z => z (by first | exact Int32.not_lt.mp (fun q => xs_no0 c_1 q)))
end
