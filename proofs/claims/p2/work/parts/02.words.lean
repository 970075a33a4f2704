/-- the tables' words that every state of the run keeps -/
def xU : List Cond := lw_tbl.filter goodWord
theorem xU_of {w : Cond} (i : Nat) (h : lw_tbl[i]? = some w) (hg : goodWord w = true) : w ∈ xU := List.mem_filter.mpr ⟨List.mem_of_getElem? h, hg⟩
theorem xU_all (ws : List Cond) (ps : List Nat) (hp : ws = ps.filterMap (fun i => lw_tbl[i]?)) (h : ws.all goodWord = true) : ∀ w ∈ ws, w ∈ xU := by
  intro w hw
  have h1 := List.all_eq_true.mp h w hw
  rw [hp] at hw
  obtain ⟨i, -, hi⟩ := List.mem_filterMap.mp hw
  exact xU_of i hi h1
theorem xU_good {w : Cond} (h : w ∈ xU) : (w.onTables && w.keeps) = true ∨ ∃ ty, w = .arrayClass ty := good_of_word (List.mem_filter.mp h).2
theorem xs_good {y : MethodName} {b : ByteArray} {n : Nat} {r : Option FieldType} (hc : Cond.code y b n r ∈ xU) : GoodIn xU (Cond.code y b n r :: xU) := fun w h => by
  rcases List.mem_cons.mp h with e | h
  · rw [e]; exact ⟨hc, xU_good hc⟩
  · exact ⟨h, xU_good h⟩
theorem xs_goodV {own C : String} {idx : Nat} {y : MethodName} {b : ByteArray} {n : Nat} {r : Option FieldType} (h1 : Cond.methodLink own idx y ∈ xU) (h2 : Cond.instanceMethod y ∈ xU) (h3 : Cond.selects C y y ∈ xU) (h4 : Cond.initialized C ∈ xU) (hc : Cond.code y b n r ∈ xU) : GoodIn xU (wsV own idx C y (Cond.code y b n r :: xU)) := fun w h => by
  unfold wsV at h
  rcases List.mem_append.mp h with h | h
  · simp only [List.mem_cons, List.not_mem_nil, or_false] at h
    rcases h with e | e | e | e <;> rw [e]
    · exact ⟨h1, xU_good h1⟩
    · exact ⟨h2, xU_good h2⟩
    · exact ⟨h3, xU_good h3⟩
    · exact ⟨h4, xU_good h4⟩
  · exact xs_good hc w h
theorem xs_goodS {own : String} {idx : Nat} {y : MethodName} {b : ByteArray} {n : Nat} {r : Option FieldType} (h1 : Cond.methodLink own idx y ∈ xU) (h2 : Cond.static y ∈ xU) (h4 : Cond.initialized y.cls ∈ xU) (hc : Cond.code y b n r ∈ xU) : GoodIn xU (va_wsS own idx y (Cond.code y b n r :: xU)) := fun w h => by
  unfold va_wsS at h
  rcases List.mem_append.mp h with h | h
  · simp only [List.mem_cons, List.not_mem_nil, or_false] at h
    rcases h with e | e | e <;> rw [e]
    · exact ⟨h1, xU_good h1⟩
    · exact ⟨h2, xU_good h2⟩
    · exact ⟨h4, xU_good h4⟩
  · exact xs_good hc w h
/-- words of nest mates, of casts, of declarations: kept too, but not by the same rule -/
def xs_nk : Cond → Bool
  | .fieldLinkNest _ _ _ _ _ _ => true
  | .methodLinkNest _ _ _ _ => true
  | .declares _ => true
  | .castable _ _ => true
  | .arrayOver (.array _) => true
  | _ => false
def xs_NW : List Cond := lw_tbl.filter xs_nk
theorem xs_NW_of {w : Cond} (i : Nat) (h : lw_tbl[i]? = some w) (hg : xs_nk w = true) : w ∈ xs_NW := List.mem_filter.mpr ⟨List.mem_of_getElem? h, hg⟩
def xs_N (U : State) : Prop := ∀ w ∈ xs_NW, va_Nw w U
theorem xs_nk_warm {w : Cond} (hk : xs_nk w = true) {s U : State} (hW : s.WarmedH U.vm) (h : va_Nw w s) : va_Nw w U := by
  cases w with
  | fieldLinkNest => exact va_Nw.warmF hW h
  | methodLinkNest => exact va_Nw.warmM hW h
  | declares => exact va_Nw.warmD hW h
  | castable => exact va_Nw.warmC hW h
  | arrayOver t =>
    cases t with
    | array t => exact Jvm.Stand.arrayOver_alikeB (args' := #[]) hW.alike h
    | _ => exact Bool.noConfusion hk
  | _ => exact Bool.noConfusion hk
theorem xs_N.warm {s U : State} (hW : s.WarmedH U.vm) (h : xs_N s) : xs_N U := fun w hw => xs_nk_warm (List.mem_filter.mp hw).2 hW (h w hw)
def xs_strs : List (Nat × String) := [(47, "there are 200 states"), (65, "no such state"), (71, "there are 600 moves"), (81, "no such worker"), (84, "no such level or turn"), (94, "twenty failings are told"), (102, "no states"), (129, "no such state on a way"), (157, "no such thing of a worker"), (168, "no such failing"), (179, "no such thing of a failing"), (183, "no such level")]
theorem iw_X : ∀ w ∈ u_ws R_X T_X 4, w ∈ xU := xU_all _ [341, 343, 345, 347] (by decide +kernel) (by decide +kernel)
theorem iw_NET : ∀ w ∈ u_ws R_NET T_NET 4, w ∈ xU := xU_all _ [85, 87, 89, 91] (by decide +kernel) (by decide +kernel)
theorem iw_FP : ∀ w ∈ u_ws R_FP T_FP 4, w ∈ xU := xU_all _ [106, 108, 110, 112] (by decide +kernel) (by decide +kernel)
theorem iw_FL : ∀ w ∈ u_ws R_FL T_FL 4, w ∈ xU := xU_all _ [195, 197, 199, 201] (by decide +kernel) (by decide +kernel)
theorem iw_CR : ∀ w ∈ u_ws R_CR T_CR 8, w ∈ xU := xU_all _ [252, 254, 256, 258, 260, 262, 264, 266] (by decide +kernel) (by decide +kernel)
theorem iw_QU : ∀ w ∈ u_ws R_QU T_QU 5, w ∈ xU := xU_all _ [284, 286, 288, 290, 292] (by decide +kernel) (by decide +kernel)
theorem iw_LI : ∀ w ∈ u_ws R_LI T_LI 6, w ∈ xU := xU_all _ [132, 134, 136, 138, 140, 142] (by decide +kernel) (by decide +kernel)
theorem iw_LE : ∀ w ∈ u_ws R_LE T_LE 5, w ∈ xU := xU_all _ [169, 171, 173, 175, 177] (by decide +kernel) (by decide +kernel)
theorem iw_WA : ∀ w ∈ u_ws R_WA T_WA 1, w ∈ xU := xU_all _ [211] (by decide +kernel) (by decide +kernel)
theorem iw_SE : ∀ w ∈ u_ws R_SE T_SE 11, w ∈ xU := xU_all _ [314, 316, 318, 320, 322, 324, 326, 328, 330, 332, 334] (by decide +kernel) (by decide +kernel)
theorem iw_MO : ∀ w ∈ u_ws R_MO T_MO 36, w ∈ xU := xU_all _ [789, 791, 793, 795, 797, 799, 801, 803, 805, 807, 809, 811, 813, 815, 817, 819, 821, 823, 825, 827, 829, 831, 833, 835, 837, 839, 841, 843, 845, 847, 849, 851, 853, 855, 857, 859] (by decide +kernel) (by decide +kernel)
theorem uw_m2 : Cond.selects "ExploreShares$FailPlan" ({ cls := "ExploreShares$FailPlan", name := "takeBack", desc := "(I)V" } : MethodName) ({ cls := "ExploreShares$FailPlan", name := "takeBack", desc := "(I)V" } : MethodName) ∈ xU := xU_of 1 (by decide +kernel) (by decide +kernel)
theorem uw_1 : (Cond.initialized "ExploreShares") ∈ xU := xU_of 31 (by decide +kernel) (by decide +kernel)
theorem uw_5 : (Cond.initialized "ExploreShares$FailPlan") ∈ xU := xU_of 35 (by decide +kernel) (by decide +kernel)
theorem uw_7 : (Cond.initialized "ExploreShares$Levels") ∈ xU := xU_of 37 (by decide +kernel) (by decide +kernel)
theorem uw_8 : (Cond.initialized "java/util/Arrays") ∈ xU := xU_of 38 (by decide +kernel) (by decide +kernel)
theorem uw_45 : (Cond.fieldLink "ExploreShares$Net" (18 : Nat) "ExploreShares$Net" "states" "I") ∈ xU := xU_of 75 (by decide +kernel) (by decide +kernel)
theorem uw_48 : (Cond.fieldLink "ExploreShares$Net" (22 : Nat) "ExploreShares$Net" "moves" "I") ∈ xU := xU_of 78 (by decide +kernel) (by decide +kernel)
theorem uw_49 : (Cond.fieldLink "ExploreShares$Net" (9 : Nat) "ExploreShares$Net" "begin" "[I") ∈ xU := xU_of 79 (by decide +kernel) (by decide +kernel)
theorem uw_52 : (Cond.fieldLink "ExploreShares$Net" (15 : Nat) "ExploreShares$Net" "target" "[I") ∈ xU := xU_of 82 (by decide +kernel) (by decide +kernel)
theorem uw_71 : (Cond.fieldLink "ExploreShares$FailPlan" (9 : Nat) "ExploreShares$FailPlan" "worker" "[I") ∈ xU := xU_of 101 (by decide +kernel) (by decide +kernel)
theorem uw_72 : (Cond.fieldLink "ExploreShares$FailPlan" (15 : Nat) "ExploreShares$FailPlan" "level" "[I") ∈ xU := xU_of 102 (by decide +kernel) (by decide +kernel)
theorem uw_73 : (Cond.fieldLink "ExploreShares$FailPlan" (18 : Nat) "ExploreShares$FailPlan" "turn" "[I") ∈ xU := xU_of 103 (by decide +kernel) (by decide +kernel)
theorem uw_74 : (Cond.fieldLink "ExploreShares$FailPlan" (21 : Nat) "ExploreShares$FailPlan" "told" "I") ∈ xU := xU_of 104 (by decide +kernel) (by decide +kernel)
theorem uw_93 : (Cond.fieldLink "ExploreShares$Lists" (11 : Nat) "ExploreShares$Lists" "list" "[[I") ∈ xU := xU_of 123 (by decide +kernel) (by decide +kernel)
theorem uw_94 : (Cond.fieldLink "ExploreShares$Lists" (16 : Nat) "ExploreShares$Lists" "listed" "[I") ∈ xU := xU_of 124 (by decide +kernel) (by decide +kernel)
theorem uw_95 : (Cond.fieldLink "ExploreShares$Lists" (20 : Nat) "ExploreShares$Lists" "at" "[I") ∈ xU := xU_of 125 (by decide +kernel) (by decide +kernel)
theorem uw_96 : (Cond.fieldLink "ExploreShares$Lists" (23 : Nat) "ExploreShares$Lists" "movesDone" "[I") ∈ xU := xU_of 126 (by decide +kernel) (by decide +kernel)
theorem uw_98 : (Cond.fieldLink "ExploreShares$Lists" (26 : Nat) "ExploreShares$Lists" "lookedAt" "[Z") ∈ xU := xU_of 128 (by decide +kernel) (by decide +kernel)
theorem uw_100 : (Cond.fieldLink "ExploreShares$Lists" (30 : Nat) "ExploreShares$Lists" "turns" "[I") ∈ xU := xU_of 130 (by decide +kernel) (by decide +kernel)
theorem uw_122 : (Cond.methodLink "ExploreShares$Levels" (25 : Nat) ({ cls := "java/util/Arrays", name := "fill", desc := "([II)V" } : MethodName)) ∈ xU := xU_of 152 (by decide +kernel) (by decide +kernel)
theorem uw_123 : (Cond.static ({ cls := "java/util/Arrays", name := "fill", desc := "([II)V" } : MethodName)) ∈ xU := xU_of 153 (by decide +kernel) (by decide +kernel)
theorem uw_124 : (Cond.code ({ cls := "java/util/Arrays", name := "fill", desc := "([II)V" } : MethodName) prog_22_method_103_code (4 : Nat) (none : Option Jvm.ClassFile.FieldType)) ∈ xU := xU_of 154 (by decide +kernel) (by decide +kernel)
theorem uw_125 : (Cond.fieldLink "ExploreShares$Levels" (9 : Nat) "ExploreShares$Levels" "levelOf" "[I") ∈ xU := xU_of 155 (by decide +kernel) (by decide +kernel)
theorem uw_128 : (Cond.fieldLink "ExploreShares$Levels" (15 : Nat) "ExploreShares$Levels" "order" "[I") ∈ xU := xU_of 158 (by decide +kernel) (by decide +kernel)
theorem uw_131 : (Cond.fieldLink "ExploreShares$Levels" (18 : Nat) "ExploreShares$Levels" "begin" "[I") ∈ xU := xU_of 161 (by decide +kernel) (by decide +kernel)
theorem uw_135 : (Cond.fieldLink "ExploreShares$Levels" (31 : Nat) "ExploreShares$Levels" "levels" "I") ∈ xU := xU_of 165 (by decide +kernel) (by decide +kernel)
theorem uw_138 : (Cond.fieldLink "ExploreShares$Levels" (21 : Nat) "ExploreShares$Levels" "found" "[Z") ∈ xU := xU_of 168 (by decide +kernel) (by decide +kernel)
theorem uw_156 : (Cond.fieldLink "ExploreShares$FailLog" (9 : Nat) "ExploreShares$FailLog" "worker" "[I") ∈ xU := xU_of 186 (by decide +kernel) (by decide +kernel)
theorem uw_158 : (Cond.fieldLink "ExploreShares$FailLog" (15 : Nat) "ExploreShares$FailLog" "level" "[I") ∈ xU := xU_of 188 (by decide +kernel) (by decide +kernel)
theorem uw_160 : (Cond.fieldLink "ExploreShares$FailLog" (18 : Nat) "ExploreShares$FailLog" "turnsBefore" "[I") ∈ xU := xU_of 190 (by decide +kernel) (by decide +kernel)
theorem uw_162 : (Cond.fieldLink "ExploreShares$FailLog" (21 : Nat) "ExploreShares$FailLog" "happened" "I") ∈ xU := xU_of 192 (by decide +kernel) (by decide +kernel)
theorem uw_191 : (Cond.static ({ cls := "ExploreShares", name := "fillFlags", desc := "([ZZ)V" } : MethodName)) ∈ xU := xU_of 221 (by decide +kernel) (by decide +kernel)
theorem uw_192 : (Cond.code ({ cls := "ExploreShares", name := "fillFlags", desc := "([ZZ)V" } : MethodName) prog_1_method_16_code (3 : Nat) (none : Option Jvm.ClassFile.FieldType)) ∈ xU := xU_of 222 (by decide +kernel) (by decide +kernel)
theorem uw_202 : (Cond.fieldLink "ExploreShares$Crew" (28 : Nat) "ExploreShares$Crew" "workers" "I") ∈ xU := xU_of 232 (by decide +kernel) (by decide +kernel)
theorem uw_205 : (Cond.fieldLink "ExploreShares$Crew" (9 : Nat) "ExploreShares$Crew" "firstOwner" "[I") ∈ xU := xU_of 235 (by decide +kernel) (by decide +kernel)
theorem uw_206 : (Cond.fieldLink "ExploreShares$Crew" (15 : Nat) "ExploreShares$Crew" "live" "[Z") ∈ xU := xU_of 236 (by decide +kernel) (by decide +kernel)
theorem uw_208 : (Cond.fieldLink "ExploreShares$Crew" (19 : Nat) "ExploreShares$Crew" "turns" "[I") ∈ xU := xU_of 238 (by decide +kernel) (by decide +kernel)
theorem uw_210 : (Cond.fieldLink "ExploreShares$Crew" (22 : Nat) "ExploreShares$Crew" "taken" "[I") ∈ xU := xU_of 240 (by decide +kernel) (by decide +kernel)
theorem uw_213 : (Cond.fieldLink "ExploreShares$Crew" (25 : Nat) "ExploreShares$Crew" "stalls" "[I") ∈ xU := xU_of 243 (by decide +kernel) (by decide +kernel)
theorem uw_216 : (Cond.fieldLink "ExploreShares$Crew" (32 : Nat) "ExploreShares$Crew" "liveWorkers" "I") ∈ xU := xU_of 246 (by decide +kernel) (by decide +kernel)
theorem uw_219 : (Cond.fieldLink "ExploreShares$Crew" (53 : Nat) "ExploreShares$Crew" "allTurns" "I") ∈ xU := xU_of 249 (by decide +kernel) (by decide +kernel)
theorem uw_246 : (Cond.fieldLink "ExploreShares$Queues" (23 : Nat) "ExploreShares$Queues" "room" "I") ∈ xU := xU_of 276 (by decide +kernel) (by decide +kernel)
theorem uw_248 : (Cond.fieldLink "ExploreShares$Queues" (11 : Nat) "ExploreShares$Queues" "ring" "[[I") ∈ xU := xU_of 278 (by decide +kernel) (by decide +kernel)
theorem uw_249 : (Cond.fieldLink "ExploreShares$Queues" (16 : Nat) "ExploreShares$Queues" "first" "[I") ∈ xU := xU_of 279 (by decide +kernel) (by decide +kernel)
theorem uw_250 : (Cond.fieldLink "ExploreShares$Queues" (20 : Nat) "ExploreShares$Queues" "held" "[I") ∈ xU := xU_of 280 (by decide +kernel) (by decide +kernel)
theorem uw_252 : (Cond.fieldLink "ExploreShares$Queues" (33 : Nat) "ExploreShares$Queues" "most" "I") ∈ xU := xU_of 282 (by decide +kernel) (by decide +kernel)
theorem uw_416 : (Cond.methodLink "ExploreShares$Crew" (47 : Nat) ({ cls := "java/util/Arrays", name := "fill", desc := "([II)V" } : MethodName)) ∈ xU := xU_of 446 (by decide +kernel) (by decide +kernel)
theorem uw_421 : (Cond.methodLink "ExploreShares$Levels" (35 : Nat) ({ cls := "ExploreShares$Levels", name := "emptySets", desc := "()V" } : MethodName)) ∈ xU := xU_of 451 (by decide +kernel) (by decide +kernel)
theorem uw_422 : (Cond.instanceMethod ({ cls := "ExploreShares$Levels", name := "emptySets", desc := "()V" } : MethodName)) ∈ xU := xU_of 452 (by decide +kernel) (by decide +kernel)
theorem uw_423 : (Cond.selects "ExploreShares$Levels" ({ cls := "ExploreShares$Levels", name := "emptySets", desc := "()V" } : MethodName) ({ cls := "ExploreShares$Levels", name := "emptySets", desc := "()V" } : MethodName)) ∈ xU := xU_of 453 (by decide +kernel) (by decide +kernel)
theorem uw_424 : (Cond.code ({ cls := "ExploreShares$Levels", name := "emptySets", desc := "()V" } : MethodName) prog_5_method_3_code (1 : Nat) (none : Option Jvm.ClassFile.FieldType)) ∈ xU := xU_of 454 (by decide +kernel) (by decide +kernel)
theorem uw_494 : (Cond.instanceMethod ({ cls := "ExploreShares$FailPlan", name := "placeOf", desc := "(II)I" } : MethodName)) ∈ xU := xU_of 524 (by decide +kernel) (by decide +kernel)
theorem uw_495 : (Cond.selects "ExploreShares$FailPlan" ({ cls := "ExploreShares$FailPlan", name := "placeOf", desc := "(II)I" } : MethodName) ({ cls := "ExploreShares$FailPlan", name := "placeOf", desc := "(II)I" } : MethodName)) ∈ xU := xU_of 525 (by decide +kernel) (by decide +kernel)
theorem uw_496 : (Cond.code ({ cls := "ExploreShares$FailPlan", name := "placeOf", desc := "(II)I" } : MethodName) prog_4_method_2_code (4 : Nat) (some .int)) ∈ xU := xU_of 526 (by decide +kernel) (by decide +kernel)
theorem uw_502 : (Cond.methodLink "ExploreShares$FailPlan" (25 : Nat) ({ cls := "ExploreShares$FailPlan", name := "placeOf", desc := "(II)I" } : MethodName)) ∈ xU := xU_of 532 (by decide +kernel) (by decide +kernel)
theorem uw_503 : (Cond.methodLink "ExploreShares$FailPlan" (29 : Nat) ({ cls := "ExploreShares$FailPlan", name := "takeBack", desc := "(I)V" } : MethodName)) ∈ xU := xU_of 533 (by decide +kernel) (by decide +kernel)
theorem uw_505 : (Cond.instanceMethod ({ cls := "ExploreShares$FailPlan", name := "takeBack", desc := "(I)V" } : MethodName)) ∈ xU := xU_of 535 (by decide +kernel) (by decide +kernel)
theorem uw_506 : (Cond.code ({ cls := "ExploreShares$FailPlan", name := "takeBack", desc := "(I)V" } : MethodName) prog_4_method_4_code (2 : Nat) (none : Option Jvm.ClassFile.FieldType)) ∈ xU := xU_of 536 (by decide +kernel) (by decide +kernel)
theorem uw_554 : (Cond.methodLink "ExploreShares$Queues" (27 : Nat) ({ cls := "java/util/Arrays", name := "fill", desc := "([II)V" } : MethodName)) ∈ xU := xU_of 584 (by decide +kernel) (by decide +kernel)
theorem uw_559 : (Cond.methodLink "ExploreShares$Lists" (33 : Nat) ({ cls := "java/util/Arrays", name := "fill", desc := "([II)V" } : MethodName)) ∈ xU := xU_of 589 (by decide +kernel) (by decide +kernel)
theorem nw_190 : (Cond.methodLinkNest "ExploreShares$Crew" (35 : Nat) ({ cls := "ExploreShares", name := "fillFlags", desc := "([ZZ)V" } : MethodName) "ExploreShares") ∈ xs_NW := xs_NW_of 220 (by decide +kernel) (by decide +kernel)
theorem nw_425 : (Cond.methodLinkNest "ExploreShares$Levels" (38 : Nat) ({ cls := "ExploreShares", name := "fillFlags", desc := "([ZZ)V" } : MethodName) "ExploreShares") ∈ xs_NW := xs_NW_of 455 (by decide +kernel) (by decide +kernel)
theorem nw_560 : (Cond.methodLinkNest "ExploreShares$Lists" (39 : Nat) ({ cls := "ExploreShares", name := "fillFlags", desc := "([ZZ)V" } : MethodName) "ExploreShares") ∈ xs_NW := xs_NW_of 590 (by decide +kernel) (by decide +kernel)
