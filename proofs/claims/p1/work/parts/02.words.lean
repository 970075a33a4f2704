/-- the tables' words that every state of the run keeps -/
def xU : List Cond := lw_tbl.filter goodWord
theorem xU_of {w : Cond} (i : Nat) (h : lw_tbl[i]? = some w) (hg : goodWord w = true) : w ∈ xU := List.mem_filter.mpr ⟨List.mem_of_getElem? h, hg⟩
theorem xU_all (ws : List Cond) (ps : List Nat) (hp : ws = ps.filterMap (fun i => lw_tbl[i]?)) (h : ws.all goodWord = true) : ∀ w ∈ ws, w ∈ xU := by
  intro w hw
  have h1 := List.all_eq_true.mp h w hw
  rw [hp] at hw
  obtain ⟨i, -, hi⟩ := List.mem_filterMap.mp hw
  exact xU_of i hi h1
theorem xU_good {w : Cond} (h : w ∈ xU) : (w.onTables && w.keeps) = true ∨ ∃ ty, w = .arrayClass ty := good_of_word (List.mem_filter.mp h).2
theorem xs_good {y : MethodName} {b : ByteArray} {n : Nat} {r : Option FieldType} (hc : Cond.code y b n r ∈ xU) : GoodIn xU (Cond.code y b n r :: xU) := fun w h => by
  rcases List.mem_cons.mp h with e | h
  · rw [e]; exact ⟨hc, xU_good hc⟩
  · exact ⟨h, xU_good h⟩
theorem xs_goodV {own C : String} {idx : Nat} {y : MethodName} {b : ByteArray} {n : Nat} {r : Option FieldType} (h1 : Cond.methodLink own idx y ∈ xU) (h2 : Cond.instanceMethod y ∈ xU) (h3 : Cond.selects C y y ∈ xU) (h4 : Cond.initialized C ∈ xU) (hc : Cond.code y b n r ∈ xU) : GoodIn xU (wsV own idx C y (Cond.code y b n r :: xU)) := fun w h => by
  unfold wsV at h
  rcases List.mem_append.mp h with h | h
  · simp only [List.mem_cons, List.not_mem_nil, or_false] at h
    rcases h with e | e | e | e <;> rw [e]
    · exact ⟨h1, xU_good h1⟩
    · exact ⟨h2, xU_good h2⟩
    · exact ⟨h3, xU_good h3⟩
    · exact ⟨h4, xU_good h4⟩
  · exact xs_good hc w h
theorem xs_goodS {own : String} {idx : Nat} {y : MethodName} {b : ByteArray} {n : Nat} {r : Option FieldType} (h1 : Cond.methodLink own idx y ∈ xU) (h2 : Cond.static y ∈ xU) (h4 : Cond.initialized y.cls ∈ xU) (hc : Cond.code y b n r ∈ xU) : GoodIn xU (va_wsS own idx y (Cond.code y b n r :: xU)) := fun w h => by
  unfold va_wsS at h
  rcases List.mem_append.mp h with h | h
  · simp only [List.mem_cons, List.not_mem_nil, or_false] at h
    rcases h with e | e | e <;> rw [e]
    · exact ⟨h1, xU_good h1⟩
    · exact ⟨h2, xU_good h2⟩
    · exact ⟨h4, xU_good h4⟩
  · exact xs_good hc w h
/-- words of nest mates, of casts, of declarations: kept too, but not by the same rule -/
def xs_nk : Cond → Bool
  | .fieldLinkNest _ _ _ _ _ _ => true
  | .methodLinkNest _ _ _ _ => true
  | .declares _ => true
  | .castable _ _ => true
  | .arrayOver (.array _) => true
  | _ => false
def xs_NW : List Cond := lw_tbl.filter xs_nk
theorem xs_NW_of {w : Cond} (i : Nat) (h : lw_tbl[i]? = some w) (hg : xs_nk w = true) : w ∈ xs_NW := List.mem_filter.mpr ⟨List.mem_of_getElem? h, hg⟩
def xs_N (U : State) : Prop := ∀ w ∈ xs_NW, va_Nw w U
theorem xs_nk_warm {w : Cond} (hk : xs_nk w = true) {s U : State} (hW : s.WarmedH U.vm) (h : va_Nw w s) : va_Nw w U := by
  cases w with
  | fieldLinkNest => exact va_Nw.warmF hW h
  | methodLinkNest => exact va_Nw.warmM hW h
  | declares => exact va_Nw.warmD hW h
  | castable => exact va_Nw.warmC hW h
  | arrayOver t =>
    cases t with
    | array t => exact Jvm.Stand.arrayOver_alikeB (args' := #[]) hW.alike h
    | _ => exact Bool.noConfusion hk
  | _ => exact Bool.noConfusion hk
theorem xs_N.warm {s U : State} (hW : s.WarmedH U.vm) (h : xs_N s) : xs_N U := fun w hw => xs_nk_warm (List.mem_filter.mp hw).2 hW (h w hw)
theorem iw_X : ∀ w ∈ u_ws R_X T_X 4, w ∈ xU := xU_all _ [341, 343, 345, 347] (by decide +kernel) (by decide +kernel)
theorem iw_NET : ∀ w ∈ u_ws R_NET T_NET 4, w ∈ xU := xU_all _ [85, 87, 89, 91] (by decide +kernel) (by decide +kernel)
theorem iw_FP : ∀ w ∈ u_ws R_FP T_FP 4, w ∈ xU := xU_all _ [106, 108, 110, 112] (by decide +kernel) (by decide +kernel)
theorem iw_FL : ∀ w ∈ u_ws R_FL T_FL 4, w ∈ xU := xU_all _ [195, 197, 199, 201] (by decide +kernel) (by decide +kernel)
theorem iw_CR : ∀ w ∈ u_ws R_CR T_CR 8, w ∈ xU := xU_all _ [252, 254, 256, 258, 260, 262, 264, 266] (by decide +kernel) (by decide +kernel)
theorem iw_QU : ∀ w ∈ u_ws R_QU T_QU 5, w ∈ xU := xU_all _ [284, 286, 288, 290, 292] (by decide +kernel) (by decide +kernel)
theorem iw_LI : ∀ w ∈ u_ws R_LI T_LI 6, w ∈ xU := xU_all _ [132, 134, 136, 138, 140, 142] (by decide +kernel) (by decide +kernel)
theorem iw_LE : ∀ w ∈ u_ws R_LE T_LE 5, w ∈ xU := xU_all _ [169, 171, 173, 175, 177] (by decide +kernel) (by decide +kernel)
theorem iw_WA : ∀ w ∈ u_ws R_WA T_WA 1, w ∈ xU := xU_all _ [211] (by decide +kernel) (by decide +kernel)
theorem iw_SE : ∀ w ∈ u_ws R_SE T_SE 11, w ∈ xU := xU_all _ [314, 316, 318, 320, 322, 324, 326, 328, 330, 332, 334] (by decide +kernel) (by decide +kernel)
theorem iw_MO : ∀ w ∈ u_ws R_MO T_MO 36, w ∈ xU := xU_all _ [789, 791, 793, 795, 797, 799, 801, 803, 805, 807, 809, 811, 813, 815, 817, 819, 821, 823, 825, 827, 829, 831, 833, 835, 837, 839, 841, 843, 845, 847, 849, 851, 853, 855, 857, 859] (by decide +kernel) (by decide +kernel)
theorem uw_1 : (Cond.initialized "ExploreShares") ∈ xU := xU_of 31 (by decide +kernel) (by decide +kernel)
theorem uw_2 : (Cond.initialized "ExploreShares$Search") ∈ xU := xU_of 32 (by decide +kernel) (by decide +kernel)
theorem uw_3 : (Cond.initialized "java/lang/Math") ∈ xU := xU_of 33 (by decide +kernel) (by decide +kernel)
theorem uw_4 : (Cond.initialized "ExploreShares$Net") ∈ xU := xU_of 34 (by decide +kernel) (by decide +kernel)
theorem uw_5 : (Cond.initialized "ExploreShares$FailPlan") ∈ xU := xU_of 35 (by decide +kernel) (by decide +kernel)
theorem uw_6 : (Cond.initialized "ExploreShares$Lists") ∈ xU := xU_of 36 (by decide +kernel) (by decide +kernel)
theorem uw_7 : (Cond.initialized "ExploreShares$Levels") ∈ xU := xU_of 37 (by decide +kernel) (by decide +kernel)
theorem uw_8 : (Cond.initialized "java/util/Arrays") ∈ xU := xU_of 38 (by decide +kernel) (by decide +kernel)
theorem uw_9 : (Cond.initialized "ExploreShares$FailLog") ∈ xU := xU_of 39 (by decide +kernel) (by decide +kernel)
theorem uw_10 : (Cond.initialized "ExploreShares$Ways") ∈ xU := xU_of 40 (by decide +kernel) (by decide +kernel)
theorem uw_11 : (Cond.initialized "ExploreShares$Crew") ∈ xU := xU_of 41 (by decide +kernel) (by decide +kernel)
theorem uw_12 : (Cond.initialized "ExploreShares$Queues") ∈ xU := xU_of 42 (by decide +kernel) (by decide +kernel)
theorem uw_26 : (Cond.methodLink "ExploreShares" (1 : Nat) ({ cls := "java/lang/Object", name := "<init>", desc := "()V" } : MethodName)) ∈ xU := xU_of 56 (by decide +kernel) (by decide +kernel)
theorem uw_27 : (Cond.instanceMethod ({ cls := "java/lang/Object", name := "<init>", desc := "()V" } : MethodName)) ∈ xU := xU_of 57 (by decide +kernel) (by decide +kernel)
theorem uw_28 : (Cond.code ({ cls := "java/lang/Object", name := "<init>", desc := "()V" } : MethodName) object_method_1_code (1 : Nat) (none : Option Jvm.ClassFile.FieldType)) ∈ xU := xU_of 58 (by decide +kernel) (by decide +kernel)
theorem uw_29 : (Cond.classLink "ExploreShares" (7 : Nat) "ExploreShares$Search") ∈ xU := xU_of 59 (by decide +kernel) (by decide +kernel)
theorem uw_30 : (Cond.instantiable "ExploreShares$Search" (11 : Nat)) ∈ xU := xU_of 60 (by decide +kernel) (by decide +kernel)
theorem uw_31 : (Cond.methodLink "ExploreShares" (11 : Nat) ({ cls := "java/lang/Math", name := "floorMod", desc := "(II)I" } : MethodName)) ∈ xU := xU_of 61 (by decide +kernel) (by decide +kernel)
theorem uw_32 : (Cond.static ({ cls := "java/lang/Math", name := "floorMod", desc := "(II)I" } : MethodName)) ∈ xU := xU_of 62 (by decide +kernel) (by decide +kernel)
theorem uw_33 : (Cond.code ({ cls := "java/lang/Math", name := "floorMod", desc := "(II)I" } : MethodName) prog_17_method_50_code (3 : Nat) (some .int)) ∈ xU := xU_of 63 (by decide +kernel) (by decide +kernel)
theorem uw_34 : (Cond.methodLink "ExploreShares" (17 : Nat) ({ cls := "ExploreShares$Search", name := "<init>", desc := "(II)V" } : MethodName)) ∈ xU := xU_of 64 (by decide +kernel) (by decide +kernel)
theorem uw_35 : (Cond.instanceMethod ({ cls := "ExploreShares$Search", name := "<init>", desc := "(II)V" } : MethodName)) ∈ xU := xU_of 65 (by decide +kernel) (by decide +kernel)
theorem uw_36 : (Cond.code ({ cls := "ExploreShares$Search", name := "<init>", desc := "(II)V" } : MethodName) prog_9_method_1_code (3 : Nat) (none : Option Jvm.ClassFile.FieldType)) ∈ xU := xU_of 66 (by decide +kernel) (by decide +kernel)
theorem uw_37 : (Cond.methodLink "ExploreShares$Search" (3 : Nat) ({ cls := "java/lang/Object", name := "<init>", desc := "()V" } : MethodName)) ∈ xU := xU_of 67 (by decide +kernel) (by decide +kernel)
theorem uw_38 : (Cond.classLink "ExploreShares$Search" (9 : Nat) "ExploreShares$Net") ∈ xU := xU_of 68 (by decide +kernel) (by decide +kernel)
theorem uw_39 : (Cond.instantiable "ExploreShares$Net" (4 : Nat)) ∈ xU := xU_of 69 (by decide +kernel) (by decide +kernel)
theorem uw_41 : (Cond.instanceMethod ({ cls := "ExploreShares$Net", name := "<init>", desc := "()V" } : MethodName)) ∈ xU := xU_of 71 (by decide +kernel) (by decide +kernel)
theorem uw_42 : (Cond.code ({ cls := "ExploreShares$Net", name := "<init>", desc := "()V" } : MethodName) prog_7_method_1_code (1 : Nat) (none : Option Jvm.ClassFile.FieldType)) ∈ xU := xU_of 72 (by decide +kernel) (by decide +kernel)
theorem uw_43 : (Cond.methodLink "ExploreShares$Net" (3 : Nat) ({ cls := "java/lang/Object", name := "<init>", desc := "()V" } : MethodName)) ∈ xU := xU_of 73 (by decide +kernel) (by decide +kernel)
theorem uw_45 : (Cond.fieldLink "ExploreShares$Net" (18 : Nat) "ExploreShares$Net" "states" "I") ∈ xU := xU_of 75 (by decide +kernel) (by decide +kernel)
theorem uw_49 : (Cond.fieldLink "ExploreShares$Net" (9 : Nat) "ExploreShares$Net" "begin" "[I") ∈ xU := xU_of 79 (by decide +kernel) (by decide +kernel)
theorem uw_52 : (Cond.fieldLink "ExploreShares$Net" (15 : Nat) "ExploreShares$Net" "target" "[I") ∈ xU := xU_of 82 (by decide +kernel) (by decide +kernel)
theorem uw_64 : (Cond.arrayClass .int) ∈ xU := xU_of 94 (by decide +kernel) (by decide +kernel)
theorem uw_65 : (Cond.classLink "ExploreShares$Search" (18 : Nat) "ExploreShares$FailPlan") ∈ xU := xU_of 95 (by decide +kernel) (by decide +kernel)
theorem uw_66 : (Cond.instantiable "ExploreShares$FailPlan" (4 : Nat)) ∈ xU := xU_of 96 (by decide +kernel) (by decide +kernel)
theorem uw_68 : (Cond.instanceMethod ({ cls := "ExploreShares$FailPlan", name := "<init>", desc := "()V" } : MethodName)) ∈ xU := xU_of 98 (by decide +kernel) (by decide +kernel)
theorem uw_69 : (Cond.code ({ cls := "ExploreShares$FailPlan", name := "<init>", desc := "()V" } : MethodName) prog_4_method_1_code (1 : Nat) (none : Option Jvm.ClassFile.FieldType)) ∈ xU := xU_of 99 (by decide +kernel) (by decide +kernel)
theorem uw_70 : (Cond.methodLink "ExploreShares$FailPlan" (3 : Nat) ({ cls := "java/lang/Object", name := "<init>", desc := "()V" } : MethodName)) ∈ xU := xU_of 100 (by decide +kernel) (by decide +kernel)
theorem uw_71 : (Cond.fieldLink "ExploreShares$FailPlan" (9 : Nat) "ExploreShares$FailPlan" "worker" "[I") ∈ xU := xU_of 101 (by decide +kernel) (by decide +kernel)
theorem uw_72 : (Cond.fieldLink "ExploreShares$FailPlan" (15 : Nat) "ExploreShares$FailPlan" "level" "[I") ∈ xU := xU_of 102 (by decide +kernel) (by decide +kernel)
theorem uw_73 : (Cond.fieldLink "ExploreShares$FailPlan" (18 : Nat) "ExploreShares$FailPlan" "turn" "[I") ∈ xU := xU_of 103 (by decide +kernel) (by decide +kernel)
theorem uw_74 : (Cond.fieldLink "ExploreShares$FailPlan" (21 : Nat) "ExploreShares$FailPlan" "told" "I") ∈ xU := xU_of 104 (by decide +kernel) (by decide +kernel)
theorem uw_85 : (Cond.classLink "ExploreShares$Search" (25 : Nat) "ExploreShares$Lists") ∈ xU := xU_of 115 (by decide +kernel) (by decide +kernel)
theorem uw_86 : (Cond.instantiable "ExploreShares$Lists" (6 : Nat)) ∈ xU := xU_of 116 (by decide +kernel) (by decide +kernel)
theorem uw_88 : (Cond.instanceMethod ({ cls := "ExploreShares$Lists", name := "<init>", desc := "()V" } : MethodName)) ∈ xU := xU_of 118 (by decide +kernel) (by decide +kernel)
theorem uw_89 : (Cond.code ({ cls := "ExploreShares$Lists", name := "<init>", desc := "()V" } : MethodName) prog_6_method_1_code (1 : Nat) (none : Option Jvm.ClassFile.FieldType)) ∈ xU := xU_of 119 (by decide +kernel) (by decide +kernel)
theorem uw_90 : (Cond.methodLink "ExploreShares$Lists" (3 : Nat) ({ cls := "java/lang/Object", name := "<init>", desc := "()V" } : MethodName)) ∈ xU := xU_of 120 (by decide +kernel) (by decide +kernel)
theorem uw_91 : (Cond.classLink "ExploreShares$Lists" (9 : Nat) "[[I") ∈ xU := xU_of 121 (by decide +kernel) (by decide +kernel)
theorem uw_93 : (Cond.fieldLink "ExploreShares$Lists" (11 : Nat) "ExploreShares$Lists" "list" "[[I") ∈ xU := xU_of 123 (by decide +kernel) (by decide +kernel)
theorem uw_94 : (Cond.fieldLink "ExploreShares$Lists" (16 : Nat) "ExploreShares$Lists" "listed" "[I") ∈ xU := xU_of 124 (by decide +kernel) (by decide +kernel)
theorem uw_95 : (Cond.fieldLink "ExploreShares$Lists" (20 : Nat) "ExploreShares$Lists" "at" "[I") ∈ xU := xU_of 125 (by decide +kernel) (by decide +kernel)
theorem uw_96 : (Cond.fieldLink "ExploreShares$Lists" (23 : Nat) "ExploreShares$Lists" "movesDone" "[I") ∈ xU := xU_of 126 (by decide +kernel) (by decide +kernel)
theorem uw_98 : (Cond.fieldLink "ExploreShares$Lists" (26 : Nat) "ExploreShares$Lists" "lookedAt" "[Z") ∈ xU := xU_of 128 (by decide +kernel) (by decide +kernel)
theorem uw_100 : (Cond.fieldLink "ExploreShares$Lists" (30 : Nat) "ExploreShares$Lists" "turns" "[I") ∈ xU := xU_of 130 (by decide +kernel) (by decide +kernel)
theorem uw_115 : (Cond.arrayClass .boolean) ∈ xU := xU_of 145 (by decide +kernel) (by decide +kernel)
theorem uw_116 : (Cond.classLink "ExploreShares$Search" (32 : Nat) "ExploreShares$Levels") ∈ xU := xU_of 146 (by decide +kernel) (by decide +kernel)
theorem uw_117 : (Cond.instantiable "ExploreShares$Levels" (5 : Nat)) ∈ xU := xU_of 147 (by decide +kernel) (by decide +kernel)
theorem uw_118 : (Cond.methodLink "ExploreShares$Search" (34 : Nat) ({ cls := "ExploreShares$Levels", name := "<init>", desc := "()V" } : MethodName)) ∈ xU := xU_of 148 (by decide +kernel) (by decide +kernel)
theorem uw_119 : (Cond.instanceMethod ({ cls := "ExploreShares$Levels", name := "<init>", desc := "()V" } : MethodName)) ∈ xU := xU_of 149 (by decide +kernel) (by decide +kernel)
theorem uw_120 : (Cond.code ({ cls := "ExploreShares$Levels", name := "<init>", desc := "()V" } : MethodName) prog_5_method_1_code (1 : Nat) (none : Option Jvm.ClassFile.FieldType)) ∈ xU := xU_of 150 (by decide +kernel) (by decide +kernel)
theorem uw_121 : (Cond.methodLink "ExploreShares$Levels" (3 : Nat) ({ cls := "java/lang/Object", name := "<init>", desc := "()V" } : MethodName)) ∈ xU := xU_of 151 (by decide +kernel) (by decide +kernel)
theorem uw_122 : (Cond.methodLink "ExploreShares$Levels" (25 : Nat) ({ cls := "java/util/Arrays", name := "fill", desc := "([II)V" } : MethodName)) ∈ xU := xU_of 152 (by decide +kernel) (by decide +kernel)
theorem uw_123 : (Cond.static ({ cls := "java/util/Arrays", name := "fill", desc := "([II)V" } : MethodName)) ∈ xU := xU_of 153 (by decide +kernel) (by decide +kernel)
theorem uw_124 : (Cond.code ({ cls := "java/util/Arrays", name := "fill", desc := "([II)V" } : MethodName) prog_22_method_103_code (4 : Nat) (none : Option Jvm.ClassFile.FieldType)) ∈ xU := xU_of 154 (by decide +kernel) (by decide +kernel)
theorem uw_125 : (Cond.fieldLink "ExploreShares$Levels" (9 : Nat) "ExploreShares$Levels" "levelOf" "[I") ∈ xU := xU_of 155 (by decide +kernel) (by decide +kernel)
theorem uw_128 : (Cond.fieldLink "ExploreShares$Levels" (15 : Nat) "ExploreShares$Levels" "order" "[I") ∈ xU := xU_of 158 (by decide +kernel) (by decide +kernel)
theorem uw_131 : (Cond.fieldLink "ExploreShares$Levels" (18 : Nat) "ExploreShares$Levels" "begin" "[I") ∈ xU := xU_of 161 (by decide +kernel) (by decide +kernel)
theorem uw_135 : (Cond.fieldLink "ExploreShares$Levels" (31 : Nat) "ExploreShares$Levels" "levels" "I") ∈ xU := xU_of 165 (by decide +kernel) (by decide +kernel)
theorem uw_138 : (Cond.fieldLink "ExploreShares$Levels" (21 : Nat) "ExploreShares$Levels" "found" "[Z") ∈ xU := xU_of 168 (by decide +kernel) (by decide +kernel)
theorem uw_150 : (Cond.classLink "ExploreShares$Search" (39 : Nat) "ExploreShares$FailLog") ∈ xU := xU_of 180 (by decide +kernel) (by decide +kernel)
theorem uw_151 : (Cond.instantiable "ExploreShares$FailLog" (4 : Nat)) ∈ xU := xU_of 181 (by decide +kernel) (by decide +kernel)
theorem uw_153 : (Cond.instanceMethod ({ cls := "ExploreShares$FailLog", name := "<init>", desc := "()V" } : MethodName)) ∈ xU := xU_of 183 (by decide +kernel) (by decide +kernel)
theorem uw_154 : (Cond.code ({ cls := "ExploreShares$FailLog", name := "<init>", desc := "()V" } : MethodName) prog_3_method_1_code (1 : Nat) (none : Option Jvm.ClassFile.FieldType)) ∈ xU := xU_of 184 (by decide +kernel) (by decide +kernel)
theorem uw_155 : (Cond.methodLink "ExploreShares$FailLog" (3 : Nat) ({ cls := "java/lang/Object", name := "<init>", desc := "()V" } : MethodName)) ∈ xU := xU_of 185 (by decide +kernel) (by decide +kernel)
theorem uw_156 : (Cond.fieldLink "ExploreShares$FailLog" (9 : Nat) "ExploreShares$FailLog" "worker" "[I") ∈ xU := xU_of 186 (by decide +kernel) (by decide +kernel)
theorem uw_158 : (Cond.fieldLink "ExploreShares$FailLog" (15 : Nat) "ExploreShares$FailLog" "level" "[I") ∈ xU := xU_of 188 (by decide +kernel) (by decide +kernel)
theorem uw_160 : (Cond.fieldLink "ExploreShares$FailLog" (18 : Nat) "ExploreShares$FailLog" "turnsBefore" "[I") ∈ xU := xU_of 190 (by decide +kernel) (by decide +kernel)
theorem uw_174 : (Cond.classLink "ExploreShares$Search" (46 : Nat) "ExploreShares$Ways") ∈ xU := xU_of 204 (by decide +kernel) (by decide +kernel)
theorem uw_175 : (Cond.instantiable "ExploreShares$Ways" (1 : Nat)) ∈ xU := xU_of 205 (by decide +kernel) (by decide +kernel)
theorem uw_177 : (Cond.instanceMethod ({ cls := "ExploreShares$Ways", name := "<init>", desc := "()V" } : MethodName)) ∈ xU := xU_of 207 (by decide +kernel) (by decide +kernel)
theorem uw_178 : (Cond.code ({ cls := "ExploreShares$Ways", name := "<init>", desc := "()V" } : MethodName) prog_10_method_1_code (1 : Nat) (none : Option Jvm.ClassFile.FieldType)) ∈ xU := xU_of 208 (by decide +kernel) (by decide +kernel)
theorem uw_179 : (Cond.methodLink "ExploreShares$Ways" (3 : Nat) ({ cls := "java/lang/Object", name := "<init>", desc := "()V" } : MethodName)) ∈ xU := xU_of 209 (by decide +kernel) (by decide +kernel)
theorem uw_180 : (Cond.fieldLink "ExploreShares$Ways" (9 : Nat) "ExploreShares$Ways" "leads" "[Z") ∈ xU := xU_of 210 (by decide +kernel) (by decide +kernel)
theorem uw_184 : (Cond.classLink "ExploreShares$Search" (60 : Nat) "ExploreShares$Crew") ∈ xU := xU_of 214 (by decide +kernel) (by decide +kernel)
theorem uw_185 : (Cond.instantiable "ExploreShares$Crew" (8 : Nat)) ∈ xU := xU_of 215 (by decide +kernel) (by decide +kernel)
theorem uw_186 : (Cond.methodLink "ExploreShares$Search" (62 : Nat) ({ cls := "ExploreShares$Crew", name := "<init>", desc := "(I)V" } : MethodName)) ∈ xU := xU_of 216 (by decide +kernel) (by decide +kernel)
theorem uw_187 : (Cond.instanceMethod ({ cls := "ExploreShares$Crew", name := "<init>", desc := "(I)V" } : MethodName)) ∈ xU := xU_of 217 (by decide +kernel) (by decide +kernel)
theorem uw_188 : (Cond.code ({ cls := "ExploreShares$Crew", name := "<init>", desc := "(I)V" } : MethodName) prog_2_method_1_code (3 : Nat) (none : Option Jvm.ClassFile.FieldType)) ∈ xU := xU_of 218 (by decide +kernel) (by decide +kernel)
theorem uw_189 : (Cond.methodLink "ExploreShares$Crew" (3 : Nat) ({ cls := "java/lang/Object", name := "<init>", desc := "()V" } : MethodName)) ∈ xU := xU_of 219 (by decide +kernel) (by decide +kernel)
theorem uw_191 : (Cond.static ({ cls := "ExploreShares", name := "fillFlags", desc := "([ZZ)V" } : MethodName)) ∈ xU := xU_of 221 (by decide +kernel) (by decide +kernel)
theorem uw_192 : (Cond.code ({ cls := "ExploreShares", name := "fillFlags", desc := "([ZZ)V" } : MethodName) prog_1_method_16_code (3 : Nat) (none : Option Jvm.ClassFile.FieldType)) ∈ xU := xU_of 222 (by decide +kernel) (by decide +kernel)
theorem uw_194 : (Cond.static ({ cls := "ExploreShares", name := "numberBehind", desc := "(I)I" } : MethodName)) ∈ xU := xU_of 224 (by decide +kernel) (by decide +kernel)
theorem uw_195 : (Cond.code ({ cls := "ExploreShares", name := "numberBehind", desc := "(I)I" } : MethodName) prog_1_method_14_code (1 : Nat) (some .int)) ∈ xU := xU_of 225 (by decide +kernel) (by decide +kernel)
theorem uw_196 : (Cond.constant "ExploreShares" (209 : Nat) (1103515245 : Int32)) ∈ xU := xU_of 226 (by decide +kernel) (by decide +kernel)
theorem uw_197 : (Cond.constant "ExploreShares" (210 : Nat) (2147483647 : Int32)) ∈ xU := xU_of 227 (by decide +kernel) (by decide +kernel)
theorem uw_199 : (Cond.static ({ cls := "ExploreShares", name := "oneOf", desc := "(II)I" } : MethodName)) ∈ xU := xU_of 229 (by decide +kernel) (by decide +kernel)
theorem uw_200 : (Cond.code ({ cls := "ExploreShares", name := "oneOf", desc := "(II)I" } : MethodName) prog_1_method_15_code (2 : Nat) (some .int)) ∈ xU := xU_of 230 (by decide +kernel) (by decide +kernel)
theorem uw_201 : (Cond.constant "ExploreShares" (211 : Nat) (65536 : Int32)) ∈ xU := xU_of 231 (by decide +kernel) (by decide +kernel)
theorem uw_202 : (Cond.fieldLink "ExploreShares$Crew" (28 : Nat) "ExploreShares$Crew" "workers" "I") ∈ xU := xU_of 232 (by decide +kernel) (by decide +kernel)
theorem uw_205 : (Cond.fieldLink "ExploreShares$Crew" (9 : Nat) "ExploreShares$Crew" "firstOwner" "[I") ∈ xU := xU_of 235 (by decide +kernel) (by decide +kernel)
theorem uw_206 : (Cond.fieldLink "ExploreShares$Crew" (15 : Nat) "ExploreShares$Crew" "live" "[Z") ∈ xU := xU_of 236 (by decide +kernel) (by decide +kernel)
theorem uw_208 : (Cond.fieldLink "ExploreShares$Crew" (19 : Nat) "ExploreShares$Crew" "turns" "[I") ∈ xU := xU_of 238 (by decide +kernel) (by decide +kernel)
theorem uw_210 : (Cond.fieldLink "ExploreShares$Crew" (22 : Nat) "ExploreShares$Crew" "taken" "[I") ∈ xU := xU_of 240 (by decide +kernel) (by decide +kernel)
theorem uw_213 : (Cond.fieldLink "ExploreShares$Crew" (25 : Nat) "ExploreShares$Crew" "stalls" "[I") ∈ xU := xU_of 243 (by decide +kernel) (by decide +kernel)
theorem uw_216 : (Cond.fieldLink "ExploreShares$Crew" (32 : Nat) "ExploreShares$Crew" "liveWorkers" "I") ∈ xU := xU_of 246 (by decide +kernel) (by decide +kernel)
theorem uw_219 : (Cond.fieldLink "ExploreShares$Crew" (53 : Nat) "ExploreShares$Crew" "allTurns" "I") ∈ xU := xU_of 249 (by decide +kernel) (by decide +kernel)
theorem uw_239 : (Cond.classLink "ExploreShares$Search" (69 : Nat) "ExploreShares$Queues") ∈ xU := xU_of 269 (by decide +kernel) (by decide +kernel)
theorem uw_240 : (Cond.instantiable "ExploreShares$Queues" (5 : Nat)) ∈ xU := xU_of 270 (by decide +kernel) (by decide +kernel)
theorem uw_241 : (Cond.methodLink "ExploreShares$Search" (71 : Nat) ({ cls := "ExploreShares$Queues", name := "<init>", desc := "(I)V" } : MethodName)) ∈ xU := xU_of 271 (by decide +kernel) (by decide +kernel)
theorem uw_242 : (Cond.instanceMethod ({ cls := "ExploreShares$Queues", name := "<init>", desc := "(I)V" } : MethodName)) ∈ xU := xU_of 272 (by decide +kernel) (by decide +kernel)
theorem uw_243 : (Cond.code ({ cls := "ExploreShares$Queues", name := "<init>", desc := "(I)V" } : MethodName) prog_8_method_1_code (2 : Nat) (none : Option Jvm.ClassFile.FieldType)) ∈ xU := xU_of 273 (by decide +kernel) (by decide +kernel)
theorem uw_244 : (Cond.methodLink "ExploreShares$Queues" (3 : Nat) ({ cls := "java/lang/Object", name := "<init>", desc := "()V" } : MethodName)) ∈ xU := xU_of 274 (by decide +kernel) (by decide +kernel)
theorem uw_245 : (Cond.classLink "ExploreShares$Queues" (9 : Nat) "[[I") ∈ xU := xU_of 275 (by decide +kernel) (by decide +kernel)
theorem uw_246 : (Cond.fieldLink "ExploreShares$Queues" (23 : Nat) "ExploreShares$Queues" "room" "I") ∈ xU := xU_of 276 (by decide +kernel) (by decide +kernel)
theorem uw_248 : (Cond.fieldLink "ExploreShares$Queues" (11 : Nat) "ExploreShares$Queues" "ring" "[[I") ∈ xU := xU_of 278 (by decide +kernel) (by decide +kernel)
theorem uw_249 : (Cond.fieldLink "ExploreShares$Queues" (16 : Nat) "ExploreShares$Queues" "first" "[I") ∈ xU := xU_of 279 (by decide +kernel) (by decide +kernel)
theorem uw_250 : (Cond.fieldLink "ExploreShares$Queues" (20 : Nat) "ExploreShares$Queues" "held" "[I") ∈ xU := xU_of 280 (by decide +kernel) (by decide +kernel)
theorem uw_265 : (Cond.fieldLink "ExploreShares$Search" (12 : Nat) "ExploreShares$Search" "net" "LExploreShares$Net;") ∈ xU := xU_of 295 (by decide +kernel) (by decide +kernel)
theorem uw_267 : (Cond.fieldLink "ExploreShares$Search" (21 : Nat) "ExploreShares$Search" "plan" "LExploreShares$FailPlan;") ∈ xU := xU_of 297 (by decide +kernel) (by decide +kernel)
theorem uw_270 : (Cond.fieldLink "ExploreShares$Search" (65 : Nat) "ExploreShares$Search" "crew" "LExploreShares$Crew;") ∈ xU := xU_of 300 (by decide +kernel) (by decide +kernel)
theorem uw_271 : (Cond.fieldLink "ExploreShares$Search" (72 : Nat) "ExploreShares$Search" "queues" "LExploreShares$Queues;") ∈ xU := xU_of 301 (by decide +kernel) (by decide +kernel)
theorem uw_273 : (Cond.fieldLink "ExploreShares$Search" (28 : Nat) "ExploreShares$Search" "lists" "LExploreShares$Lists;") ∈ xU := xU_of 303 (by decide +kernel) (by decide +kernel)
theorem uw_274 : (Cond.fieldLink "ExploreShares$Search" (35 : Nat) "ExploreShares$Search" "levels" "LExploreShares$Levels;") ∈ xU := xU_of 304 (by decide +kernel) (by decide +kernel)
theorem uw_276 : (Cond.fieldLink "ExploreShares$Search" (42 : Nat) "ExploreShares$Search" "log" "LExploreShares$FailLog;") ∈ xU := xU_of 306 (by decide +kernel) (by decide +kernel)
theorem uw_278 : (Cond.fieldLink "ExploreShares$Search" (49 : Nat) "ExploreShares$Search" "ways" "LExploreShares$Ways;") ∈ xU := xU_of 308 (by decide +kernel) (by decide +kernel)
theorem uw_280 : (Cond.fieldLink "ExploreShares$Search" (53 : Nat) "ExploreShares$Search" "looks" "[I") ∈ xU := xU_of 310 (by decide +kernel) (by decide +kernel)
theorem uw_282 : (Cond.fieldLink "ExploreShares$Search" (57 : Nat) "ExploreShares$Search" "busy" "[I") ∈ xU := xU_of 312 (by decide +kernel) (by decide +kernel)
theorem uw_307 : (Cond.fieldLink "ExploreShares" (20 : Nat) "ExploreShares" "search" "LExploreShares$Search;") ∈ xU := xU_of 337 (by decide +kernel) (by decide +kernel)
theorem uw_308 : (Cond.fieldLink "ExploreShares" (28 : Nat) "ExploreShares" "net" "LExploreShares$Net;") ∈ xU := xU_of 338 (by decide +kernel) (by decide +kernel)
theorem uw_309 : (Cond.fieldLink "ExploreShares" (33 : Nat) "ExploreShares" "plan" "LExploreShares$FailPlan;") ∈ xU := xU_of 339 (by decide +kernel) (by decide +kernel)
theorem uw_310 : (Cond.fieldLink "ExploreShares" (38 : Nat) "ExploreShares" "crew" "LExploreShares$Crew;") ∈ xU := xU_of 340 (by decide +kernel) (by decide +kernel)
theorem uw_325 : (Cond.instanceMethod ({ cls := "ExploreShares$Levels", name := "cameInAll", desc := "()I" } : MethodName)) ∈ xU := xU_of 355 (by decide +kernel) (by decide +kernel)
theorem uw_326 : (Cond.selects "ExploreShares$Levels" ({ cls := "ExploreShares$Levels", name := "cameInAll", desc := "()I" } : MethodName) ({ cls := "ExploreShares$Levels", name := "cameInAll", desc := "()I" } : MethodName)) ∈ xU := xU_of 356 (by decide +kernel) (by decide +kernel)
theorem uw_327 : (Cond.code ({ cls := "ExploreShares$Levels", name := "cameInAll", desc := "()I" } : MethodName) prog_5_method_4_code (1 : Nat) (some .int)) ∈ xU := xU_of 357 (by decide +kernel) (by decide +kernel)
theorem uw_412 : (Cond.methodLink "ExploreShares$Search" (76 : Nat) ({ cls := "ExploreShares$Crew", name := "startAnew", desc := "()V" } : MethodName)) ∈ xU := xU_of 442 (by decide +kernel) (by decide +kernel)
theorem uw_413 : (Cond.instanceMethod ({ cls := "ExploreShares$Crew", name := "startAnew", desc := "()V" } : MethodName)) ∈ xU := xU_of 443 (by decide +kernel) (by decide +kernel)
theorem uw_414 : (Cond.selects "ExploreShares$Crew" ({ cls := "ExploreShares$Crew", name := "startAnew", desc := "()V" } : MethodName) ({ cls := "ExploreShares$Crew", name := "startAnew", desc := "()V" } : MethodName)) ∈ xU := xU_of 444 (by decide +kernel) (by decide +kernel)
theorem uw_415 : (Cond.code ({ cls := "ExploreShares$Crew", name := "startAnew", desc := "()V" } : MethodName) prog_2_method_3_code (1 : Nat) (none : Option Jvm.ClassFile.FieldType)) ∈ xU := xU_of 445 (by decide +kernel) (by decide +kernel)
theorem uw_416 : (Cond.methodLink "ExploreShares$Crew" (47 : Nat) ({ cls := "java/util/Arrays", name := "fill", desc := "([II)V" } : MethodName)) ∈ xU := xU_of 446 (by decide +kernel) (by decide +kernel)
theorem uw_417 : (Cond.methodLink "ExploreShares$Search" (79 : Nat) ({ cls := "ExploreShares$Levels", name := "startAnew", desc := "()V" } : MethodName)) ∈ xU := xU_of 447 (by decide +kernel) (by decide +kernel)
theorem uw_418 : (Cond.instanceMethod ({ cls := "ExploreShares$Levels", name := "startAnew", desc := "()V" } : MethodName)) ∈ xU := xU_of 448 (by decide +kernel) (by decide +kernel)
theorem uw_419 : (Cond.selects "ExploreShares$Levels" ({ cls := "ExploreShares$Levels", name := "startAnew", desc := "()V" } : MethodName) ({ cls := "ExploreShares$Levels", name := "startAnew", desc := "()V" } : MethodName)) ∈ xU := xU_of 449 (by decide +kernel) (by decide +kernel)
theorem uw_420 : (Cond.code ({ cls := "ExploreShares$Levels", name := "startAnew", desc := "()V" } : MethodName) prog_5_method_2_code (1 : Nat) (none : Option Jvm.ClassFile.FieldType)) ∈ xU := xU_of 450 (by decide +kernel) (by decide +kernel)
theorem uw_421 : (Cond.methodLink "ExploreShares$Levels" (35 : Nat) ({ cls := "ExploreShares$Levels", name := "emptySets", desc := "()V" } : MethodName)) ∈ xU := xU_of 451 (by decide +kernel) (by decide +kernel)
theorem uw_422 : (Cond.instanceMethod ({ cls := "ExploreShares$Levels", name := "emptySets", desc := "()V" } : MethodName)) ∈ xU := xU_of 452 (by decide +kernel) (by decide +kernel)
theorem uw_423 : (Cond.selects "ExploreShares$Levels" ({ cls := "ExploreShares$Levels", name := "emptySets", desc := "()V" } : MethodName) ({ cls := "ExploreShares$Levels", name := "emptySets", desc := "()V" } : MethodName)) ∈ xU := xU_of 453 (by decide +kernel) (by decide +kernel)
theorem uw_424 : (Cond.code ({ cls := "ExploreShares$Levels", name := "emptySets", desc := "()V" } : MethodName) prog_5_method_3_code (1 : Nat) (none : Option Jvm.ClassFile.FieldType)) ∈ xU := xU_of 454 (by decide +kernel) (by decide +kernel)
theorem uw_426 : (Cond.methodLink "ExploreShares$Search" (80 : Nat) ({ cls := "java/util/Arrays", name := "fill", desc := "([II)V" } : MethodName)) ∈ xU := xU_of 456 (by decide +kernel) (by decide +kernel)
theorem uw_494 : (Cond.instanceMethod ({ cls := "ExploreShares$FailPlan", name := "placeOf", desc := "(II)I" } : MethodName)) ∈ xU := xU_of 524 (by decide +kernel) (by decide +kernel)
theorem uw_495 : (Cond.selects "ExploreShares$FailPlan" ({ cls := "ExploreShares$FailPlan", name := "placeOf", desc := "(II)I" } : MethodName) ({ cls := "ExploreShares$FailPlan", name := "placeOf", desc := "(II)I" } : MethodName)) ∈ xU := xU_of 525 (by decide +kernel) (by decide +kernel)
theorem uw_496 : (Cond.code ({ cls := "ExploreShares$FailPlan", name := "placeOf", desc := "(II)I" } : MethodName) prog_4_method_2_code (4 : Nat) (some .int)) ∈ xU := xU_of 526 (by decide +kernel) (by decide +kernel)
theorem uw_502 : (Cond.methodLink "ExploreShares$FailPlan" (25 : Nat) ({ cls := "ExploreShares$FailPlan", name := "placeOf", desc := "(II)I" } : MethodName)) ∈ xU := xU_of 532 (by decide +kernel) (by decide +kernel)
theorem uw_694 : (Cond.methodLink "ExploreShares$Search" (118 : Nat) ({ cls := "ExploreShares$Levels", name := "cameInAll", desc := "()I" } : MethodName)) ∈ xU := xU_of 724 (by decide +kernel) (by decide +kernel)
theorem nw_40 : (Cond.methodLinkNest "ExploreShares$Search" (11 : Nat) ({ cls := "ExploreShares$Net", name := "<init>", desc := "()V" } : MethodName) "ExploreShares") ∈ xs_NW := xs_NW_of 70 (by decide +kernel) (by decide +kernel)
theorem nw_67 : (Cond.methodLinkNest "ExploreShares$Search" (20 : Nat) ({ cls := "ExploreShares$FailPlan", name := "<init>", desc := "()V" } : MethodName) "ExploreShares") ∈ xs_NW := xs_NW_of 97 (by decide +kernel) (by decide +kernel)
theorem nw_87 : (Cond.methodLinkNest "ExploreShares$Search" (27 : Nat) ({ cls := "ExploreShares$Lists", name := "<init>", desc := "()V" } : MethodName) "ExploreShares") ∈ xs_NW := xs_NW_of 117 (by decide +kernel) (by decide +kernel)
theorem nw_92 : (Cond.arrayOver (.array .int)) ∈ xs_NW := xs_NW_of 122 (by decide +kernel) (by decide +kernel)
theorem nw_152 : (Cond.methodLinkNest "ExploreShares$Search" (41 : Nat) ({ cls := "ExploreShares$FailLog", name := "<init>", desc := "()V" } : MethodName) "ExploreShares") ∈ xs_NW := xs_NW_of 182 (by decide +kernel) (by decide +kernel)
theorem nw_163 : (Cond.fieldLinkNest "ExploreShares$Search" (90 : Nat) "ExploreShares$FailLog" "happened" "I" "ExploreShares") ∈ xs_NW := xs_NW_of 193 (by decide +kernel) (by decide +kernel)
theorem nw_176 : (Cond.methodLinkNest "ExploreShares$Search" (48 : Nat) ({ cls := "ExploreShares$Ways", name := "<init>", desc := "()V" } : MethodName) "ExploreShares") ∈ xs_NW := xs_NW_of 206 (by decide +kernel) (by decide +kernel)
theorem nw_190 : (Cond.methodLinkNest "ExploreShares$Crew" (35 : Nat) ({ cls := "ExploreShares", name := "fillFlags", desc := "([ZZ)V" } : MethodName) "ExploreShares") ∈ xs_NW := xs_NW_of 220 (by decide +kernel) (by decide +kernel)
theorem nw_193 : (Cond.methodLinkNest "ExploreShares$Crew" (39 : Nat) ({ cls := "ExploreShares", name := "numberBehind", desc := "(I)I" } : MethodName) "ExploreShares") ∈ xs_NW := xs_NW_of 223 (by decide +kernel) (by decide +kernel)
theorem nw_198 : (Cond.methodLinkNest "ExploreShares$Crew" (43 : Nat) ({ cls := "ExploreShares", name := "oneOf", desc := "(II)I" } : MethodName) "ExploreShares") ∈ xs_NW := xs_NW_of 228 (by decide +kernel) (by decide +kernel)
theorem nw_251 : (Cond.fieldLinkNest "ExploreShares$Search" (86 : Nat) "ExploreShares$Queues" "most" "I" "ExploreShares") ∈ xs_NW := xs_NW_of 281 (by decide +kernel) (by decide +kernel)
theorem nw_266 : (Cond.fieldLinkNest "ExploreShares" (24 : Nat) "ExploreShares$Search" "net" "LExploreShares$Net;" "ExploreShares") ∈ xs_NW := xs_NW_of 296 (by decide +kernel) (by decide +kernel)
theorem nw_268 : (Cond.fieldLinkNest "ExploreShares" (29 : Nat) "ExploreShares$Search" "plan" "LExploreShares$FailPlan;" "ExploreShares") ∈ xs_NW := xs_NW_of 298 (by decide +kernel) (by decide +kernel)
theorem nw_269 : (Cond.fieldLinkNest "ExploreShares" (34 : Nat) "ExploreShares$Search" "crew" "LExploreShares$Crew;" "ExploreShares") ∈ xs_NW := xs_NW_of 299 (by decide +kernel) (by decide +kernel)
theorem nw_425 : (Cond.methodLinkNest "ExploreShares$Levels" (38 : Nat) ({ cls := "ExploreShares", name := "fillFlags", desc := "([ZZ)V" } : MethodName) "ExploreShares") ∈ xs_NW := xs_NW_of 455 (by decide +kernel) (by decide +kernel)
