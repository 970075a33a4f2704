def R_X : String := "ExploreShares"
def T_X : u_T := fun k => match k with
  | 0 => ("ExploreShares", "search", "LExploreShares$Search;", true)
  | 1 => ("ExploreShares", "net", "LExploreShares$Net;", true)
  | 2 => ("ExploreShares", "plan", "LExploreShares$FailPlan;", true)
  | _ => ("ExploreShares", "crew", "LExploreShares$Crew;", true)
def ty_X : Nat → FieldType := fun k => match k with
  | 0 => (.object "ExploreShares$Search")
  | 1 => (.object "ExploreShares$Net")
  | 2 => (.object "ExploreShares$FailPlan")
  | _ => (.object "ExploreShares$Crew")
theorem nm_X : ∀ a, a < 4 → ∀ b, b < 4 → a ≠ b → (T_X a).2.1 ≠ (T_X b).2.1 := by decide +kernel
theorem ty_X_ok : ∀ k, k < 4 → parseFieldDescriptor (T_X k).2.2.1 = some (ty_X k) := by decide +kernel
def R_NET : String := "ExploreShares$Net"
def T_NET : u_T := fun k => match k with
  | 0 => ("ExploreShares$Net", "states", "I", false)
  | 1 => ("ExploreShares$Net", "moves", "I", false)
  | 2 => ("ExploreShares$Net", "begin", "[I", true)
  | _ => ("ExploreShares$Net", "target", "[I", true)
def ty_NET : Nat → FieldType := fun k => match k with
  | 0 => .int
  | 1 => .int
  | 2 => (.array .int)
  | _ => (.array .int)
theorem nm_NET : ∀ a, a < 4 → ∀ b, b < 4 → a ≠ b → (T_NET a).2.1 ≠ (T_NET b).2.1 := by decide +kernel
theorem ty_NET_ok : ∀ k, k < 4 → parseFieldDescriptor (T_NET k).2.2.1 = some (ty_NET k) := by decide +kernel
def R_FP : String := "ExploreShares$FailPlan"
def T_FP : u_T := fun k => match k with
  | 0 => ("ExploreShares$FailPlan", "worker", "[I", true)
  | 1 => ("ExploreShares$FailPlan", "level", "[I", true)
  | 2 => ("ExploreShares$FailPlan", "turn", "[I", true)
  | _ => ("ExploreShares$FailPlan", "told", "I", false)
def ty_FP : Nat → FieldType := fun k => match k with
  | 0 => (.array .int)
  | 1 => (.array .int)
  | 2 => (.array .int)
  | _ => .int
theorem nm_FP : ∀ a, a < 4 → ∀ b, b < 4 → a ≠ b → (T_FP a).2.1 ≠ (T_FP b).2.1 := by decide +kernel
theorem ty_FP_ok : ∀ k, k < 4 → parseFieldDescriptor (T_FP k).2.2.1 = some (ty_FP k) := by decide +kernel
def R_FL : String := "ExploreShares$FailLog"
def T_FL : u_T := fun k => match k with
  | 0 => ("ExploreShares$FailLog", "worker", "[I", true)
  | 1 => ("ExploreShares$FailLog", "level", "[I", true)
  | 2 => ("ExploreShares$FailLog", "turnsBefore", "[I", true)
  | _ => ("ExploreShares$FailLog", "happened", "I", false)
def ty_FL : Nat → FieldType := fun k => match k with
  | 0 => (.array .int)
  | 1 => (.array .int)
  | 2 => (.array .int)
  | _ => .int
theorem nm_FL : ∀ a, a < 4 → ∀ b, b < 4 → a ≠ b → (T_FL a).2.1 ≠ (T_FL b).2.1 := by decide +kernel
theorem ty_FL_ok : ∀ k, k < 4 → parseFieldDescriptor (T_FL k).2.2.1 = some (ty_FL k) := by decide +kernel
def R_CR : String := "ExploreShares$Crew"
def T_CR : u_T := fun k => match k with
  | 0 => ("ExploreShares$Crew", "workers", "I", true)
  | 1 => ("ExploreShares$Crew", "firstOwner", "[I", true)
  | 2 => ("ExploreShares$Crew", "live", "[Z", true)
  | 3 => ("ExploreShares$Crew", "turns", "[I", true)
  | 4 => ("ExploreShares$Crew", "taken", "[I", true)
  | 5 => ("ExploreShares$Crew", "stalls", "[I", true)
  | 6 => ("ExploreShares$Crew", "liveWorkers", "I", false)
  | _ => ("ExploreShares$Crew", "allTurns", "I", false)
def ty_CR : Nat → FieldType := fun k => match k with
  | 0 => .int
  | 1 => (.array .int)
  | 2 => (.array .boolean)
  | 3 => (.array .int)
  | 4 => (.array .int)
  | 5 => (.array .int)
  | 6 => .int
  | _ => .int
theorem nm_CR : ∀ a, a < 8 → ∀ b, b < 8 → a ≠ b → (T_CR a).2.1 ≠ (T_CR b).2.1 := by decide +kernel
theorem ty_CR_ok : ∀ k, k < 8 → parseFieldDescriptor (T_CR k).2.2.1 = some (ty_CR k) := by decide +kernel
def R_QU : String := "ExploreShares$Queues"
def T_QU : u_T := fun k => match k with
  | 0 => ("ExploreShares$Queues", "room", "I", true)
  | 1 => ("ExploreShares$Queues", "ring", "[[I", true)
  | 2 => ("ExploreShares$Queues", "first", "[I", true)
  | 3 => ("ExploreShares$Queues", "held", "[I", true)
  | _ => ("ExploreShares$Queues", "most", "I", false)
def ty_QU : Nat → FieldType := fun k => match k with
  | 0 => .int
  | 1 => (.array (.array .int))
  | 2 => (.array .int)
  | 3 => (.array .int)
  | _ => .int
theorem nm_QU : ∀ a, a < 5 → ∀ b, b < 5 → a ≠ b → (T_QU a).2.1 ≠ (T_QU b).2.1 := by decide +kernel
theorem ty_QU_ok : ∀ k, k < 5 → parseFieldDescriptor (T_QU k).2.2.1 = some (ty_QU k) := by decide +kernel
def R_LI : String := "ExploreShares$Lists"
def T_LI : u_T := fun k => match k with
  | 0 => ("ExploreShares$Lists", "list", "[[I", true)
  | 1 => ("ExploreShares$Lists", "listed", "[I", true)
  | 2 => ("ExploreShares$Lists", "at", "[I", true)
  | 3 => ("ExploreShares$Lists", "movesDone", "[I", true)
  | 4 => ("ExploreShares$Lists", "lookedAt", "[Z", true)
  | _ => ("ExploreShares$Lists", "turns", "[I", true)
def ty_LI : Nat → FieldType := fun k => match k with
  | 0 => (.array (.array .int))
  | 1 => (.array .int)
  | 2 => (.array .int)
  | 3 => (.array .int)
  | 4 => (.array .boolean)
  | _ => (.array .int)
theorem nm_LI : ∀ a, a < 6 → ∀ b, b < 6 → a ≠ b → (T_LI a).2.1 ≠ (T_LI b).2.1 := by decide +kernel
theorem ty_LI_ok : ∀ k, k < 6 → parseFieldDescriptor (T_LI k).2.2.1 = some (ty_LI k) := by decide +kernel
def R_LE : String := "ExploreShares$Levels"
def T_LE : u_T := fun k => match k with
  | 0 => ("ExploreShares$Levels", "levelOf", "[I", true)
  | 1 => ("ExploreShares$Levels", "order", "[I", true)
  | 2 => ("ExploreShares$Levels", "begin", "[I", true)
  | 3 => ("ExploreShares$Levels", "levels", "I", false)
  | _ => ("ExploreShares$Levels", "found", "[Z", true)
def ty_LE : Nat → FieldType := fun k => match k with
  | 0 => (.array .int)
  | 1 => (.array .int)
  | 2 => (.array .int)
  | 3 => .int
  | _ => (.array .boolean)
theorem nm_LE : ∀ a, a < 5 → ∀ b, b < 5 → a ≠ b → (T_LE a).2.1 ≠ (T_LE b).2.1 := by decide +kernel
theorem ty_LE_ok : ∀ k, k < 5 → parseFieldDescriptor (T_LE k).2.2.1 = some (ty_LE k) := by decide +kernel
def R_WA : String := "ExploreShares$Ways"
def T_WA : u_T := fun k => match k with
  | _ => ("ExploreShares$Ways", "leads", "[Z", true)
def ty_WA : Nat → FieldType := fun k => match k with
  | _ => (.array .boolean)
theorem nm_WA : ∀ a, a < 1 → ∀ b, b < 1 → a ≠ b → (T_WA a).2.1 ≠ (T_WA b).2.1 := by decide +kernel
theorem ty_WA_ok : ∀ k, k < 1 → parseFieldDescriptor (T_WA k).2.2.1 = some (ty_WA k) := by decide +kernel
def R_SE : String := "ExploreShares$Search"
def T_SE : u_T := fun k => match k with
  | 0 => ("ExploreShares$Search", "net", "LExploreShares$Net;", true)
  | 1 => ("ExploreShares$Search", "plan", "LExploreShares$FailPlan;", true)
  | 2 => ("ExploreShares$Search", "crew", "LExploreShares$Crew;", true)
  | 3 => ("ExploreShares$Search", "queues", "LExploreShares$Queues;", true)
  | 4 => ("ExploreShares$Search", "lists", "LExploreShares$Lists;", true)
  | 5 => ("ExploreShares$Search", "levels", "LExploreShares$Levels;", true)
  | 6 => ("ExploreShares$Search", "log", "LExploreShares$FailLog;", true)
  | 7 => ("ExploreShares$Search", "ways", "LExploreShares$Ways;", true)
  | 8 => ("ExploreShares$Search", "looks", "[I", true)
  | 9 => ("ExploreShares$Search", "busy", "[I", true)
  | _ => ("ExploreShares$Search", "x", "I", false)
def ty_SE : Nat → FieldType := fun k => match k with
  | 0 => (.object "ExploreShares$Net")
  | 1 => (.object "ExploreShares$FailPlan")
  | 2 => (.object "ExploreShares$Crew")
  | 3 => (.object "ExploreShares$Queues")
  | 4 => (.object "ExploreShares$Lists")
  | 5 => (.object "ExploreShares$Levels")
  | 6 => (.object "ExploreShares$FailLog")
  | 7 => (.object "ExploreShares$Ways")
  | 8 => (.array .int)
  | 9 => (.array .int)
  | _ => .int
theorem nm_SE : ∀ a, a < 11 → ∀ b, b < 11 → a ≠ b → (T_SE a).2.1 ≠ (T_SE b).2.1 := by decide +kernel
theorem ty_SE_ok : ∀ k, k < 11 → parseFieldDescriptor (T_SE k).2.2.1 = some (ty_SE k) := by decide +kernel
def R_MO : String := "ExploreSharesModel"
def T_MO : u_T := fun k => match k with
  | 0 => ("ExploreSharesModel", "thrown", "I", false)
  | 1 => ("ExploreSharesModel", "workers", "I", true)
  | 2 => ("ExploreSharesModel", "room", "I", true)
  | 3 => ("ExploreSharesModel", "states", "I", false)
  | 4 => ("ExploreSharesModel", "moves", "I", false)
  | 5 => ("ExploreSharesModel", "told", "I", false)
  | 6 => ("ExploreSharesModel", "from", "[I", true)
  | 7 => ("ExploreSharesModel", "to", "[I", true)
  | 8 => ("ExploreSharesModel", "failWorker", "[I", true)
  | 9 => ("ExploreSharesModel", "failLevel", "[I", true)
  | 10 => ("ExploreSharesModel", "failTurn", "[I", true)
  | 11 => ("ExploreSharesModel", "wasRun", "Z", false)
  | 12 => ("ExploreSharesModel", "x", "I", false)
  | 13 => ("ExploreSharesModel", "level", "I", false)
  | 14 => ("ExploreSharesModel", "levels", "I", false)
  | 15 => ("ExploreSharesModel", "turns", "I", false)
  | 16 => ("ExploreSharesModel", "most", "I", false)
  | 17 => ("ExploreSharesModel", "failings", "I", false)
  | 18 => ("ExploreSharesModel", "levelOf", "[I", true)
  | 19 => ("ExploreSharesModel", "times", "[I", true)
  | 20 => ("ExploreSharesModel", "sizes", "[I", true)
  | 21 => ("ExploreSharesModel", "isNext", "[Z", true)
  | 22 => ("ExploreSharesModel", "isLive", "[Z", true)
  | 23 => ("ExploreSharesModel", "isLooked", "[Z", true)
  | 24 => ("ExploreSharesModel", "turnsOf", "[I", true)
  | 25 => ("ExploreSharesModel", "takenOf", "[I", true)
  | 26 => ("ExploreSharesModel", "stallsOf", "[I", true)
  | 27 => ("ExploreSharesModel", "here", "[I", true)
  | 28 => ("ExploreSharesModel", "stands", "[I", true)
  | 29 => ("ExploreSharesModel", "nextMove", "[I", true)
  | 30 => ("ExploreSharesModel", "queued", "[I", true)
  | 31 => ("ExploreSharesModel", "queue", "[I", true)
  | 32 => ("ExploreSharesModel", "failedWorker", "[I", true)
  | 33 => ("ExploreSharesModel", "failedLevel", "[I", true)
  | 34 => ("ExploreSharesModel", "failedTurns", "[I", true)
  | _ => ("ExploreSharesModel", "can", "[Z", true)
def ty_MO : Nat → FieldType := fun k => match k with
  | 0 => .int
  | 1 => .int
  | 2 => .int
  | 3 => .int
  | 4 => .int
  | 5 => .int
  | 6 => (.array .int)
  | 7 => (.array .int)
  | 8 => (.array .int)
  | 9 => (.array .int)
  | 10 => (.array .int)
  | 11 => .boolean
  | 12 => .int
  | 13 => .int
  | 14 => .int
  | 15 => .int
  | 16 => .int
  | 17 => .int
  | 18 => (.array .int)
  | 19 => (.array .int)
  | 20 => (.array .int)
  | 21 => (.array .boolean)
  | 22 => (.array .boolean)
  | 23 => (.array .boolean)
  | 24 => (.array .int)
  | 25 => (.array .int)
  | 26 => (.array .int)
  | 27 => (.array .int)
  | 28 => (.array .int)
  | 29 => (.array .int)
  | 30 => (.array .int)
  | 31 => (.array .int)
  | 32 => (.array .int)
  | 33 => (.array .int)
  | 34 => (.array .int)
  | _ => (.array .boolean)
theorem nm_MO : ∀ a, a < 36 → ∀ b, b < 36 → a ≠ b → (T_MO a).2.1 ≠ (T_MO b).2.1 := by decide +kernel
theorem ty_MO_ok : ∀ k, k < 36 → parseFieldDescriptor (T_MO k).2.2.1 = some (ty_MO k) := by decide +kernel
abbrev vwCl : List vw_C := [(R_X, T_X, 4), (R_NET, T_NET, 4), (R_FP, T_FP, 4), (R_FL, T_FL, 4), (R_CR, T_CR, 8), (R_QU, T_QU, 5), (R_LI, T_LI, 6), (R_LE, T_LE, 5), (R_WA, T_WA, 1), (R_SE, T_SE, 11), (R_MO, T_MO, 36)]
abbrev xs_tys (cI cB cL cR : ClassId) : List (ClassId × FieldType) := [(cI, .int), (cB, .boolean), (cL, .long), (cR, .array .int)]
