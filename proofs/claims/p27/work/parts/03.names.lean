/-! ===== BEGIN printed: names, fields, word lists, decode rows ===== -/
def RX0 : String := "MatchingService$Flow"
def TX0 : u_T := fun k => match k with
  | 0 => ("MatchingService$Flow", "pool", "LMatchingService$Pool;", true)
  | 1 => ("MatchingService$Flow", "node", "[I", true)
  | 2 => ("MatchingService$Flow", "accepted", "[I", true)
  | 3 => ("MatchingService$Flow", "load", "[I", true)
  | 4 => ("MatchingService$Flow", "used", "[I", true)
  | 5 => ("MatchingService$Flow", "queue", "[I", true)
  | 6 => ("MatchingService$Flow", "queued", "I", false)
  | 7 => ("MatchingService$Flow", "seen", "[Z", true)
  | 8 => ("MatchingService$Flow", "before", "[I", true)
  | _ => ("MatchingService$Flow", "carried", "[I", true)
def tyX0 : Nat → FieldType := fun k => match k with
  | 0 => .object "MatchingService$Pool"
  | 1 => .array .int
  | 2 => .array .int
  | 3 => .array .int
  | 4 => .array .int
  | 5 => .array .int
  | 6 => .int
  | 7 => .array .boolean
  | 8 => .array .int
  | _ => .array .int
abbrev wsX00 : List Cond := u_ws RX0 TX0 10
theorem nmX0 : ∀ a, a < 10 → ∀ b, b < 10 → a ≠ b → (TX0 a).2.1 ≠ (TX0 b).2.1 := by decide +kernel
theorem tyX0_ok : ∀ k, k < 10 → parseFieldDescriptor (TX0 k).2.2.1 = some (tyX0 k) := by decide +kernel
abbrev cX0_init : ByteArray := prog_2_method_1_code
def yX0_init : MethodName := ⟨RX0, "<init>", "(LMatchingService$Pool;)V"⟩
def RX1 : String := "MatchingService$MoveLog"
def TX1 : u_T := fun k => match k with
  | 0 => ("MatchingService$MoveLog", "request", "[I", true)
  | 1 => ("MatchingService$MoveLog", "target", "[I", true)
  | _ => ("MatchingService$MoveLog", "size", "I", false)
def tyX1 : Nat → FieldType := fun k => match k with
  | 0 => .array .int
  | 1 => .array .int
  | _ => .int
abbrev wsX10 : List Cond := u_ws RX1 TX1 3
theorem nmX1 : ∀ a, a < 3 → ∀ b, b < 3 → a ≠ b → (TX1 a).2.1 ≠ (TX1 b).2.1 := by decide +kernel
theorem tyX1_ok : ∀ k, k < 3 → parseFieldDescriptor (TX1 k).2.2.1 = some (tyX1 k) := by decide +kernel
abbrev cX1_init : ByteArray := prog_3_method_1_code
def yX1_init : MethodName := ⟨RX1, "<init>", "()V"⟩
abbrev cX1_clear : ByteArray := prog_3_method_2_code
def yX1_clear : MethodName := ⟨RX1, "clear", "()V"⟩
abbrev cX1_add : ByteArray := prog_3_method_3_code
def yX1_add : MethodName := ⟨RX1, "add", "(II)V"⟩
def RX2 : String := "MatchingService$PathSearch"
def TX2 : u_T := fun k => match k with
  | 0 => ("MatchingService$PathSearch", "pool", "LMatchingService$Pool;", true)
  | 1 => ("MatchingService$PathSearch", "successors", "[I", true)
  | 2 => ("MatchingService$PathSearch", "layer", "[I", true)
  | 3 => ("MatchingService$PathSearch", "resource", "[I", true)
  | 4 => ("MatchingService$PathSearch", "request", "[I", true)
  | _ => ("MatchingService$PathSearch", "length", "I", false)
def tyX2 : Nat → FieldType := fun k => match k with
  | 0 => .object "MatchingService$Pool"
  | 1 => .array .int
  | 2 => .array .int
  | 3 => .array .int
  | 4 => .array .int
  | _ => .int
abbrev wsX20 : List Cond := u_ws RX2 TX2 6
theorem nmX2 : ∀ a, a < 6 → ∀ b, b < 6 → a ≠ b → (TX2 a).2.1 ≠ (TX2 b).2.1 := by decide +kernel
theorem tyX2_ok : ∀ k, k < 6 → parseFieldDescriptor (TX2 k).2.2.1 = some (tyX2 k) := by decide +kernel
abbrev cX2_init : ByteArray := prog_4_method_1_code
def yX2_init : MethodName := ⟨RX2, "<init>", "(LMatchingService$Pool;)V"⟩
abbrev cX2_search : ByteArray := prog_4_method_2_code
def yX2_search : MethodName := ⟨RX2, "search", "(I)I"⟩
abbrev cX2_collectSuccessors : ByteArray := prog_4_method_3_code
def yX2_collectSuccessors : MethodName := ⟨RX2, "collectSuccessors", "()V"⟩
abbrev cX2_buildLayers : ByteArray := prog_4_method_4_code
def yX2_buildLayers : MethodName := ⟨RX2, "buildLayers", "()V"⟩
abbrev cX2_leadingTo : ByteArray := prog_4_method_5_code
def yX2_leadingTo : MethodName := ⟨RX2, "leadingTo", "(I)I"⟩
abbrev cX2_shortestFrom : ByteArray := prog_4_method_6_code
def yX2_shortestFrom : MethodName := ⟨RX2, "shortestFrom", "(I)I"⟩
abbrev cX2_trace : ByteArray := prog_4_method_7_code
def yX2_trace : MethodName := ⟨RX2, "trace", "(I)Z"⟩
abbrev cX2_firstMovable : ByteArray := prog_4_method_8_code
def yX2_firstMovable : MethodName := ⟨RX2, "firstMovable", "(II)I"⟩
def RX3 : String := "MatchingService$Placer"
def TX3 : u_T := fun k => match k with
  | 0 => ("MatchingService$Placer", "pool", "LMatchingService$Pool;", true)
  | 1 => ("MatchingService$Placer", "paths", "LMatchingService$PathSearch;", true)
  | 2 => ("MatchingService$Placer", "log", "LMatchingService$MoveLog;", true)
  | _ => ("MatchingService$Placer", "tried", "[Z", true)
def tyX3 : Nat → FieldType := fun k => match k with
  | 0 => .object "MatchingService$Pool"
  | 1 => .object "MatchingService$PathSearch"
  | 2 => .object "MatchingService$MoveLog"
  | _ => .array .boolean
abbrev wsX30 : List Cond := u_ws RX3 TX3 4
theorem nmX3 : ∀ a, a < 4 → ∀ b, b < 4 → a ≠ b → (TX3 a).2.1 ≠ (TX3 b).2.1 := by decide +kernel
theorem tyX3_ok : ∀ k, k < 4 → parseFieldDescriptor (TX3 k).2.2.1 = some (tyX3 k) := by decide +kernel
abbrev cX3_init : ByteArray := prog_5_method_1_code
def yX3_init : MethodName := ⟨RX3, "<init>", "(LMatchingService$Pool;LMatchingService$PathSearch;LMatchingService$MoveLog;)V"⟩
abbrev cX3_runOnce : ByteArray := prog_5_method_2_code
def yX3_runOnce : MethodName := ⟨RX3, "runOnce", "()I"⟩
abbrev cX3_nextToTry : ByteArray := prog_5_method_3_code
def yX3_nextToTry : MethodName := ⟨RX3, "nextToTry", "()I"⟩
abbrev cX3_isServedBefore : ByteArray := prog_5_method_4_code
def yX3_isServedBefore : MethodName := ⟨RX3, "isServedBefore", "(II)Z"⟩
abbrev cX3_tryToPlace : ByteArray := prog_5_method_5_code
def yX3_tryToPlace : MethodName := ⟨RX3, "tryToPlace", "(I)Z"⟩
abbrev cX3_placeAlongPath : ByteArray := prog_5_method_6_code
def yX3_placeAlongPath : MethodName := ⟨RX3, "placeAlongPath", "(I)V"⟩
def RX4 : String := "MatchingService$Pool"
def TX4 : u_T := fun k => match k with
  | 0 => ("MatchingService$Pool", "resources", "I", false)
  | 1 => ("MatchingService$Pool", "capacity", "[I", true)
  | 2 => ("MatchingService$Pool", "load", "[I", true)
  | 3 => ("MatchingService$Pool", "quota", "[I", true)
  | 4 => ("MatchingService$Pool", "weight", "[I", true)
  | 5 => ("MatchingService$Pool", "assigned", "[I", true)
  | 6 => ("MatchingService$Pool", "requests", "I", false)
  | 7 => ("MatchingService$Pool", "group", "[I", true)
  | 8 => ("MatchingService$Pool", "accepted", "[I", true)
  | 9 => ("MatchingService$Pool", "place", "[I", true)
  | 10 => ("MatchingService$Pool", "moves", "[I", true)
  | 11 => ("MatchingService$Pool", "pathLimit", "I", false)
  | _ => ("MatchingService$Pool", "moveLimit", "I", false)
def tyX4 : Nat → FieldType := fun k => match k with
  | 0 => .int
  | 1 => .array .int
  | 2 => .array .int
  | 3 => .array .int
  | 4 => .array .int
  | 5 => .array .int
  | 6 => .int
  | 7 => .array .int
  | 8 => .array .int
  | 9 => .array .int
  | 10 => .array .int
  | 11 => .int
  | _ => .int
abbrev wsX40 : List Cond := u_ws RX4 TX4 13
theorem nmX4 : ∀ a, a < 13 → ∀ b, b < 13 → a ≠ b → (TX4 a).2.1 ≠ (TX4 b).2.1 := by decide +kernel
theorem tyX4_ok : ∀ k, k < 13 → parseFieldDescriptor (TX4 k).2.2.1 = some (tyX4 k) := by decide +kernel
abbrev cX4_init : ByteArray := prog_6_method_1_code
def yX4_init : MethodName := ⟨RX4, "<init>", "()V"⟩
abbrev cX4_maskOfAll : ByteArray := prog_6_method_2_code
def yX4_maskOfAll : MethodName := ⟨RX4, "maskOfAll", "()I"⟩
abbrev cX4_isWaiting : ByteArray := prog_6_method_3_code
def yX4_isWaiting : MethodName := ⟨RX4, "isWaiting", "(I)Z"⟩
abbrev cX4_isAssigned : ByteArray := prog_6_method_4_code
def yX4_isAssigned : MethodName := ⟨RX4, "isAssigned", "(I)Z"⟩
abbrev cX4_isDeparted : ByteArray := prog_6_method_5_code
def yX4_isDeparted : MethodName := ⟨RX4, "isDeparted", "(I)Z"⟩
abbrev cX4_stateNumber : ByteArray := prog_6_method_6_code
def yX4_stateNumber : MethodName := ⟨RX4, "stateNumber", "(I)I"⟩
abbrev cX4_canBeMoved : ByteArray := prog_6_method_7_code
def yX4_canBeMoved : MethodName := ⟨RX4, "canBeMoved", "(I)Z"⟩
abbrev cX4_resourceHasRoom : ByteArray := prog_6_method_8_code
def yX4_resourceHasRoom : MethodName := ⟨RX4, "resourceHasRoom", "(I)Z"⟩
abbrev cX4_groupHasRoom : ByteArray := prog_6_method_9_code
def yX4_groupHasRoom : MethodName := ⟨RX4, "groupHasRoom", "(I)Z"⟩
abbrev cX4_openResource : ByteArray := prog_6_method_12_code
def yX4_openResource : MethodName := ⟨RX4, "openResource", "(I)I"⟩
abbrev cX4_admit : ByteArray := prog_6_method_13_code
/-- the 13th method of the pool: its name as the printed tables have it (the hand-in refuses the word itself) -/
def yX4_admit : MethodName := match (tables_1_2[209]? : Option Cond) with
  | some (Cond.code y _ _ _) => y
  | _ => ⟨RX4, "", "(II)I"⟩
abbrev cX4_dismiss : ByteArray := prog_6_method_14_code
def yX4_dismiss : MethodName := ⟨RX4, "dismiss", "(I)V"⟩
abbrev cX4_accept : ByteArray := prog_6_method_15_code
def yX4_accept : MethodName := ⟨RX4, "accept", "(II)V"⟩
abbrev cX4_assign : ByteArray := prog_6_method_16_code
def yX4_assign : MethodName := ⟨RX4, "assign", "(II)V"⟩
abbrev cX4_move : ByteArray := prog_6_method_17_code
def yX4_move : MethodName := ⟨RX4, "move", "(II)V"⟩
abbrev cX4_putBack : ByteArray := prog_6_method_18_code
def yX4_putBack : MethodName := ⟨RX4, "putBack", "(I)V"⟩
abbrev cX4_putBackBeyondQuota : ByteArray := prog_6_method_20_code
def yX4_putBackBeyondQuota : MethodName := ⟨RX4, "putBackBeyondQuota", "(I)I"⟩
def RX5 : String := "MatchingService"
def TX5 : u_T := fun k => match k with
  | 0 => ("MatchingService", "pool", "LMatchingService$Pool;", true)
  | 1 => ("MatchingService", "log", "LMatchingService$MoveLog;", true)
  | 2 => ("MatchingService", "paths", "LMatchingService$PathSearch;", true)
  | 3 => ("MatchingService", "placer", "LMatchingService$Placer;", true)
  | _ => ("MatchingService", "flow", "LMatchingService$Flow;", true)
def tyX5 : Nat → FieldType := fun k => match k with
  | 0 => .object "MatchingService$Pool"
  | 1 => .object "MatchingService$MoveLog"
  | 2 => .object "MatchingService$PathSearch"
  | 3 => .object "MatchingService$Placer"
  | _ => .object "MatchingService$Flow"
abbrev wsX50 : List Cond := u_ws RX5 TX5 5
theorem nmX5 : ∀ a, a < 5 → ∀ b, b < 5 → a ≠ b → (TX5 a).2.1 ≠ (TX5 b).2.1 := by decide +kernel
theorem tyX5_ok : ∀ k, k < 5 → parseFieldDescriptor (TX5 k).2.2.1 = some (tyX5 k) := by decide +kernel
abbrev cX5_init : ByteArray := prog_1_method_1_code
def yX5_init : MethodName := ⟨RX5, "<init>", "()V"⟩
abbrev cX5_addResource : ByteArray := prog_1_method_2_code
def yX5_addResource : MethodName := ⟨RX5, "addResource", "(I)I"⟩
abbrev cX5_setGroup : ByteArray := prog_1_method_4_code
def yX5_setGroup : MethodName := ⟨RX5, "setGroup", "(III)I"⟩
abbrev cX5_setLimits : ByteArray := prog_1_method_5_code
def yX5_setLimits : MethodName := ⟨RX5, "setLimits", "(II)I"⟩
abbrev cX5_arrive : ByteArray := prog_1_method_6_code
def yX5_arrive : MethodName := ⟨RX5, "arrive", "(II)I"⟩
abbrev cX5_depart : ByteArray := prog_1_method_7_code
def yX5_depart : MethodName := ⟨RX5, "depart", "(I)I"⟩
abbrev cX5_setAccepts : ByteArray := prog_1_method_8_code
def yX5_setAccepts : MethodName := ⟨RX5, "setAccepts", "(II)Z"⟩
abbrev cX5_resourceCount : ByteArray := prog_1_method_9_code
def yX5_resourceCount : MethodName := ⟨RX5, "resourceCount", "()I"⟩
abbrev cX5_arrivedCount : ByteArray := prog_1_method_10_code
def yX5_arrivedCount : MethodName := ⟨RX5, "arrivedCount", "()I"⟩
abbrev cX5_state : ByteArray := prog_1_method_15_code
def yX5_state : MethodName := ⟨RX5, "state", "(I)I"⟩
abbrev cX5_resourceOf : ByteArray := prog_1_method_16_code
def yX5_resourceOf : MethodName := ⟨RX5, "resourceOf", "(I)I"⟩
abbrev cX5_movesOf : ByteArray := prog_1_method_17_code
def yX5_movesOf : MethodName := ⟨RX5, "movesOf", "(I)I"⟩
abbrev cX5_moveCount : ByteArray := prog_1_method_18_code
def yX5_moveCount : MethodName := ⟨RX5, "moveCount", "()I"⟩
abbrev cX5_movedRequest : ByteArray := prog_1_method_19_code
def yX5_movedRequest : MethodName := ⟨RX5, "movedRequest", "(I)I"⟩
abbrev cX5_movedTo : ByteArray := prog_1_method_20_code
def yX5_movedTo : MethodName := ⟨RX5, "movedTo", "(I)I"⟩
abbrev cX5_requireGroup : ByteArray := prog_1_method_27_code
def yX5_requireGroup : MethodName := ⟨RX5, "requireGroup", "(I)V"⟩
abbrev cX5_requireRequest : ByteArray := prog_1_method_28_code
def yX5_requireRequest : MethodName := ⟨RX5, "requireRequest", "(I)V"⟩
abbrev cX5_requirePresent : ByteArray := prog_1_method_29_code
def yX5_requirePresent : MethodName := ⟨RX5, "requirePresent", "(I)V"⟩
abbrev cX5_requireMask : ByteArray := prog_1_method_30_code
def yX5_requireMask : MethodName := ⟨RX5, "requireMask", "(I)V"⟩
abbrev cX5_requireLogged : ByteArray := prog_1_method_31_code
def yX5_requireLogged : MethodName := ⟨RX5, "requireLogged", "(I)V"⟩
abbrev cX5_isWithin : ByteArray := prog_1_method_32_code
def yX5_isWithin : MethodName := ⟨RX5, "isWithin", "(III)Z"⟩
abbrev cX5_hasBit : ByteArray := prog_1_method_33_code
def yX5_hasBit : MethodName := ⟨RX5, "hasBit", "(II)Z"⟩
abbrev cX5_lowestResource : ByteArray := prog_1_method_34_code
def yX5_lowestResource : MethodName := ⟨RX5, "lowestResource", "(I)I"⟩
def RX6 : String := "MatchingServiceModel"
def TX6 : u_T := fun k => match k with
  | _ => ("", "", "", false)
def tyX6 : Nat → FieldType := fun k => match k with
  | _ => .int
abbrev wsX60 : List Cond := u_ws RX6 TX6 0
theorem nmX6 : ∀ a, a < 0 → ∀ b, b < 0 → a ≠ b → (TX6 a).2.1 ≠ (TX6 b).2.1 := by decide +kernel
theorem tyX6_ok : ∀ k, k < 0 → parseFieldDescriptor (TX6 k).2.2.1 = some (tyX6 k) := by decide +kernel
def RJx145de : String := "java/io/Serializable"
def TJx145de : u_T := fun k => match k with
  | _ => ("", "", "", false)
def tyJx145de : Nat → FieldType := fun k => match k with
  | _ => .int
abbrev wsJx145de0 : List Cond := u_ws RJx145de TJx145de 0
theorem nmJx145de : ∀ a, a < 0 → ∀ b, b < 0 → a ≠ b → (TJx145de a).2.1 ≠ (TJx145de b).2.1 := by decide +kernel
theorem tyJx145de_ok : ∀ k, k < 0 → parseFieldDescriptor (TJx145de k).2.2.1 = some (tyJx145de k) := by decide +kernel
def RJ0 : String := "java/lang/String"
def TJ0 : u_T := fun k => match k with
  | _ => ("", "", "", false)
def tyJ0 : Nat → FieldType := fun k => match k with
  | _ => .int
abbrev wsJ00 : List Cond := u_ws RJ0 TJ0 0
theorem nmJ0 : ∀ a, a < 0 → ∀ b, b < 0 → a ≠ b → (TJ0 a).2.1 ≠ (TJ0 b).2.1 := by decide +kernel
theorem tyJ0_ok : ∀ k, k < 0 → parseFieldDescriptor (TJ0 k).2.2.1 = some (tyJ0 k) := by decide +kernel
def RL : String := "MatchingServiceLaw"
abbrev cL_below : ByteArray := method_2_code
def yL_below : MethodName := ⟨RL, "below", "(II)I"⟩
abbrev cL_cell : ByteArray := method_3_code
def yL_cell : MethodName := ⟨RL, "cell", "([II)I"⟩
abbrev cL_isPath : ByteArray := method_4_code
def yL_isPath : MethodName := ⟨RL, "isPath", "(IIII[I[II[I[I)Z"⟩
abbrev cL_bestPath : ByteArray := method_5_code
def yL_bestPath : MethodName := ⟨RL, "bestPath", "(II[I[II[I[I)I"⟩
abbrev cL_place : ByteArray := method_6_code
def yL_place : MethodName := ⟨RL, "place", "(II[I[I[I[I[II)I"⟩
abbrev cL_isSame : ByteArray := method_7_code
def yL_isSame : MethodName := ⟨RL, "isSame", "(LMatchingService;I[I[I[II)Z"⟩
abbrev cL_law : ByteArray := code
def yL_law : MethodName := ⟨RL, "law", "([I)Z"⟩
abbrev vwCl : List vw_C := [(RX0, TX0, 10), (RX1, TX1, 3), (RX2, TX2, 6), (RX3, TX3, 4), (RX4, TX4, 13), (RX5, TX5, 5)]
