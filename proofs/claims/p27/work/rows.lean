section
-- ===== PART A: goes FIRST, ahead of the names: the tables' words, and 'selects' of the private methods out of them =====
/-- a private method of a class that the tables say can be made, by its rows of tables_1 -/
def lw_okq (q : MethodName × Nat) : Prop := (q.1.cls ≠ "java/lang/invoke/MethodHandle" ∧ q.1.cls ≠ "java/lang/invoke/VarHandle") ∧ Cond.instantiable q.1.cls q.2 ∈ tables_1 ∧ Cond.privateMethod q.1 ∈ tables_1 ∧ Cond.instanceMethod q.1 ∈ tables_1
theorem lw_p0 : lw_okq (⟨"java/lang/Throwable", "fillInStackTrace", "(I)Ljava/lang/Throwable;"⟩, 6) := ⟨⟨by decide +kernel, by decide +kernel⟩, List.mem_of_getElem? (i := 252) (by decide +kernel), List.mem_of_getElem? (i := 250) (by decide +kernel), List.mem_of_getElem? (i := 251) (by decide +kernel)⟩
theorem lw_p1 : lw_okq (⟨"MatchingService$Placer", "nextToTry", "()I"⟩, 4) := ⟨⟨by decide +kernel, by decide +kernel⟩, List.mem_of_getElem? (i := 134) (by decide +kernel), List.mem_of_getElem? (i := 310) (by decide +kernel), List.mem_of_getElem? (i := 311) (by decide +kernel)⟩
theorem lw_p2 : lw_okq (⟨"MatchingService$Placer", "isServedBefore", "(II)Z"⟩, 4) := ⟨⟨by decide +kernel, by decide +kernel⟩, List.mem_of_getElem? (i := 134) (by decide +kernel), List.mem_of_getElem? (i := 318) (by decide +kernel), List.mem_of_getElem? (i := 319) (by decide +kernel)⟩
theorem lw_p3 : lw_okq (⟨"MatchingService$PathSearch", "collectSuccessors", "()V"⟩, 6) := ⟨⟨by decide +kernel, by decide +kernel⟩, List.mem_of_getElem? (i := 106) (by decide +kernel), List.mem_of_getElem? (i := 334) (by decide +kernel), List.mem_of_getElem? (i := 335) (by decide +kernel)⟩
theorem lw_p4 : lw_okq (⟨"MatchingService$PathSearch", "buildLayers", "()V"⟩, 6) := ⟨⟨by decide +kernel, by decide +kernel⟩, List.mem_of_getElem? (i := 106) (by decide +kernel), List.mem_of_getElem? (i := 342) (by decide +kernel), List.mem_of_getElem? (i := 343) (by decide +kernel)⟩
theorem lw_p5 : lw_okq (⟨"MatchingService$PathSearch", "leadingTo", "(I)I"⟩, 6) := ⟨⟨by decide +kernel, by decide +kernel⟩, List.mem_of_getElem? (i := 106) (by decide +kernel), List.mem_of_getElem? (i := 350) (by decide +kernel), List.mem_of_getElem? (i := 351) (by decide +kernel)⟩
theorem lw_p6 : lw_okq (⟨"MatchingService$PathSearch", "shortestFrom", "(I)I"⟩, 6) := ⟨⟨by decide +kernel, by decide +kernel⟩, List.mem_of_getElem? (i := 106) (by decide +kernel), List.mem_of_getElem? (i := 354) (by decide +kernel), List.mem_of_getElem? (i := 355) (by decide +kernel)⟩
theorem lw_p7 : lw_okq (⟨"MatchingService$PathSearch", "trace", "(I)Z"⟩, 6) := ⟨⟨by decide +kernel, by decide +kernel⟩, List.mem_of_getElem? (i := 106) (by decide +kernel), List.mem_of_getElem? (i := 358) (by decide +kernel), List.mem_of_getElem? (i := 359) (by decide +kernel)⟩
theorem lw_p8 : lw_okq (⟨"MatchingService$PathSearch", "firstMovable", "(II)I"⟩, 6) := ⟨⟨by decide +kernel, by decide +kernel⟩, List.mem_of_getElem? (i := 106) (by decide +kernel), List.mem_of_getElem? (i := 368) (by decide +kernel), List.mem_of_getElem? (i := 369) (by decide +kernel)⟩
theorem lw_p9 : lw_okq (⟨"MatchingService$Placer", "placeAlongPath", "(I)V"⟩, 4) := ⟨⟨by decide +kernel, by decide +kernel⟩, List.mem_of_getElem? (i := 134) (by decide +kernel), List.mem_of_getElem? (i := 372) (by decide +kernel), List.mem_of_getElem? (i := 373) (by decide +kernel)⟩
theorem lw_p10 : lw_okq (⟨"MatchingService", "requireGroup", "(I)V"⟩, 5) := ⟨⟨by decide +kernel, by decide +kernel⟩, List.mem_of_getElem? (i := 15) (by decide +kernel), List.mem_of_getElem? (i := 401) (by decide +kernel), List.mem_of_getElem? (i := 402) (by decide +kernel)⟩
theorem lw_p11 : lw_okq (⟨"MatchingService", "requireMask", "(I)V"⟩, 5) := ⟨⟨by decide +kernel, by decide +kernel⟩, List.mem_of_getElem? (i := 15) (by decide +kernel), List.mem_of_getElem? (i := 437) (by decide +kernel), List.mem_of_getElem? (i := 438) (by decide +kernel)⟩
theorem lw_p12 : lw_okq (⟨"MatchingService", "requirePresent", "(I)V"⟩, 5) := ⟨⟨by decide +kernel, by decide +kernel⟩, List.mem_of_getElem? (i := 15) (by decide +kernel), List.mem_of_getElem? (i := 456) (by decide +kernel), List.mem_of_getElem? (i := 457) (by decide +kernel)⟩
theorem lw_p13 : lw_okq (⟨"MatchingService", "requireRequest", "(I)V"⟩, 5) := ⟨⟨by decide +kernel, by decide +kernel⟩, List.mem_of_getElem? (i := 15) (by decide +kernel), List.mem_of_getElem? (i := 460) (by decide +kernel), List.mem_of_getElem? (i := 461) (by decide +kernel)⟩
theorem lw_p14 : lw_okq (⟨"MatchingService", "requireLogged", "(I)V"⟩, 5) := ⟨⟨by decide +kernel, by decide +kernel⟩, List.mem_of_getElem? (i := 15) (by decide +kernel), List.mem_of_getElem? (i := 553) (by decide +kernel), List.mem_of_getElem? (i := 554) (by decide +kernel)⟩
def lw_privs_1 : List (MethodName × Nat) := [(⟨"java/lang/Throwable", "fillInStackTrace", "(I)Ljava/lang/Throwable;"⟩, 6), (⟨"MatchingService$Placer", "nextToTry", "()I"⟩, 4), (⟨"MatchingService$Placer", "isServedBefore", "(II)Z"⟩, 4), (⟨"MatchingService$PathSearch", "collectSuccessors", "()V"⟩, 6), (⟨"MatchingService$PathSearch", "buildLayers", "()V"⟩, 6), (⟨"MatchingService$PathSearch", "leadingTo", "(I)I"⟩, 6), (⟨"MatchingService$PathSearch", "shortestFrom", "(I)I"⟩, 6), (⟨"MatchingService$PathSearch", "trace", "(I)Z"⟩, 6), (⟨"MatchingService$PathSearch", "firstMovable", "(II)I"⟩, 6), (⟨"MatchingService$Placer", "placeAlongPath", "(I)V"⟩, 4), (⟨"MatchingService", "requireGroup", "(I)V"⟩, 5), (⟨"MatchingService", "requireMask", "(I)V"⟩, 5), (⟨"MatchingService", "requirePresent", "(I)V"⟩, 5), (⟨"MatchingService", "requireRequest", "(I)V"⟩, 5), (⟨"MatchingService", "requireLogged", "(I)V"⟩, 5)]
theorem lw_r1 : ∀ q ∈ lw_privs_1, lw_okq q := List.forall_mem_cons.mpr ⟨lw_p0, List.forall_mem_cons.mpr ⟨lw_p1, List.forall_mem_cons.mpr ⟨lw_p2, List.forall_mem_cons.mpr ⟨lw_p3, List.forall_mem_cons.mpr ⟨lw_p4, List.forall_mem_cons.mpr ⟨lw_p5, List.forall_mem_cons.mpr ⟨lw_p6, List.forall_mem_cons.mpr ⟨lw_p7, List.forall_mem_cons.mpr ⟨lw_p8, List.forall_mem_cons.mpr ⟨lw_p9, List.forall_mem_cons.mpr ⟨lw_p10, List.forall_mem_cons.mpr ⟨lw_p11, List.forall_mem_cons.mpr ⟨lw_p12, List.forall_mem_cons.mpr ⟨lw_p13, List.forall_mem_cons.mpr ⟨lw_p14, fun _ h => absurd h List.not_mem_nil⟩⟩⟩⟩⟩⟩⟩⟩⟩⟩⟩⟩⟩⟩⟩
def lw_privs : List (MethodName × Nat) := lw_privs_1
def lw_tbl : List Cond := k2_sels lw_privs ++ tables_1
theorem lw_privs_ok : ∀ q ∈ lw_privs, lw_okq q := lw_r1
-- ===== end of PART A; then your names; then what follows =====
end
section
/-! ===== BEGIN words of one list among another's, by their places ===== -/
theorem goodIn_r {big : List Cond} (ws : List Cond) (ps : List Nat) (hp : ws = ps.filterMap (fun i => big[i]?)) (h : ws.all goodWord = true) : GoodIn big ws := by
  intro w hw
  have h1 := List.all_eq_true.mp h w hw
  rw [hp] at hw
  obtain ⟨i, -, hi⟩ := List.mem_filterMap.mp hw
  have hm : w ∈ big := by first | exact List.mem_of_getElem? hi | exact List.getElem?_mem hi
  exact ⟨hm, good_of_word h1⟩
theorem goodIn_app {big a b : List Cond} (ha : GoodIn big a) (hb : GoodIn big b) : GoodIn big (a ++ b) := fun w h => (List.mem_append.mp h).elim (ha w) (hb w)
theorem goodIn_ca {big a b : List Cond} {c : Cond} (ha : GoodIn big (c :: a)) (hb : GoodIn big b) : GoodIn big (c :: (a ++ b)) := fun w h => (List.mem_cons.mp h).elim (fun e => ha w (List.mem_cons.mpr (Or.inl e))) (fun h => (List.mem_append.mp h).elim (fun h => ha w (List.mem_cons.mpr (Or.inr h))) (hb w))
theorem goodIn_sub {big ws : List Cond} (hm : ∀ w ∈ ws, w ∈ big) (h : ws.all goodWord = true) : GoodIn big ws := fun w hw => ⟨hm w hw, good_of_word (List.all_eq_true.mp h w hw)⟩
/-! ===== END ===== -/
end
section
/-! ===== BEGIN printed: names, fields, word lists, decode rows ===== -/
def RX0 : String := "MatchingService$Flow"
def TX0 : u_T := fun k => match k with
  | 0 => ("MatchingService$Flow", "pool", "LMatchingService$Pool;", true)
  | 1 => ("MatchingService$Flow", "node", "[I", true)
  | 2 => ("MatchingService$Flow", "accepted", "[I", true)
  | 3 => ("MatchingService$Flow", "load", "[I", true)
  | 4 => ("MatchingService$Flow", "used", "[I", true)
  | 5 => ("MatchingService$Flow", "queue", "[I", true)
  | 6 => ("MatchingService$Flow", "queued", "I", false)
  | 7 => ("MatchingService$Flow", "seen", "[Z", true)
  | 8 => ("MatchingService$Flow", "before", "[I", true)
  | _ => ("MatchingService$Flow", "carried", "[I", true)
def tyX0 : Nat → FieldType := fun k => match k with
  | 0 => .object "MatchingService$Pool"
  | 1 => .array .int
  | 2 => .array .int
  | 3 => .array .int
  | 4 => .array .int
  | 5 => .array .int
  | 6 => .int
  | 7 => .array .boolean
  | 8 => .array .int
  | _ => .array .int
abbrev wsX00 : List Cond := u_ws RX0 TX0 10
theorem nmX0 : ∀ a, a < 10 → ∀ b, b < 10 → a ≠ b → (TX0 a).2.1 ≠ (TX0 b).2.1 := by decide +kernel
theorem tyX0_ok : ∀ k, k < 10 → parseFieldDescriptor (TX0 k).2.2.1 = some (tyX0 k) := by decide +kernel
abbrev cX0_init : ByteArray := prog_2_method_1_code
def yX0_init : MethodName := ⟨RX0, "<init>", "(LMatchingService$Pool;)V"⟩
def RX1 : String := "MatchingService$MoveLog"
def TX1 : u_T := fun k => match k with
  | 0 => ("MatchingService$MoveLog", "request", "[I", true)
  | 1 => ("MatchingService$MoveLog", "target", "[I", true)
  | _ => ("MatchingService$MoveLog", "size", "I", false)
def tyX1 : Nat → FieldType := fun k => match k with
  | 0 => .array .int
  | 1 => .array .int
  | _ => .int
abbrev wsX10 : List Cond := u_ws RX1 TX1 3
theorem nmX1 : ∀ a, a < 3 → ∀ b, b < 3 → a ≠ b → (TX1 a).2.1 ≠ (TX1 b).2.1 := by decide +kernel
theorem tyX1_ok : ∀ k, k < 3 → parseFieldDescriptor (TX1 k).2.2.1 = some (tyX1 k) := by decide +kernel
abbrev cX1_init : ByteArray := prog_3_method_1_code
def yX1_init : MethodName := ⟨RX1, "<init>", "()V"⟩
abbrev cX1_clear : ByteArray := prog_3_method_2_code
def yX1_clear : MethodName := ⟨RX1, "clear", "()V"⟩
abbrev cX1_add : ByteArray := prog_3_method_3_code
def yX1_add : MethodName := ⟨RX1, "add", "(II)V"⟩
def RX2 : String := "MatchingService$PathSearch"
def TX2 : u_T := fun k => match k with
  | 0 => ("MatchingService$PathSearch", "pool", "LMatchingService$Pool;", true)
  | 1 => ("MatchingService$PathSearch", "successors", "[I", true)
  | 2 => ("MatchingService$PathSearch", "layer", "[I", true)
  | 3 => ("MatchingService$PathSearch", "resource", "[I", true)
  | 4 => ("MatchingService$PathSearch", "request", "[I", true)
  | _ => ("MatchingService$PathSearch", "length", "I", false)
def tyX2 : Nat → FieldType := fun k => match k with
  | 0 => .object "MatchingService$Pool"
  | 1 => .array .int
  | 2 => .array .int
  | 3 => .array .int
  | 4 => .array .int
  | _ => .int
abbrev wsX20 : List Cond := u_ws RX2 TX2 6
theorem nmX2 : ∀ a, a < 6 → ∀ b, b < 6 → a ≠ b → (TX2 a).2.1 ≠ (TX2 b).2.1 := by decide +kernel
theorem tyX2_ok : ∀ k, k < 6 → parseFieldDescriptor (TX2 k).2.2.1 = some (tyX2 k) := by decide +kernel
abbrev cX2_init : ByteArray := prog_4_method_1_code
def yX2_init : MethodName := ⟨RX2, "<init>", "(LMatchingService$Pool;)V"⟩
abbrev cX2_search : ByteArray := prog_4_method_2_code
def yX2_search : MethodName := ⟨RX2, "search", "(I)I"⟩
abbrev cX2_collectSuccessors : ByteArray := prog_4_method_3_code
def yX2_collectSuccessors : MethodName := ⟨RX2, "collectSuccessors", "()V"⟩
abbrev cX2_buildLayers : ByteArray := prog_4_method_4_code
def yX2_buildLayers : MethodName := ⟨RX2, "buildLayers", "()V"⟩
abbrev cX2_leadingTo : ByteArray := prog_4_method_5_code
def yX2_leadingTo : MethodName := ⟨RX2, "leadingTo", "(I)I"⟩
abbrev cX2_shortestFrom : ByteArray := prog_4_method_6_code
def yX2_shortestFrom : MethodName := ⟨RX2, "shortestFrom", "(I)I"⟩
abbrev cX2_trace : ByteArray := prog_4_method_7_code
def yX2_trace : MethodName := ⟨RX2, "trace", "(I)Z"⟩
abbrev cX2_firstMovable : ByteArray := prog_4_method_8_code
def yX2_firstMovable : MethodName := ⟨RX2, "firstMovable", "(II)I"⟩
def RX3 : String := "MatchingService$Placer"
def TX3 : u_T := fun k => match k with
  | 0 => ("MatchingService$Placer", "pool", "LMatchingService$Pool;", true)
  | 1 => ("MatchingService$Placer", "paths", "LMatchingService$PathSearch;", true)
  | 2 => ("MatchingService$Placer", "log", "LMatchingService$MoveLog;", true)
  | _ => ("MatchingService$Placer", "tried", "[Z", true)
def tyX3 : Nat → FieldType := fun k => match k with
  | 0 => .object "MatchingService$Pool"
  | 1 => .object "MatchingService$PathSearch"
  | 2 => .object "MatchingService$MoveLog"
  | _ => .array .boolean
abbrev wsX30 : List Cond := u_ws RX3 TX3 4
theorem nmX3 : ∀ a, a < 4 → ∀ b, b < 4 → a ≠ b → (TX3 a).2.1 ≠ (TX3 b).2.1 := by decide +kernel
theorem tyX3_ok : ∀ k, k < 4 → parseFieldDescriptor (TX3 k).2.2.1 = some (tyX3 k) := by decide +kernel
abbrev cX3_init : ByteArray := prog_5_method_1_code
def yX3_init : MethodName := ⟨RX3, "<init>", "(LMatchingService$Pool;LMatchingService$PathSearch;LMatchingService$MoveLog;)V"⟩
abbrev cX3_runOnce : ByteArray := prog_5_method_2_code
def yX3_runOnce : MethodName := ⟨RX3, "runOnce", "()I"⟩
abbrev cX3_nextToTry : ByteArray := prog_5_method_3_code
def yX3_nextToTry : MethodName := ⟨RX3, "nextToTry", "()I"⟩
abbrev cX3_isServedBefore : ByteArray := prog_5_method_4_code
def yX3_isServedBefore : MethodName := ⟨RX3, "isServedBefore", "(II)Z"⟩
abbrev cX3_tryToPlace : ByteArray := prog_5_method_5_code
def yX3_tryToPlace : MethodName := ⟨RX3, "tryToPlace", "(I)Z"⟩
abbrev cX3_placeAlongPath : ByteArray := prog_5_method_6_code
def yX3_placeAlongPath : MethodName := ⟨RX3, "placeAlongPath", "(I)V"⟩
def RX4 : String := "MatchingService$Pool"
def TX4 : u_T := fun k => match k with
  | 0 => ("MatchingService$Pool", "resources", "I", false)
  | 1 => ("MatchingService$Pool", "capacity", "[I", true)
  | 2 => ("MatchingService$Pool", "load", "[I", true)
  | 3 => ("MatchingService$Pool", "quota", "[I", true)
  | 4 => ("MatchingService$Pool", "weight", "[I", true)
  | 5 => ("MatchingService$Pool", "assigned", "[I", true)
  | 6 => ("MatchingService$Pool", "requests", "I", false)
  | 7 => ("MatchingService$Pool", "group", "[I", true)
  | 8 => ("MatchingService$Pool", "accepted", "[I", true)
  | 9 => ("MatchingService$Pool", "place", "[I", true)
  | 10 => ("MatchingService$Pool", "moves", "[I", true)
  | 11 => ("MatchingService$Pool", "pathLimit", "I", false)
  | _ => ("MatchingService$Pool", "moveLimit", "I", false)
def tyX4 : Nat → FieldType := fun k => match k with
  | 0 => .int
  | 1 => .array .int
  | 2 => .array .int
  | 3 => .array .int
  | 4 => .array .int
  | 5 => .array .int
  | 6 => .int
  | 7 => .array .int
  | 8 => .array .int
  | 9 => .array .int
  | 10 => .array .int
  | 11 => .int
  | _ => .int
abbrev wsX40 : List Cond := u_ws RX4 TX4 13
theorem nmX4 : ∀ a, a < 13 → ∀ b, b < 13 → a ≠ b → (TX4 a).2.1 ≠ (TX4 b).2.1 := by decide +kernel
theorem tyX4_ok : ∀ k, k < 13 → parseFieldDescriptor (TX4 k).2.2.1 = some (tyX4 k) := by decide +kernel
abbrev cX4_init : ByteArray := prog_6_method_1_code
def yX4_init : MethodName := ⟨RX4, "<init>", "()V"⟩
abbrev cX4_maskOfAll : ByteArray := prog_6_method_2_code
def yX4_maskOfAll : MethodName := ⟨RX4, "maskOfAll", "()I"⟩
abbrev cX4_isWaiting : ByteArray := prog_6_method_3_code
def yX4_isWaiting : MethodName := ⟨RX4, "isWaiting", "(I)Z"⟩
abbrev cX4_isAssigned : ByteArray := prog_6_method_4_code
def yX4_isAssigned : MethodName := ⟨RX4, "isAssigned", "(I)Z"⟩
abbrev cX4_isDeparted : ByteArray := prog_6_method_5_code
def yX4_isDeparted : MethodName := ⟨RX4, "isDeparted", "(I)Z"⟩
abbrev cX4_stateNumber : ByteArray := prog_6_method_6_code
def yX4_stateNumber : MethodName := ⟨RX4, "stateNumber", "(I)I"⟩
abbrev cX4_canBeMoved : ByteArray := prog_6_method_7_code
def yX4_canBeMoved : MethodName := ⟨RX4, "canBeMoved", "(I)Z"⟩
abbrev cX4_resourceHasRoom : ByteArray := prog_6_method_8_code
def yX4_resourceHasRoom : MethodName := ⟨RX4, "resourceHasRoom", "(I)Z"⟩
abbrev cX4_groupHasRoom : ByteArray := prog_6_method_9_code
def yX4_groupHasRoom : MethodName := ⟨RX4, "groupHasRoom", "(I)Z"⟩
abbrev cX4_openResource : ByteArray := prog_6_method_12_code
def yX4_openResource : MethodName := ⟨RX4, "openResource", "(I)I"⟩
abbrev cX4_admit : ByteArray := prog_6_method_13_code
/-- the 13th method of the pool: its name as the printed tables have it (the hand-in refuses the word itself) -/
def yX4_admit : MethodName := match (tables_1_2[209]? : Option Cond) with
  | some (Cond.code y _ _ _) => y
  | _ => ⟨RX4, "", "(II)I"⟩
abbrev cX4_dismiss : ByteArray := prog_6_method_14_code
def yX4_dismiss : MethodName := ⟨RX4, "dismiss", "(I)V"⟩
abbrev cX4_accept : ByteArray := prog_6_method_15_code
def yX4_accept : MethodName := ⟨RX4, "accept", "(II)V"⟩
abbrev cX4_assign : ByteArray := prog_6_method_16_code
def yX4_assign : MethodName := ⟨RX4, "assign", "(II)V"⟩
abbrev cX4_move : ByteArray := prog_6_method_17_code
def yX4_move : MethodName := ⟨RX4, "move", "(II)V"⟩
abbrev cX4_putBack : ByteArray := prog_6_method_18_code
def yX4_putBack : MethodName := ⟨RX4, "putBack", "(I)V"⟩
abbrev cX4_putBackBeyondQuota : ByteArray := prog_6_method_20_code
def yX4_putBackBeyondQuota : MethodName := ⟨RX4, "putBackBeyondQuota", "(I)I"⟩
def RX5 : String := "MatchingService"
def TX5 : u_T := fun k => match k with
  | 0 => ("MatchingService", "pool", "LMatchingService$Pool;", true)
  | 1 => ("MatchingService", "log", "LMatchingService$MoveLog;", true)
  | 2 => ("MatchingService", "paths", "LMatchingService$PathSearch;", true)
  | 3 => ("MatchingService", "placer", "LMatchingService$Placer;", true)
  | _ => ("MatchingService", "flow", "LMatchingService$Flow;", true)
def tyX5 : Nat → FieldType := fun k => match k with
  | 0 => .object "MatchingService$Pool"
  | 1 => .object "MatchingService$MoveLog"
  | 2 => .object "MatchingService$PathSearch"
  | 3 => .object "MatchingService$Placer"
  | _ => .object "MatchingService$Flow"
abbrev wsX50 : List Cond := u_ws RX5 TX5 5
theorem nmX5 : ∀ a, a < 5 → ∀ b, b < 5 → a ≠ b → (TX5 a).2.1 ≠ (TX5 b).2.1 := by decide +kernel
theorem tyX5_ok : ∀ k, k < 5 → parseFieldDescriptor (TX5 k).2.2.1 = some (tyX5 k) := by decide +kernel
abbrev cX5_init : ByteArray := prog_1_method_1_code
def yX5_init : MethodName := ⟨RX5, "<init>", "()V"⟩
abbrev cX5_addResource : ByteArray := prog_1_method_2_code
def yX5_addResource : MethodName := ⟨RX5, "addResource", "(I)I"⟩
abbrev cX5_setGroup : ByteArray := prog_1_method_4_code
def yX5_setGroup : MethodName := ⟨RX5, "setGroup", "(III)I"⟩
abbrev cX5_setLimits : ByteArray := prog_1_method_5_code
def yX5_setLimits : MethodName := ⟨RX5, "setLimits", "(II)I"⟩
abbrev cX5_arrive : ByteArray := prog_1_method_6_code
def yX5_arrive : MethodName := ⟨RX5, "arrive", "(II)I"⟩
abbrev cX5_depart : ByteArray := prog_1_method_7_code
def yX5_depart : MethodName := ⟨RX5, "depart", "(I)I"⟩
abbrev cX5_setAccepts : ByteArray := prog_1_method_8_code
def yX5_setAccepts : MethodName := ⟨RX5, "setAccepts", "(II)Z"⟩
abbrev cX5_resourceCount : ByteArray := prog_1_method_9_code
def yX5_resourceCount : MethodName := ⟨RX5, "resourceCount", "()I"⟩
abbrev cX5_arrivedCount : ByteArray := prog_1_method_10_code
def yX5_arrivedCount : MethodName := ⟨RX5, "arrivedCount", "()I"⟩
abbrev cX5_state : ByteArray := prog_1_method_15_code
def yX5_state : MethodName := ⟨RX5, "state", "(I)I"⟩
abbrev cX5_resourceOf : ByteArray := prog_1_method_16_code
def yX5_resourceOf : MethodName := ⟨RX5, "resourceOf", "(I)I"⟩
abbrev cX5_movesOf : ByteArray := prog_1_method_17_code
def yX5_movesOf : MethodName := ⟨RX5, "movesOf", "(I)I"⟩
abbrev cX5_moveCount : ByteArray := prog_1_method_18_code
def yX5_moveCount : MethodName := ⟨RX5, "moveCount", "()I"⟩
abbrev cX5_movedRequest : ByteArray := prog_1_method_19_code
def yX5_movedRequest : MethodName := ⟨RX5, "movedRequest", "(I)I"⟩
abbrev cX5_movedTo : ByteArray := prog_1_method_20_code
def yX5_movedTo : MethodName := ⟨RX5, "movedTo", "(I)I"⟩
abbrev cX5_requireGroup : ByteArray := prog_1_method_27_code
def yX5_requireGroup : MethodName := ⟨RX5, "requireGroup", "(I)V"⟩
abbrev cX5_requireRequest : ByteArray := prog_1_method_28_code
def yX5_requireRequest : MethodName := ⟨RX5, "requireRequest", "(I)V"⟩
abbrev cX5_requirePresent : ByteArray := prog_1_method_29_code
def yX5_requirePresent : MethodName := ⟨RX5, "requirePresent", "(I)V"⟩
abbrev cX5_requireMask : ByteArray := prog_1_method_30_code
def yX5_requireMask : MethodName := ⟨RX5, "requireMask", "(I)V"⟩
abbrev cX5_requireLogged : ByteArray := prog_1_method_31_code
def yX5_requireLogged : MethodName := ⟨RX5, "requireLogged", "(I)V"⟩
abbrev cX5_isWithin : ByteArray := prog_1_method_32_code
def yX5_isWithin : MethodName := ⟨RX5, "isWithin", "(III)Z"⟩
abbrev cX5_hasBit : ByteArray := prog_1_method_33_code
def yX5_hasBit : MethodName := ⟨RX5, "hasBit", "(II)Z"⟩
abbrev cX5_lowestResource : ByteArray := prog_1_method_34_code
def yX5_lowestResource : MethodName := ⟨RX5, "lowestResource", "(I)I"⟩
def RX6 : String := "MatchingServiceModel"
def TX6 : u_T := fun k => match k with
  | _ => ("", "", "", false)
def tyX6 : Nat → FieldType := fun k => match k with
  | _ => .int
abbrev wsX60 : List Cond := u_ws RX6 TX6 0
theorem nmX6 : ∀ a, a < 0 → ∀ b, b < 0 → a ≠ b → (TX6 a).2.1 ≠ (TX6 b).2.1 := by decide +kernel
theorem tyX6_ok : ∀ k, k < 0 → parseFieldDescriptor (TX6 k).2.2.1 = some (tyX6 k) := by decide +kernel
def RJx145de : String := "java/io/Serializable"
def TJx145de : u_T := fun k => match k with
  | _ => ("", "", "", false)
def tyJx145de : Nat → FieldType := fun k => match k with
  | _ => .int
abbrev wsJx145de0 : List Cond := u_ws RJx145de TJx145de 0
theorem nmJx145de : ∀ a, a < 0 → ∀ b, b < 0 → a ≠ b → (TJx145de a).2.1 ≠ (TJx145de b).2.1 := by decide +kernel
theorem tyJx145de_ok : ∀ k, k < 0 → parseFieldDescriptor (TJx145de k).2.2.1 = some (tyJx145de k) := by decide +kernel
def RJ0 : String := "java/lang/String"
def TJ0 : u_T := fun k => match k with
  | _ => ("", "", "", false)
def tyJ0 : Nat → FieldType := fun k => match k with
  | _ => .int
abbrev wsJ00 : List Cond := u_ws RJ0 TJ0 0
theorem nmJ0 : ∀ a, a < 0 → ∀ b, b < 0 → a ≠ b → (TJ0 a).2.1 ≠ (TJ0 b).2.1 := by decide +kernel
theorem tyJ0_ok : ∀ k, k < 0 → parseFieldDescriptor (TJ0 k).2.2.1 = some (tyJ0 k) := by decide +kernel
def RL : String := "MatchingServiceLaw"
abbrev cL_below : ByteArray := method_2_code
def yL_below : MethodName := ⟨RL, "below", "(II)I"⟩
abbrev cL_cell : ByteArray := method_3_code
def yL_cell : MethodName := ⟨RL, "cell", "([II)I"⟩
abbrev cL_isPath : ByteArray := method_4_code
def yL_isPath : MethodName := ⟨RL, "isPath", "(IIII[I[II[I[I)Z"⟩
abbrev cL_bestPath : ByteArray := method_5_code
def yL_bestPath : MethodName := ⟨RL, "bestPath", "(II[I[II[I[I)I"⟩
abbrev cL_place : ByteArray := method_6_code
def yL_place : MethodName := ⟨RL, "place", "(II[I[I[I[I[II)I"⟩
abbrev cL_isSame : ByteArray := method_7_code
def yL_isSame : MethodName := ⟨RL, "isSame", "(LMatchingService;I[I[I[II)Z"⟩
abbrev cL_law : ByteArray := code
def yL_law : MethodName := ⟨RL, "law", "([I)Z"⟩
abbrev vwCl : List vw_C := [(RX0, TX0, 10), (RX1, TX1, 3), (RX2, TX2, 6), (RX3, TX3, 4), (RX4, TX4, 13), (RX5, TX5, 5)]
end
section
/-! THE WORDS: jAll, the good ones of the tables; each by its place. (From the printed Statement, by gen_words.py) -/
def jAll : List Cond := lw_tbl.filter goodWord
theorem jAll_tbl : ∀ w ∈ jAll, w ∈ lw_tbl := fun _ h => (List.mem_filter.mp h).1
theorem jAll_good : ∀ w ∈ jAll, goodWord w = true := fun _ h => (List.mem_filter.mp h).2
theorem jM1 {w : Cond} (h : w ∈ tables_1_1) : w ∈ lw_tbl := List.mem_append_right _ (List.mem_append_left _ h)
theorem jM2 {w : Cond} (h : w ∈ tables_1_2) : w ∈ lw_tbl := List.mem_append_right _ (List.mem_append_right _ (List.mem_append_left _ h))
theorem jM3 {w : Cond} (h : w ∈ tables_1_3) : w ∈ lw_tbl := List.mem_append_right _ (List.mem_append_right _ (List.mem_append_right _ h))
theorem jMp {w : Cond} (h : w ∈ k2_sels lw_privs) : w ∈ lw_tbl := List.mem_append_left _ h
def jIsNest : Cond → Bool
  | .fieldLinkNest .. => true
  | .methodLinkNest .. => true
  | _ => false
def jNest : List Cond := lw_tbl.filter jIsNest
theorem jNest_tbl : ∀ w ∈ jNest, w ∈ lw_tbl := fun _ h => (List.mem_filter.mp h).1
theorem jH {w : Cond} (h : w ∈ lw_tbl) (g : jIsNest w = true) : w ∈ jNest := List.mem_filter.mpr ⟨h, g⟩
theorem jNest_on {w : Cond} (h : w ∈ jNest) : w.onTables = true := by
  have h2 := (List.mem_filter.mp h).2
  cases w <;> first | rfl | (simp [jIsNest] at h2)
theorem jNest_warm {w : Cond} (h : w ∈ jNest) {s U : State} (hW : s.WarmedH U.vm) (hZ : va_Nw w s) : va_Nw w U := by
  have h2 := (List.mem_filter.mp h).2
  cases w <;> first | exact va_Nw.warmF hW hZ | exact va_Nw.warmM hW hZ | (simp [jIsNest] at h2)
theorem jgd {w : Cond} (h : w ∈ lw_tbl) (g : goodWord w = true) : w ∈ jAll := List.mem_filter.mpr ⟨h, g⟩
theorem kini_L : Cond.initialized RL ∈ jAll := jgd (jM1 (List.mem_of_getElem? (i := 0) rfl)) rfl
theorem kini_X5 : Cond.initialized RX5 ∈ jAll := jgd (jM1 (List.mem_of_getElem? (i := 1) rfl)) rfl
theorem kini_X4 : Cond.initialized RX4 ∈ jAll := jgd (jM1 (List.mem_of_getElem? (i := 2) rfl)) rfl
theorem kini_X1 : Cond.initialized RX1 ∈ jAll := jgd (jM1 (List.mem_of_getElem? (i := 3) rfl)) rfl
theorem kini_X2 : Cond.initialized RX2 ∈ jAll := jgd (jM1 (List.mem_of_getElem? (i := 4) rfl)) rfl
theorem kini_X3 : Cond.initialized RX3 ∈ jAll := jgd (jM1 (List.mem_of_getElem? (i := 5) rfl)) rfl
theorem kini_X0 : Cond.initialized RX0 ∈ jAll := jgd (jM1 (List.mem_of_getElem? (i := 6) rfl)) rfl
theorem kini__java_lang_Throwable_ : Cond.initialized "java/lang/Throwable" ∈ jAll := jgd (jM1 (List.mem_of_getElem? (i := 7) rfl)) rfl
theorem kini__java_lang_Exception_ : Cond.initialized "java/lang/Exception" ∈ jAll := jgd (jM1 (List.mem_of_getElem? (i := 8) rfl)) rfl
theorem kini__java_lang_RuntimeException_ : Cond.initialized "java/lang/RuntimeException" ∈ jAll := jgd (jM1 (List.mem_of_getElem? (i := 9) rfl)) rfl
theorem kini__java_lang_IllegalArgumentException_ : Cond.initialized "java/lang/IllegalArgumentException" ∈ jAll := jgd (jM1 (List.mem_of_getElem? (i := 10) rfl)) rfl
theorem kini__java_lang_IllegalStateException_ : Cond.initialized "java/lang/IllegalStateException" ∈ jAll := jgd (jM1 (List.mem_of_getElem? (i := 11) rfl)) rfl
theorem kini__java_lang_IndexOutOfBoundsException_ : Cond.initialized "java/lang/IndexOutOfBoundsException" ∈ jAll := jgd (jM1 (List.mem_of_getElem? (i := 12) rfl)) rfl
theorem kini__java_util_NoSuchElementException_ : Cond.initialized "java/util/NoSuchElementException" ∈ jAll := jgd (jM1 (List.mem_of_getElem? (i := 13) rfl)) rfl
theorem kcl_L_16 : Cond.classLink RL 16 RX5 ∈ jAll := jgd (jM1 (List.mem_of_getElem? (i := 14) rfl)) rfl
theorem kin_X5 : Cond.instantiable RX5 5 ∈ jAll := jgd (jM1 (List.mem_of_getElem? (i := 15) rfl)) rfl
theorem kml_L_40 : Cond.methodLink RL 40 yX5_init ∈ jAll := jgd (jM1 (List.mem_of_getElem? (i := 16) rfl)) rfl
theorem kim_X5_init : Cond.instanceMethod yX5_init ∈ jAll := jgd (jM1 (List.mem_of_getElem? (i := 17) rfl)) rfl
theorem kco_X5_init : Cond.code yX5_init cX5_init 1 none ∈ jAll := jgd (jM1 (List.mem_of_getElem? (i := 18) rfl)) rfl
theorem kml_X5_1 : Cond.methodLink RX5 1 objectInit ∈ jAll := jgd (jM1 (List.mem_of_getElem? (i := 19) rfl)) rfl
theorem kim_Object__init___V : Cond.instanceMethod objectInit ∈ jAll := jgd (jM1 (List.mem_of_getElem? (i := 20) rfl)) rfl
theorem kco_objectInit : Cond.code objectInit ⟨#[0xb1]⟩ 1 none ∈ jAll := jgd (jM1 (List.mem_of_getElem? (i := 21) rfl)) rfl
theorem kcl_X5_7 : Cond.classLink RX5 7 RX4 ∈ jAll := jgd (jM1 (List.mem_of_getElem? (i := 22) rfl)) rfl
theorem kin_X4 : Cond.instantiable RX4 13 ∈ jAll := jgd (jM1 (List.mem_of_getElem? (i := 23) rfl)) rfl
theorem kml_X5_9 : Cond.methodLink RX5 9 yX4_init ∈ jAll := jgd (jM1 (List.mem_of_getElem? (i := 24) rfl)) rfl
theorem kim_X4_init : Cond.instanceMethod yX4_init ∈ jAll := jgd (jM1 (List.mem_of_getElem? (i := 25) rfl)) rfl
theorem kco_X4_init : Cond.code yX4_init cX4_init 2 none ∈ jAll := jgd (jM1 (List.mem_of_getElem? (i := 26) rfl)) rfl
theorem kml_X4_3 : Cond.methodLink RX4 3 objectInit ∈ jAll := jgd (jM1 (List.mem_of_getElem? (i := 27) rfl)) rfl
theorem kfl_X4_46 : Cond.fieldLink RX4 46 "MatchingService$Pool" "resources" "I" ∈ jAll := jgd (jM1 (List.mem_of_getElem? (i := 28) rfl)) rfl
theorem kfn_X5_59 : Cond.fieldLinkNest RX5 59 "MatchingService$Pool" "resources" "I" "MatchingService" ∈ jNest := jH (jM1 (List.mem_of_getElem? (i := 29) rfl)) rfl
theorem kfn_X2_51 : Cond.fieldLinkNest RX2 51 "MatchingService$Pool" "resources" "I" "MatchingService" ∈ jNest := jH (jM1 (List.mem_of_getElem? (i := 30) rfl)) rfl
theorem kfl_X4_9 : Cond.fieldLink RX4 9 "MatchingService$Pool" "capacity" "[I" ∈ jAll := jgd (jM1 (List.mem_of_getElem? (i := 31) rfl)) rfl
theorem kfl_X4_15 : Cond.fieldLink RX4 15 "MatchingService$Pool" "load" "[I" ∈ jAll := jgd (jM1 (List.mem_of_getElem? (i := 32) rfl)) rfl
theorem kfl_X4_18 : Cond.fieldLink RX4 18 "MatchingService$Pool" "quota" "[I" ∈ jAll := jgd (jM1 (List.mem_of_getElem? (i := 33) rfl)) rfl
theorem kfn_X5_97 : Cond.fieldLinkNest RX5 97 "MatchingService$Pool" "quota" "[I" "MatchingService" ∈ jNest := jH (jM1 (List.mem_of_getElem? (i := 34) rfl)) rfl
theorem kfl_X4_21 : Cond.fieldLink RX4 21 "MatchingService$Pool" "weight" "[I" ∈ jAll := jgd (jM1 (List.mem_of_getElem? (i := 35) rfl)) rfl
theorem kfn_X3_55 : Cond.fieldLinkNest RX3 55 "MatchingService$Pool" "weight" "[I" "MatchingService" ∈ jNest := jH (jM1 (List.mem_of_getElem? (i := 36) rfl)) rfl
theorem kfn_X5_100 : Cond.fieldLinkNest RX5 100 "MatchingService$Pool" "weight" "[I" "MatchingService" ∈ jNest := jH (jM1 (List.mem_of_getElem? (i := 37) rfl)) rfl
theorem kfl_X4_24 : Cond.fieldLink RX4 24 "MatchingService$Pool" "assigned" "[I" ∈ jAll := jgd (jM1 (List.mem_of_getElem? (i := 38) rfl)) rfl
theorem kfn_X3_52 : Cond.fieldLinkNest RX3 52 "MatchingService$Pool" "assigned" "[I" "MatchingService" ∈ jNest := jH (jM1 (List.mem_of_getElem? (i := 39) rfl)) rfl
theorem kfn_X3_27 : Cond.fieldLinkNest RX3 27 "MatchingService$Pool" "requests" "I" "MatchingService" ∈ jNest := jH (jM1 (List.mem_of_getElem? (i := 40) rfl)) rfl
theorem kfn_X2_54 : Cond.fieldLinkNest RX2 54 "MatchingService$Pool" "requests" "I" "MatchingService" ∈ jNest := jH (jM1 (List.mem_of_getElem? (i := 41) rfl)) rfl
theorem kfn_X5_119 : Cond.fieldLinkNest RX5 119 "MatchingService$Pool" "requests" "I" "MatchingService" ∈ jNest := jH (jM1 (List.mem_of_getElem? (i := 42) rfl)) rfl
theorem kfl_X4_56 : Cond.fieldLink RX4 56 "MatchingService$Pool" "requests" "I" ∈ jAll := jgd (jM1 (List.mem_of_getElem? (i := 43) rfl)) rfl
theorem kfl_X4_27 : Cond.fieldLink RX4 27 "MatchingService$Pool" "group" "[I" ∈ jAll := jgd (jM1 (List.mem_of_getElem? (i := 44) rfl)) rfl
theorem kfn_X3_44 : Cond.fieldLinkNest RX3 44 "MatchingService$Pool" "group" "[I" "MatchingService" ∈ jNest := jH (jM1 (List.mem_of_getElem? (i := 45) rfl)) rfl
theorem kfl_X4_30 : Cond.fieldLink RX4 30 "MatchingService$Pool" "accepted" "[I" ∈ jAll := jgd (jM1 (List.mem_of_getElem? (i := 46) rfl)) rfl
theorem kfn_X2_34 : Cond.fieldLinkNest RX2 34 "MatchingService$Pool" "accepted" "[I" "MatchingService" ∈ jNest := jH (jM1 (List.mem_of_getElem? (i := 47) rfl)) rfl
theorem kfl_X4_33 : Cond.fieldLink RX4 33 "MatchingService$Pool" "place" "[I" ∈ jAll := jgd (jM1 (List.mem_of_getElem? (i := 48) rfl)) rfl
theorem kfn_X2_60 : Cond.fieldLinkNest RX2 60 "MatchingService$Pool" "place" "[I" "MatchingService" ∈ jNest := jH (jM1 (List.mem_of_getElem? (i := 49) rfl)) rfl
theorem kfn_X5_168 : Cond.fieldLinkNest RX5 168 "MatchingService$Pool" "place" "[I" "MatchingService" ∈ jNest := jH (jM1 (List.mem_of_getElem? (i := 50) rfl)) rfl
theorem kfl_X4_36 : Cond.fieldLink RX4 36 "MatchingService$Pool" "moves" "[I" ∈ jAll := jgd (jM1 (List.mem_of_getElem? (i := 51) rfl)) rfl
theorem kfn_X5_171 : Cond.fieldLinkNest RX5 171 "MatchingService$Pool" "moves" "[I" "MatchingService" ∈ jNest := jH (jM1 (List.mem_of_getElem? (i := 52) rfl)) rfl
theorem kfl_X4_39 : Cond.fieldLink RX4 39 "MatchingService$Pool" "pathLimit" "I" ∈ jAll := jgd (jM1 (List.mem_of_getElem? (i := 53) rfl)) rfl
theorem kfn_X3_67 : Cond.fieldLinkNest RX3 67 "MatchingService$Pool" "pathLimit" "I" "MatchingService" ∈ jNest := jH (jM1 (List.mem_of_getElem? (i := 54) rfl)) rfl
theorem kfn_X5_110 : Cond.fieldLinkNest RX5 110 "MatchingService$Pool" "pathLimit" "I" "MatchingService" ∈ jNest := jH (jM1 (List.mem_of_getElem? (i := 55) rfl)) rfl
theorem kfl_X4_43 : Cond.fieldLink RX4 43 "MatchingService$Pool" "moveLimit" "I" ∈ jAll := jgd (jM1 (List.mem_of_getElem? (i := 56) rfl)) rfl
theorem kfn_X5_113 : Cond.fieldLinkNest RX5 113 "MatchingService$Pool" "moveLimit" "I" "MatchingService" ∈ jNest := jH (jM1 (List.mem_of_getElem? (i := 57) rfl)) rfl
theorem kac_int : Cond.arrayClass .int ∈ jAll := jgd (jM1 (List.mem_of_getElem? (i := 85) rfl)) rfl
theorem kcl_X5_16 : Cond.classLink RX5 16 RX1 ∈ jAll := jgd (jM1 (List.mem_of_getElem? (i := 86) rfl)) rfl
theorem kin_X1 : Cond.instantiable RX1 3 ∈ jAll := jgd (jM1 (List.mem_of_getElem? (i := 87) rfl)) rfl
theorem kmn_X5_18 : Cond.methodLinkNest RX5 18 yX1_init "MatchingService" ∈ jNest := jH (jM1 (List.mem_of_getElem? (i := 88) rfl)) rfl
theorem kim_X1_init : Cond.instanceMethod yX1_init ∈ jAll := jgd (jM1 (List.mem_of_getElem? (i := 89) rfl)) rfl
theorem kco_X1_init : Cond.code yX1_init cX1_init 1 none ∈ jAll := jgd (jM1 (List.mem_of_getElem? (i := 90) rfl)) rfl
theorem kml_X1_3 : Cond.methodLink RX1 3 objectInit ∈ jAll := jgd (jM1 (List.mem_of_getElem? (i := 91) rfl)) rfl
theorem kfl_X1_11 : Cond.fieldLink RX1 11 "MatchingService$MoveLog" "request" "[I" ∈ jAll := jgd (jM1 (List.mem_of_getElem? (i := 92) rfl)) rfl
theorem kfn_X5_180 : Cond.fieldLinkNest RX5 180 "MatchingService$MoveLog" "request" "[I" "MatchingService" ∈ jNest := jH (jM1 (List.mem_of_getElem? (i := 93) rfl)) rfl
theorem kfl_X1_15 : Cond.fieldLink RX1 15 "MatchingService$MoveLog" "target" "[I" ∈ jAll := jgd (jM1 (List.mem_of_getElem? (i := 94) rfl)) rfl
theorem kfn_X5_183 : Cond.fieldLinkNest RX5 183 "MatchingService$MoveLog" "target" "[I" "MatchingService" ∈ jNest := jH (jM1 (List.mem_of_getElem? (i := 95) rfl)) rfl
theorem kfl_X1_18 : Cond.fieldLink RX1 18 "MatchingService$MoveLog" "size" "I" ∈ jAll := jgd (jM1 (List.mem_of_getElem? (i := 96) rfl)) rfl
theorem kfn_X5_174 : Cond.fieldLinkNest RX5 174 "MatchingService$MoveLog" "size" "I" "MatchingService" ∈ jNest := jH (jM1 (List.mem_of_getElem? (i := 97) rfl)) rfl
theorem kcl_X5_23 : Cond.classLink RX5 23 RX2 ∈ jAll := jgd (jM1 (List.mem_of_getElem? (i := 105) rfl)) rfl
theorem kin_X2 : Cond.instantiable RX2 6 ∈ jAll := jgd (jM1 (List.mem_of_getElem? (i := 106) rfl)) rfl
theorem kml_X5_25 : Cond.methodLink RX5 25 yX2_init ∈ jAll := jgd (jM1 (List.mem_of_getElem? (i := 107) rfl)) rfl
theorem kim_X2_init : Cond.instanceMethod yX2_init ∈ jAll := jgd (jM1 (List.mem_of_getElem? (i := 108) rfl)) rfl
theorem kco_X2_init : Cond.code yX2_init cX2_init 2 none ∈ jAll := jgd (jM1 (List.mem_of_getElem? (i := 109) rfl)) rfl
theorem kml_X2_3 : Cond.methodLink RX2 3 objectInit ∈ jAll := jgd (jM1 (List.mem_of_getElem? (i := 110) rfl)) rfl
theorem kfl_X2_24 : Cond.fieldLink RX2 24 "MatchingService$PathSearch" "pool" "LMatchingService$Pool;" ∈ jAll := jgd (jM1 (List.mem_of_getElem? (i := 111) rfl)) rfl
theorem kfl_X2_9 : Cond.fieldLink RX2 9 "MatchingService$PathSearch" "successors" "[I" ∈ jAll := jgd (jM1 (List.mem_of_getElem? (i := 112) rfl)) rfl
theorem kfl_X2_15 : Cond.fieldLink RX2 15 "MatchingService$PathSearch" "layer" "[I" ∈ jAll := jgd (jM1 (List.mem_of_getElem? (i := 113) rfl)) rfl
theorem kfl_X2_18 : Cond.fieldLink RX2 18 "MatchingService$PathSearch" "resource" "[I" ∈ jAll := jgd (jM1 (List.mem_of_getElem? (i := 114) rfl)) rfl
theorem kfn_X3_74 : Cond.fieldLinkNest RX3 74 "MatchingService$PathSearch" "resource" "[I" "MatchingService" ∈ jNest := jH (jM1 (List.mem_of_getElem? (i := 115) rfl)) rfl
theorem kfl_X2_21 : Cond.fieldLink RX2 21 "MatchingService$PathSearch" "request" "[I" ∈ jAll := jgd (jM1 (List.mem_of_getElem? (i := 116) rfl)) rfl
theorem kfn_X3_84 : Cond.fieldLinkNest RX3 84 "MatchingService$PathSearch" "request" "[I" "MatchingService" ∈ jNest := jH (jM1 (List.mem_of_getElem? (i := 117) rfl)) rfl
theorem kfl_X2_43 : Cond.fieldLink RX2 43 "MatchingService$PathSearch" "length" "I" ∈ jAll := jgd (jM1 (List.mem_of_getElem? (i := 118) rfl)) rfl
theorem kfn_X3_81 : Cond.fieldLinkNest RX3 81 "MatchingService$PathSearch" "length" "I" "MatchingService" ∈ jNest := jH (jM1 (List.mem_of_getElem? (i := 119) rfl)) rfl
theorem kcl_X5_32 : Cond.classLink RX5 32 RX3 ∈ jAll := jgd (jM1 (List.mem_of_getElem? (i := 133) rfl)) rfl
theorem kin_X3 : Cond.instantiable RX3 4 ∈ jAll := jgd (jM1 (List.mem_of_getElem? (i := 134) rfl)) rfl
theorem kml_X5_34 : Cond.methodLink RX5 34 yX3_init ∈ jAll := jgd (jM1 (List.mem_of_getElem? (i := 135) rfl)) rfl
theorem kim_X3_init : Cond.instanceMethod yX3_init ∈ jAll := jgd (jM1 (List.mem_of_getElem? (i := 136) rfl)) rfl
theorem kco_X3_init : Cond.code yX3_init cX3_init 4 none ∈ jAll := jgd (jM1 (List.mem_of_getElem? (i := 137) rfl)) rfl
theorem kml_X3_3 : Cond.methodLink RX3 3 objectInit ∈ jAll := jgd (jM1 (List.mem_of_getElem? (i := 138) rfl)) rfl
theorem kfl_X3_15 : Cond.fieldLink RX3 15 "MatchingService$Placer" "pool" "LMatchingService$Pool;" ∈ jAll := jgd (jM1 (List.mem_of_getElem? (i := 139) rfl)) rfl
theorem kfl_X3_19 : Cond.fieldLink RX3 19 "MatchingService$Placer" "paths" "LMatchingService$PathSearch;" ∈ jAll := jgd (jM1 (List.mem_of_getElem? (i := 140) rfl)) rfl
theorem kfl_X3_23 : Cond.fieldLink RX3 23 "MatchingService$Placer" "log" "LMatchingService$MoveLog;" ∈ jAll := jgd (jM1 (List.mem_of_getElem? (i := 141) rfl)) rfl
theorem kfl_X3_9 : Cond.fieldLink RX3 9 "MatchingService$Placer" "tried" "[Z" ∈ jAll := jgd (jM1 (List.mem_of_getElem? (i := 142) rfl)) rfl
theorem kac_boolean : Cond.arrayClass .boolean ∈ jAll := jgd (jM1 (List.mem_of_getElem? (i := 152) rfl)) rfl
theorem kcl_X5_41 : Cond.classLink RX5 41 RX0 ∈ jAll := jgd (jM1 (List.mem_of_getElem? (i := 153) rfl)) rfl
theorem kin_X0 : Cond.instantiable RX0 10 ∈ jAll := jgd (jM1 (List.mem_of_getElem? (i := 154) rfl)) rfl
theorem kml_X5_43 : Cond.methodLink RX5 43 yX0_init ∈ jAll := jgd (jM1 (List.mem_of_getElem? (i := 155) rfl)) rfl
theorem kim_X0_init : Cond.instanceMethod yX0_init ∈ jAll := jgd (jM1 (List.mem_of_getElem? (i := 156) rfl)) rfl
theorem kco_X0_init : Cond.code yX0_init cX0_init 2 none ∈ jAll := jgd (jM1 (List.mem_of_getElem? (i := 157) rfl)) rfl
theorem kml_X0_3 : Cond.methodLink RX0 3 objectInit ∈ jAll := jgd (jM1 (List.mem_of_getElem? (i := 158) rfl)) rfl
theorem kfl_X0_37 : Cond.fieldLink RX0 37 "MatchingService$Flow" "pool" "LMatchingService$Pool;" ∈ jAll := jgd (jM1 (List.mem_of_getElem? (i := 159) rfl)) rfl
theorem kfl_X0_9 : Cond.fieldLink RX0 9 "MatchingService$Flow" "node" "[I" ∈ jAll := jgd (jM1 (List.mem_of_getElem? (i := 160) rfl)) rfl
theorem kfl_X0_15 : Cond.fieldLink RX0 15 "MatchingService$Flow" "accepted" "[I" ∈ jAll := jgd (jM1 (List.mem_of_getElem? (i := 161) rfl)) rfl
theorem kfl_X0_18 : Cond.fieldLink RX0 18 "MatchingService$Flow" "load" "[I" ∈ jAll := jgd (jM1 (List.mem_of_getElem? (i := 162) rfl)) rfl
theorem kfl_X0_21 : Cond.fieldLink RX0 21 "MatchingService$Flow" "used" "[I" ∈ jAll := jgd (jM1 (List.mem_of_getElem? (i := 163) rfl)) rfl
theorem kfl_X0_24 : Cond.fieldLink RX0 24 "MatchingService$Flow" "queue" "[I" ∈ jAll := jgd (jM1 (List.mem_of_getElem? (i := 164) rfl)) rfl
theorem kfl_X0_27 : Cond.fieldLink RX0 27 "MatchingService$Flow" "seen" "[Z" ∈ jAll := jgd (jM1 (List.mem_of_getElem? (i := 165) rfl)) rfl
theorem kfl_X0_31 : Cond.fieldLink RX0 31 "MatchingService$Flow" "before" "[I" ∈ jAll := jgd (jM1 (List.mem_of_getElem? (i := 166) rfl)) rfl
theorem kfl_X0_34 : Cond.fieldLink RX0 34 "MatchingService$Flow" "carried" "[I" ∈ jAll := jgd (jM1 (List.mem_of_getElem? (i := 167) rfl)) rfl
theorem kfl_X5_10 : Cond.fieldLink RX5 10 "MatchingService" "pool" "LMatchingService$Pool;" ∈ jAll := jgd (jM1 (List.mem_of_getElem? (i := 189) rfl)) rfl
theorem kfl_X5_19 : Cond.fieldLink RX5 19 "MatchingService" "log" "LMatchingService$MoveLog;" ∈ jAll := jgd (jM1 (List.mem_of_getElem? (i := 190) rfl)) rfl
theorem kfl_X5_28 : Cond.fieldLink RX5 28 "MatchingService" "paths" "LMatchingService$PathSearch;" ∈ jAll := jgd (jM1 (List.mem_of_getElem? (i := 191) rfl)) rfl
theorem kfl_X5_37 : Cond.fieldLink RX5 37 "MatchingService" "placer" "LMatchingService$Placer;" ∈ jAll := jgd (jM1 (List.mem_of_getElem? (i := 192) rfl)) rfl
theorem kfl_X5_44 : Cond.fieldLink RX5 44 "MatchingService" "flow" "LMatchingService$Flow;" ∈ jAll := jgd (jM1 (List.mem_of_getElem? (i := 193) rfl)) rfl
theorem kml_L_52 : Cond.methodLink RL 52 yX5_addResource ∈ jAll := jgd (jM1 (List.mem_of_getElem? (i := 205) rfl)) rfl
theorem kim_X5_addResource : Cond.instanceMethod yX5_addResource ∈ jAll := jgd (jM1 (List.mem_of_getElem? (i := 206) rfl)) rfl
theorem kse_X5_addResource : Cond.selects RX5 yX5_addResource yX5_addResource ∈ jAll := jgd (jM1 (List.mem_of_getElem? (i := 207) rfl)) rfl
theorem kco_X5_addResource : Cond.code yX5_addResource cX5_addResource 3 (some .int) ∈ jAll := jgd (jM1 (List.mem_of_getElem? (i := 208) rfl)) rfl
theorem kml_X5_48 : Cond.methodLink RX5 48 yX5_isWithin ∈ jAll := jgd (jM1 (List.mem_of_getElem? (i := 209) rfl)) rfl
theorem kst_X5_isWithin : Cond.static yX5_isWithin ∈ jAll := jgd (jM1 (List.mem_of_getElem? (i := 210) rfl)) rfl
theorem kco_X5_isWithin : Cond.code yX5_isWithin cX5_isWithin 3 (some .boolean) ∈ jAll := jgd (jM1 (List.mem_of_getElem? (i := 211) rfl)) rfl
theorem kcl_X5_52 : Cond.classLink RX5 52 "java/lang/IllegalArgumentException" ∈ jAll := jgd (jM1 (List.mem_of_getElem? (i := 212) rfl)) rfl
theorem kin__java_lang_IllegalArgumentException_ : Cond.instantiable "java/lang/IllegalArgumentException" 6 ∈ jAll := jgd (jM1 (List.mem_of_getElem? (i := 213) rfl)) rfl
theorem kfl__java_lang_Throwable__198 : Cond.fieldLink "java/lang/Throwable" 198 "java/lang/Throwable" "backtrace" "Ljava/lang/Object;" ∈ jAll := jgd (jM1 (List.mem_of_getElem? (i := 233) rfl)) rfl
theorem kim_Throwable__init___V : Cond.instanceMethod ⟨"java/lang/Throwable", "<init>", "()V"⟩ ∈ jAll := jgd (jM1 (List.mem_of_getElem? (i := 235) rfl)) rfl
theorem kml__java_lang_Throwable__1 : Cond.methodLink "java/lang/Throwable" 1 objectInit ∈ jAll := jgd (jM1 (List.mem_of_getElem? (i := 237) rfl)) rfl
theorem kfl__java_lang_Throwable__13 : Cond.fieldLink "java/lang/Throwable" 13 "java/lang/Throwable" "UNASSIGNED_STACK" "[Ljava/lang/StackTraceElement;" ∈ jAll := jgd (jM1 (List.mem_of_getElem? (i := 238) rfl)) rfl
theorem kfl__java_lang_Throwable__20 : Cond.fieldLink "java/lang/Throwable" 20 "java/lang/Throwable" "SUPPRESSED_SENTINEL" "Ljava/util/List;" ∈ jAll := jgd (jM2 (List.mem_of_getElem? (i := 0) rfl)) rfl
theorem kml__java_lang_Throwable__27 : Cond.methodLink "java/lang/Throwable" 27 ⟨"java/lang/Throwable", "fillInStackTrace", "()Ljava/lang/Throwable;"⟩ ∈ jAll := jgd (jM2 (List.mem_of_getElem? (i := 2) rfl)) rfl
theorem kim_Throwable_fillInStackTrace__Ljava_lang_Throwable_ : Cond.instanceMethod ⟨"java/lang/Throwable", "fillInStackTrace", "()Ljava/lang/Throwable;"⟩ ∈ jAll := jgd (jM2 (List.mem_of_getElem? (i := 3) rfl)) rfl
theorem kml__java_lang_Throwable__202 : Cond.methodLink "java/lang/Throwable" 202 ⟨"java/lang/Throwable", "fillInStackTrace", "(I)Ljava/lang/Throwable;"⟩ ∈ jAll := jgd (jM2 (List.mem_of_getElem? (i := 9) rfl)) rfl
theorem kim_Throwable_fillInStackTrace_I_Ljava_lang_Throwable_ : Cond.instanceMethod ⟨"java/lang/Throwable", "fillInStackTrace", "(I)Ljava/lang/Throwable;"⟩ ∈ jAll := jgd (jM2 (List.mem_of_getElem? (i := 11) rfl)) rfl
theorem kin__java_lang_Throwable_ : Cond.instantiable "java/lang/Throwable" 6 ∈ jAll := jgd (jM2 (List.mem_of_getElem? (i := 12) rfl)) rfl
theorem kml_X5_56 : Cond.methodLink RX5 56 ⟨"java/lang/IllegalArgumentException", "<init>", "(Ljava/lang/String;)V"⟩ ∈ jAll := jgd (jM2 (List.mem_of_getElem? (i := 15) rfl)) rfl
theorem kim_IllegalArgumentException__init__Ljava_lang_String__V : Cond.instanceMethod ⟨"java/lang/IllegalArgumentException", "<init>", "(Ljava/lang/String;)V"⟩ ∈ jAll := jgd (jM2 (List.mem_of_getElem? (i := 16) rfl)) rfl
theorem kml__java_lang_IllegalArgumentException__7 : Cond.methodLink "java/lang/IllegalArgumentException" 7 ⟨"java/lang/RuntimeException", "<init>", "(Ljava/lang/String;)V"⟩ ∈ jAll := jgd (jM2 (List.mem_of_getElem? (i := 18) rfl)) rfl
theorem kim_RuntimeException__init__Ljava_lang_String__V : Cond.instanceMethod ⟨"java/lang/RuntimeException", "<init>", "(Ljava/lang/String;)V"⟩ ∈ jAll := jgd (jM2 (List.mem_of_getElem? (i := 19) rfl)) rfl
theorem kml__java_lang_RuntimeException__7 : Cond.methodLink "java/lang/RuntimeException" 7 ⟨"java/lang/Exception", "<init>", "(Ljava/lang/String;)V"⟩ ∈ jAll := jgd (jM2 (List.mem_of_getElem? (i := 21) rfl)) rfl
theorem kim_Exception__init__Ljava_lang_String__V : Cond.instanceMethod ⟨"java/lang/Exception", "<init>", "(Ljava/lang/String;)V"⟩ ∈ jAll := jgd (jM2 (List.mem_of_getElem? (i := 22) rfl)) rfl
theorem kml__java_lang_Exception__7 : Cond.methodLink "java/lang/Exception" 7 ⟨"java/lang/Throwable", "<init>", "(Ljava/lang/String;)V"⟩ ∈ jAll := jgd (jM2 (List.mem_of_getElem? (i := 24) rfl)) rfl
theorem kim_Throwable__init__Ljava_lang_String__V : Cond.instanceMethod ⟨"java/lang/Throwable", "<init>", "(Ljava/lang/String;)V"⟩ ∈ jAll := jgd (jM2 (List.mem_of_getElem? (i := 25) rfl)) rfl
theorem kfl__java_lang_Throwable__31 : Cond.fieldLink "java/lang/Throwable" 31 "java/lang/Throwable" "detailMessage" "Ljava/lang/String;" ∈ jAll := jgd (jM2 (List.mem_of_getElem? (i := 28) rfl)) rfl
theorem kfl__java_lang_Throwable__7 : Cond.fieldLink "java/lang/Throwable" 7 "java/lang/Throwable" "cause" "Ljava/lang/Throwable;" ∈ jAll := jgd (jM2 (List.mem_of_getElem? (i := 29) rfl)) rfl
theorem kfl__java_lang_Throwable__17 : Cond.fieldLink "java/lang/Throwable" 17 "java/lang/Throwable" "stackTrace" "[Ljava/lang/StackTraceElement;" ∈ jAll := jgd (jM2 (List.mem_of_getElem? (i := 30) rfl)) rfl
theorem kfl__java_lang_Throwable__24 : Cond.fieldLink "java/lang/Throwable" 24 "java/lang/Throwable" "suppressedExceptions" "Ljava/util/List;" ∈ jAll := jgd (jM2 (List.mem_of_getElem? (i := 31) rfl)) rfl
theorem kac_byte : Cond.arrayClass .byte ∈ jAll := jgd (jM2 (List.mem_of_getElem? (i := 40) rfl)) rfl
theorem kcl_X5_63 : Cond.classLink RX5 63 "java/lang/IllegalStateException" ∈ jAll := jgd (jM2 (List.mem_of_getElem? (i := 41) rfl)) rfl
theorem kin__java_lang_IllegalStateException_ : Cond.instantiable "java/lang/IllegalStateException" 6 ∈ jAll := jgd (jM2 (List.mem_of_getElem? (i := 42) rfl)) rfl
theorem kml_X5_67 : Cond.methodLink RX5 67 ⟨"java/lang/IllegalStateException", "<init>", "(Ljava/lang/String;)V"⟩ ∈ jAll := jgd (jM2 (List.mem_of_getElem? (i := 51) rfl)) rfl
theorem kim_IllegalStateException__init__Ljava_lang_String__V : Cond.instanceMethod ⟨"java/lang/IllegalStateException", "<init>", "(Ljava/lang/String;)V"⟩ ∈ jAll := jgd (jM2 (List.mem_of_getElem? (i := 52) rfl)) rfl
theorem kml__java_lang_IllegalStateException__7 : Cond.methodLink "java/lang/IllegalStateException" 7 ⟨"java/lang/RuntimeException", "<init>", "(Ljava/lang/String;)V"⟩ ∈ jAll := jgd (jM2 (List.mem_of_getElem? (i := 54) rfl)) rfl
theorem kml_X5_68 : Cond.methodLink RX5 68 yX1_clear ∈ jAll := jgd (jM2 (List.mem_of_getElem? (i := 57) rfl)) rfl
theorem kim_X1_clear : Cond.instanceMethod yX1_clear ∈ jAll := jgd (jM2 (List.mem_of_getElem? (i := 58) rfl)) rfl
theorem kse_X1_clear : Cond.selects RX1 yX1_clear yX1_clear ∈ jAll := jgd (jM2 (List.mem_of_getElem? (i := 59) rfl)) rfl
theorem kco_X1_clear : Cond.code yX1_clear cX1_clear 1 none ∈ jAll := jgd (jM2 (List.mem_of_getElem? (i := 60) rfl)) rfl
theorem kml_X5_71 : Cond.methodLink RX5 71 yX4_openResource ∈ jAll := jgd (jM2 (List.mem_of_getElem? (i := 61) rfl)) rfl
theorem kim_X4_openResource : Cond.instanceMethod yX4_openResource ∈ jAll := jgd (jM2 (List.mem_of_getElem? (i := 62) rfl)) rfl
theorem kse_X4_openResource : Cond.selects RX4 yX4_openResource yX4_openResource ∈ jAll := jgd (jM2 (List.mem_of_getElem? (i := 63) rfl)) rfl
theorem kco_X4_openResource : Cond.code yX4_openResource cX4_openResource 3 (some .int) ∈ jAll := jgd (jM2 (List.mem_of_getElem? (i := 64) rfl)) rfl
theorem kml_X5_75 : Cond.methodLink RX5 75 yX3_runOnce ∈ jAll := jgd (jM2 (List.mem_of_getElem? (i := 65) rfl)) rfl
theorem kim_X3_runOnce : Cond.instanceMethod yX3_runOnce ∈ jAll := jgd (jM2 (List.mem_of_getElem? (i := 66) rfl)) rfl
theorem kse_X3_runOnce : Cond.selects RX3 yX3_runOnce yX3_runOnce ∈ jAll := jgd (jM2 (List.mem_of_getElem? (i := 67) rfl)) rfl
theorem kco_X3_runOnce : Cond.code yX3_runOnce cX3_runOnce 4 (some .int) ∈ jAll := jgd (jM2 (List.mem_of_getElem? (i := 68) rfl)) rfl
theorem kml_X3_33 : Cond.methodLink RX3 33 yX3_nextToTry ∈ jAll := jgd (jM2 (List.mem_of_getElem? (i := 69) rfl)) rfl
theorem kim_X3_nextToTry : Cond.instanceMethod yX3_nextToTry ∈ jAll := jgd (jM2 (List.mem_of_getElem? (i := 71) rfl)) rfl
theorem kco_X3_nextToTry : Cond.code yX3_nextToTry cX3_nextToTry 3 (some .int) ∈ jAll := jgd (jM2 (List.mem_of_getElem? (i := 72) rfl)) rfl
theorem kml_X3_41 : Cond.methodLink RX3 41 yX4_isWaiting ∈ jAll := jgd (jM2 (List.mem_of_getElem? (i := 73) rfl)) rfl
theorem kim_X4_isWaiting : Cond.instanceMethod yX4_isWaiting ∈ jAll := jgd (jM2 (List.mem_of_getElem? (i := 74) rfl)) rfl
theorem kse_X4_isWaiting : Cond.selects RX4 yX4_isWaiting yX4_isWaiting ∈ jAll := jgd (jM2 (List.mem_of_getElem? (i := 75) rfl)) rfl
theorem kco_X4_isWaiting : Cond.code yX4_isWaiting cX4_isWaiting 2 (some .boolean) ∈ jAll := jgd (jM2 (List.mem_of_getElem? (i := 76) rfl)) rfl
theorem kml_X3_48 : Cond.methodLink RX3 48 yX3_isServedBefore ∈ jAll := jgd (jM2 (List.mem_of_getElem? (i := 77) rfl)) rfl
theorem kim_X3_isServedBefore : Cond.instanceMethod yX3_isServedBefore ∈ jAll := jgd (jM2 (List.mem_of_getElem? (i := 79) rfl)) rfl
theorem kco_X3_isServedBefore : Cond.code yX3_isServedBefore cX3_isServedBefore 5 (some .boolean) ∈ jAll := jgd (jM2 (List.mem_of_getElem? (i := 80) rfl)) rfl
theorem kml_X3_37 : Cond.methodLink RX3 37 yX3_tryToPlace ∈ jAll := jgd (jM2 (List.mem_of_getElem? (i := 81) rfl)) rfl
theorem kim_X3_tryToPlace : Cond.instanceMethod yX3_tryToPlace ∈ jAll := jgd (jM2 (List.mem_of_getElem? (i := 82) rfl)) rfl
theorem kse_X3_tryToPlace : Cond.selects RX3 yX3_tryToPlace yX3_tryToPlace ∈ jAll := jgd (jM2 (List.mem_of_getElem? (i := 83) rfl)) rfl
theorem kco_X3_tryToPlace : Cond.code yX3_tryToPlace cX3_tryToPlace 3 (some .boolean) ∈ jAll := jgd (jM2 (List.mem_of_getElem? (i := 84) rfl)) rfl
theorem kml_X3_58 : Cond.methodLink RX3 58 yX4_groupHasRoom ∈ jAll := jgd (jM2 (List.mem_of_getElem? (i := 85) rfl)) rfl
theorem kim_X4_groupHasRoom : Cond.instanceMethod yX4_groupHasRoom ∈ jAll := jgd (jM2 (List.mem_of_getElem? (i := 86) rfl)) rfl
theorem kse_X4_groupHasRoom : Cond.selects RX4 yX4_groupHasRoom yX4_groupHasRoom ∈ jAll := jgd (jM2 (List.mem_of_getElem? (i := 87) rfl)) rfl
theorem kco_X4_groupHasRoom : Cond.code yX4_groupHasRoom cX4_groupHasRoom 2 (some .boolean) ∈ jAll := jgd (jM2 (List.mem_of_getElem? (i := 88) rfl)) rfl
theorem kml_X3_61 : Cond.methodLink RX3 61 yX2_search ∈ jAll := jgd (jM2 (List.mem_of_getElem? (i := 89) rfl)) rfl
theorem kim_X2_search : Cond.instanceMethod yX2_search ∈ jAll := jgd (jM2 (List.mem_of_getElem? (i := 90) rfl)) rfl
theorem kse_X2_search : Cond.selects RX2 yX2_search yX2_search ∈ jAll := jgd (jM2 (List.mem_of_getElem? (i := 91) rfl)) rfl
theorem kco_X2_search : Cond.code yX2_search cX2_search 2 (some .int) ∈ jAll := jgd (jM2 (List.mem_of_getElem? (i := 92) rfl)) rfl
theorem kml_X2_28 : Cond.methodLink RX2 28 yX2_collectSuccessors ∈ jAll := jgd (jM2 (List.mem_of_getElem? (i := 93) rfl)) rfl
theorem kim_X2_collectSuccessors : Cond.instanceMethod yX2_collectSuccessors ∈ jAll := jgd (jM2 (List.mem_of_getElem? (i := 95) rfl)) rfl
theorem kco_X2_collectSuccessors : Cond.code yX2_collectSuccessors cX2_collectSuccessors 2 none ∈ jAll := jgd (jM2 (List.mem_of_getElem? (i := 96) rfl)) rfl
theorem kml_X2_57 : Cond.methodLink RX2 57 yX4_canBeMoved ∈ jAll := jgd (jM2 (List.mem_of_getElem? (i := 97) rfl)) rfl
theorem kim_X4_canBeMoved : Cond.instanceMethod yX4_canBeMoved ∈ jAll := jgd (jM2 (List.mem_of_getElem? (i := 98) rfl)) rfl
theorem kse_X4_canBeMoved : Cond.selects RX4 yX4_canBeMoved yX4_canBeMoved ∈ jAll := jgd (jM2 (List.mem_of_getElem? (i := 99) rfl)) rfl
theorem kco_X4_canBeMoved : Cond.code yX4_canBeMoved cX4_canBeMoved 2 (some .boolean) ∈ jAll := jgd (jM2 (List.mem_of_getElem? (i := 100) rfl)) rfl
theorem kml_X2_31 : Cond.methodLink RX2 31 yX2_buildLayers ∈ jAll := jgd (jM2 (List.mem_of_getElem? (i := 101) rfl)) rfl
theorem kim_X2_buildLayers : Cond.instanceMethod yX2_buildLayers ∈ jAll := jgd (jM2 (List.mem_of_getElem? (i := 103) rfl)) rfl
theorem kco_X2_buildLayers : Cond.code yX2_buildLayers cX2_buildLayers 3 none ∈ jAll := jgd (jM2 (List.mem_of_getElem? (i := 104) rfl)) rfl
theorem kml_X2_63 : Cond.methodLink RX2 63 yX4_resourceHasRoom ∈ jAll := jgd (jM2 (List.mem_of_getElem? (i := 105) rfl)) rfl
theorem kim_X4_resourceHasRoom : Cond.instanceMethod yX4_resourceHasRoom ∈ jAll := jgd (jM2 (List.mem_of_getElem? (i := 106) rfl)) rfl
theorem kse_X4_resourceHasRoom : Cond.selects RX4 yX4_resourceHasRoom yX4_resourceHasRoom ∈ jAll := jgd (jM2 (List.mem_of_getElem? (i := 107) rfl)) rfl
theorem kco_X4_resourceHasRoom : Cond.code yX4_resourceHasRoom cX4_resourceHasRoom 2 (some .boolean) ∈ jAll := jgd (jM2 (List.mem_of_getElem? (i := 108) rfl)) rfl
theorem kml_X2_66 : Cond.methodLink RX2 66 yX2_leadingTo ∈ jAll := jgd (jM2 (List.mem_of_getElem? (i := 109) rfl)) rfl
theorem kim_X2_leadingTo : Cond.instanceMethod yX2_leadingTo ∈ jAll := jgd (jM2 (List.mem_of_getElem? (i := 111) rfl)) rfl
theorem kco_X2_leadingTo : Cond.code yX2_leadingTo cX2_leadingTo 4 (some .int) ∈ jAll := jgd (jM2 (List.mem_of_getElem? (i := 112) rfl)) rfl
theorem kml_X2_39 : Cond.methodLink RX2 39 yX2_shortestFrom ∈ jAll := jgd (jM2 (List.mem_of_getElem? (i := 113) rfl)) rfl
theorem kim_X2_shortestFrom : Cond.instanceMethod yX2_shortestFrom ∈ jAll := jgd (jM2 (List.mem_of_getElem? (i := 115) rfl)) rfl
theorem kco_X2_shortestFrom : Cond.code yX2_shortestFrom cX2_shortestFrom 3 (some .int) ∈ jAll := jgd (jM2 (List.mem_of_getElem? (i := 116) rfl)) rfl
theorem kml_X2_47 : Cond.methodLink RX2 47 yX2_trace ∈ jAll := jgd (jM2 (List.mem_of_getElem? (i := 117) rfl)) rfl
theorem kim_X2_trace : Cond.instanceMethod yX2_trace ∈ jAll := jgd (jM2 (List.mem_of_getElem? (i := 119) rfl)) rfl
theorem kco_X2_trace : Cond.code yX2_trace cX2_trace 6 (some .boolean) ∈ jAll := jgd (jM2 (List.mem_of_getElem? (i := 120) rfl)) rfl
theorem kmn_X2_69 : Cond.methodLinkNest RX2 69 yX5_lowestResource "MatchingService" ∈ jNest := jH (jM2 (List.mem_of_getElem? (i := 121) rfl)) rfl
theorem kst_X5_lowestResource : Cond.static yX5_lowestResource ∈ jAll := jgd (jM2 (List.mem_of_getElem? (i := 122) rfl)) rfl
theorem kco_X5_lowestResource : Cond.code yX5_lowestResource cX5_lowestResource 2 (some .int) ∈ jAll := jgd (jM2 (List.mem_of_getElem? (i := 123) rfl)) rfl
theorem kml_X5_226 : Cond.methodLink RX5 226 yX5_hasBit ∈ jAll := jgd (jM2 (List.mem_of_getElem? (i := 124) rfl)) rfl
theorem kst_X5_hasBit : Cond.static yX5_hasBit ∈ jAll := jgd (jM2 (List.mem_of_getElem? (i := 125) rfl)) rfl
theorem kco_X5_hasBit : Cond.code yX5_hasBit cX5_hasBit 2 (some .boolean) ∈ jAll := jgd (jM2 (List.mem_of_getElem? (i := 126) rfl)) rfl
theorem kml_X2_72 : Cond.methodLink RX2 72 yX2_firstMovable ∈ jAll := jgd (jM2 (List.mem_of_getElem? (i := 127) rfl)) rfl
theorem kim_X2_firstMovable : Cond.instanceMethod yX2_firstMovable ∈ jAll := jgd (jM2 (List.mem_of_getElem? (i := 129) rfl)) rfl
theorem kco_X2_firstMovable : Cond.code yX2_firstMovable cX2_firstMovable 4 (some .int) ∈ jAll := jgd (jM2 (List.mem_of_getElem? (i := 130) rfl)) rfl
theorem kml_X3_70 : Cond.methodLink RX3 70 yX3_placeAlongPath ∈ jAll := jgd (jM2 (List.mem_of_getElem? (i := 131) rfl)) rfl
theorem kim_X3_placeAlongPath : Cond.instanceMethod yX3_placeAlongPath ∈ jAll := jgd (jM2 (List.mem_of_getElem? (i := 133) rfl)) rfl
theorem kco_X3_placeAlongPath : Cond.code yX3_placeAlongPath cX3_placeAlongPath 5 none ∈ jAll := jgd (jM2 (List.mem_of_getElem? (i := 134) rfl)) rfl
theorem kml_X3_77 : Cond.methodLink RX3 77 yX4_assign ∈ jAll := jgd (jM2 (List.mem_of_getElem? (i := 135) rfl)) rfl
theorem kim_X4_assign : Cond.instanceMethod yX4_assign ∈ jAll := jgd (jM2 (List.mem_of_getElem? (i := 136) rfl)) rfl
theorem kse_X4_assign : Cond.selects RX4 yX4_assign yX4_assign ∈ jAll := jgd (jM2 (List.mem_of_getElem? (i := 137) rfl)) rfl
theorem kco_X4_assign : Cond.code yX4_assign cX4_assign 3 none ∈ jAll := jgd (jM2 (List.mem_of_getElem? (i := 138) rfl)) rfl
theorem kml_X3_87 : Cond.methodLink RX3 87 yX4_move ∈ jAll := jgd (jM2 (List.mem_of_getElem? (i := 139) rfl)) rfl
theorem kim_X4_move : Cond.instanceMethod yX4_move ∈ jAll := jgd (jM2 (List.mem_of_getElem? (i := 140) rfl)) rfl
theorem kse_X4_move : Cond.selects RX4 yX4_move yX4_move ∈ jAll := jgd (jM2 (List.mem_of_getElem? (i := 141) rfl)) rfl
theorem kco_X4_move : Cond.code yX4_move cX4_move 3 none ∈ jAll := jgd (jM2 (List.mem_of_getElem? (i := 142) rfl)) rfl
theorem kml_X4_59 : Cond.methodLink RX4 59 yX4_putBack ∈ jAll := jgd (jM2 (List.mem_of_getElem? (i := 143) rfl)) rfl
theorem kim_X4_putBack : Cond.instanceMethod yX4_putBack ∈ jAll := jgd (jM2 (List.mem_of_getElem? (i := 144) rfl)) rfl
theorem kse_X4_putBack : Cond.selects RX4 yX4_putBack yX4_putBack ∈ jAll := jgd (jM2 (List.mem_of_getElem? (i := 145) rfl)) rfl
theorem kco_X4_putBack : Cond.code yX4_putBack cX4_putBack 2 none ∈ jAll := jgd (jM2 (List.mem_of_getElem? (i := 146) rfl)) rfl
theorem kml_X4_53 : Cond.methodLink RX4 53 yX4_isAssigned ∈ jAll := jgd (jM2 (List.mem_of_getElem? (i := 147) rfl)) rfl
theorem kim_X4_isAssigned : Cond.instanceMethod yX4_isAssigned ∈ jAll := jgd (jM2 (List.mem_of_getElem? (i := 148) rfl)) rfl
theorem kse_X4_isAssigned : Cond.selects RX4 yX4_isAssigned yX4_isAssigned ∈ jAll := jgd (jM2 (List.mem_of_getElem? (i := 149) rfl)) rfl
theorem kco_X4_isAssigned : Cond.code yX4_isAssigned cX4_isAssigned 2 (some .boolean) ∈ jAll := jgd (jM2 (List.mem_of_getElem? (i := 150) rfl)) rfl
theorem kml_X4_67 : Cond.methodLink RX4 67 yX4_assign ∈ jAll := jgd (jM2 (List.mem_of_getElem? (i := 151) rfl)) rfl
theorem kml_X3_90 : Cond.methodLink RX3 90 yX1_add ∈ jAll := jgd (jM2 (List.mem_of_getElem? (i := 152) rfl)) rfl
theorem kim_X1_add : Cond.instanceMethod yX1_add ∈ jAll := jgd (jM2 (List.mem_of_getElem? (i := 153) rfl)) rfl
theorem kse_X1_add : Cond.selects RX1 yX1_add yX1_add ∈ jAll := jgd (jM2 (List.mem_of_getElem? (i := 154) rfl)) rfl
theorem kco_X1_add : Cond.code yX1_add cX1_add 3 none ∈ jAll := jgd (jM2 (List.mem_of_getElem? (i := 155) rfl)) rfl
theorem kml_L_55 : Cond.methodLink RL 55 yX5_setGroup ∈ jAll := jgd (jM2 (List.mem_of_getElem? (i := 156) rfl)) rfl
theorem kim_X5_setGroup : Cond.instanceMethod yX5_setGroup ∈ jAll := jgd (jM2 (List.mem_of_getElem? (i := 157) rfl)) rfl
theorem kse_X5_setGroup : Cond.selects RX5 yX5_setGroup yX5_setGroup ∈ jAll := jgd (jM2 (List.mem_of_getElem? (i := 158) rfl)) rfl
theorem kco_X5_setGroup : Cond.code yX5_setGroup cX5_setGroup 5 (some .int) ∈ jAll := jgd (jM2 (List.mem_of_getElem? (i := 159) rfl)) rfl
theorem kml_X5_90 : Cond.methodLink RX5 90 yX5_requireGroup ∈ jAll := jgd (jM2 (List.mem_of_getElem? (i := 160) rfl)) rfl
theorem kim_X5_requireGroup : Cond.instanceMethod yX5_requireGroup ∈ jAll := jgd (jM2 (List.mem_of_getElem? (i := 162) rfl)) rfl
theorem kco_X5_requireGroup : Cond.code yX5_requireGroup cX5_requireGroup 2 none ∈ jAll := jgd (jM2 (List.mem_of_getElem? (i := 163) rfl)) rfl
theorem kcl_X5_208 : Cond.classLink RX5 208 "java/lang/IndexOutOfBoundsException" ∈ jAll := jgd (jM2 (List.mem_of_getElem? (i := 164) rfl)) rfl
theorem kin__java_lang_IndexOutOfBoundsException_ : Cond.instantiable "java/lang/IndexOutOfBoundsException" 6 ∈ jAll := jgd (jM2 (List.mem_of_getElem? (i := 165) rfl)) rfl
theorem kml_X5_212 : Cond.methodLink RX5 212 ⟨"java/lang/IndexOutOfBoundsException", "<init>", "(Ljava/lang/String;)V"⟩ ∈ jAll := jgd (jM2 (List.mem_of_getElem? (i := 174) rfl)) rfl
theorem kim_IndexOutOfBoundsException__init__Ljava_lang_String__V : Cond.instanceMethod ⟨"java/lang/IndexOutOfBoundsException", "<init>", "(Ljava/lang/String;)V"⟩ ∈ jAll := jgd (jM2 (List.mem_of_getElem? (i := 175) rfl)) rfl
theorem kml__java_lang_IndexOutOfBoundsException__7 : Cond.methodLink "java/lang/IndexOutOfBoundsException" 7 ⟨"java/lang/RuntimeException", "<init>", "(Ljava/lang/String;)V"⟩ ∈ jAll := jgd (jM2 (List.mem_of_getElem? (i := 177) rfl)) rfl
theorem kml_X5_103 : Cond.methodLink RX5 103 yX4_putBackBeyondQuota ∈ jAll := jgd (jM2 (List.mem_of_getElem? (i := 182) rfl)) rfl
theorem kim_X4_putBackBeyondQuota : Cond.instanceMethod yX4_putBackBeyondQuota ∈ jAll := jgd (jM2 (List.mem_of_getElem? (i := 183) rfl)) rfl
theorem kse_X4_putBackBeyondQuota : Cond.selects RX4 yX4_putBackBeyondQuota yX4_putBackBeyondQuota ∈ jAll := jgd (jM2 (List.mem_of_getElem? (i := 184) rfl)) rfl
theorem kco_X4_putBackBeyondQuota : Cond.code yX4_putBackBeyondQuota cX4_putBackBeyondQuota 4 (some .int) ∈ jAll := jgd (jM2 (List.mem_of_getElem? (i := 185) rfl)) rfl
theorem kml_L_49 : Cond.methodLink RL 49 yX5_setLimits ∈ jAll := jgd (jM2 (List.mem_of_getElem? (i := 186) rfl)) rfl
theorem kim_X5_setLimits : Cond.instanceMethod yX5_setLimits ∈ jAll := jgd (jM2 (List.mem_of_getElem? (i := 187) rfl)) rfl
theorem kse_X5_setLimits : Cond.selects RX5 yX5_setLimits yX5_setLimits ∈ jAll := jgd (jM2 (List.mem_of_getElem? (i := 188) rfl)) rfl
theorem kco_X5_setLimits : Cond.code yX5_setLimits cX5_setLimits 3 (some .int) ∈ jAll := jgd (jM2 (List.mem_of_getElem? (i := 189) rfl)) rfl
theorem kml_L_67 : Cond.methodLink RL 67 yX5_arrive ∈ jAll := jgd (jM2 (List.mem_of_getElem? (i := 192) rfl)) rfl
theorem kim_X5_arrive : Cond.instanceMethod yX5_arrive ∈ jAll := jgd (jM2 (List.mem_of_getElem? (i := 193) rfl)) rfl
theorem kse_X5_arrive : Cond.selects RX5 yX5_arrive yX5_arrive ∈ jAll := jgd (jM2 (List.mem_of_getElem? (i := 194) rfl)) rfl
theorem kco_X5_arrive : Cond.code yX5_arrive cX5_arrive 4 (some .int) ∈ jAll := jgd (jM2 (List.mem_of_getElem? (i := 195) rfl)) rfl
theorem kml_X5_116 : Cond.methodLink RX5 116 yX5_requireMask ∈ jAll := jgd (jM2 (List.mem_of_getElem? (i := 196) rfl)) rfl
theorem kim_X5_requireMask : Cond.instanceMethod yX5_requireMask ∈ jAll := jgd (jM2 (List.mem_of_getElem? (i := 198) rfl)) rfl
theorem kco_X5_requireMask : Cond.code yX5_requireMask cX5_requireMask 2 none ∈ jAll := jgd (jM2 (List.mem_of_getElem? (i := 199) rfl)) rfl
theorem kml_X5_219 : Cond.methodLink RX5 219 yX4_maskOfAll ∈ jAll := jgd (jM2 (List.mem_of_getElem? (i := 200) rfl)) rfl
theorem kim_X4_maskOfAll : Cond.instanceMethod yX4_maskOfAll ∈ jAll := jgd (jM2 (List.mem_of_getElem? (i := 201) rfl)) rfl
theorem kse_X4_maskOfAll : Cond.selects RX4 yX4_maskOfAll yX4_maskOfAll ∈ jAll := jgd (jM2 (List.mem_of_getElem? (i := 202) rfl)) rfl
theorem kco_X4_maskOfAll : Cond.code yX4_maskOfAll cX4_maskOfAll 1 (some .int) ∈ jAll := jgd (jM2 (List.mem_of_getElem? (i := 203) rfl)) rfl
theorem kml_X5_124 : Cond.methodLink RX5 124 yX4_admit ∈ jAll := jgd (jM2 (List.mem_of_getElem? (i := 206) rfl)) rfl
theorem kim_X4_admit : Cond.instanceMethod yX4_admit ∈ jAll := jgd (jM2 (List.mem_of_getElem? (i := 207) rfl)) rfl
theorem kse_X4_admit : Cond.selects RX4 yX4_admit yX4_admit ∈ jAll := jgd (jM2 (List.mem_of_getElem? (i := 208) rfl)) rfl
theorem kco_X4_admit : Cond.code yX4_admit cX4_admit 4 (some .int) ∈ jAll := jgd (jM2 (List.mem_of_getElem? (i := 209) rfl)) rfl
theorem kml_X5_128 : Cond.methodLink RX5 128 yX3_tryToPlace ∈ jAll := jgd (jM2 (List.mem_of_getElem? (i := 210) rfl)) rfl
theorem kml_L_70 : Cond.methodLink RL 70 yX5_depart ∈ jAll := jgd (jM2 (List.mem_of_getElem? (i := 211) rfl)) rfl
theorem kim_X5_depart : Cond.instanceMethod yX5_depart ∈ jAll := jgd (jM2 (List.mem_of_getElem? (i := 212) rfl)) rfl
theorem kse_X5_depart : Cond.selects RX5 yX5_depart yX5_depart ∈ jAll := jgd (jM2 (List.mem_of_getElem? (i := 213) rfl)) rfl
theorem kco_X5_depart : Cond.code yX5_depart cX5_depart 2 (some .int) ∈ jAll := jgd (jM2 (List.mem_of_getElem? (i := 214) rfl)) rfl
theorem kml_X5_132 : Cond.methodLink RX5 132 yX5_requirePresent ∈ jAll := jgd (jM2 (List.mem_of_getElem? (i := 215) rfl)) rfl
theorem kim_X5_requirePresent : Cond.instanceMethod yX5_requirePresent ∈ jAll := jgd (jM2 (List.mem_of_getElem? (i := 217) rfl)) rfl
theorem kco_X5_requirePresent : Cond.code yX5_requirePresent cX5_requirePresent 2 none ∈ jAll := jgd (jM2 (List.mem_of_getElem? (i := 218) rfl)) rfl
theorem kml_X5_157 : Cond.methodLink RX5 157 yX5_requireRequest ∈ jAll := jgd (jM2 (List.mem_of_getElem? (i := 219) rfl)) rfl
theorem kim_X5_requireRequest : Cond.instanceMethod yX5_requireRequest ∈ jAll := jgd (jM2 (List.mem_of_getElem? (i := 221) rfl)) rfl
theorem kco_X5_requireRequest : Cond.code yX5_requireRequest cX5_requireRequest 2 none ∈ jAll := jgd (jM2 (List.mem_of_getElem? (i := 222) rfl)) rfl
theorem kml_X5_197 : Cond.methodLink RX5 197 yX4_isDeparted ∈ jAll := jgd (jM2 (List.mem_of_getElem? (i := 224) rfl)) rfl
theorem kim_X4_isDeparted : Cond.instanceMethod yX4_isDeparted ∈ jAll := jgd (jM2 (List.mem_of_getElem? (i := 225) rfl)) rfl
theorem kse_X4_isDeparted : Cond.selects RX4 yX4_isDeparted yX4_isDeparted ∈ jAll := jgd (jM2 (List.mem_of_getElem? (i := 226) rfl)) rfl
theorem kco_X4_isDeparted : Cond.code yX4_isDeparted cX4_isDeparted 2 (some .boolean) ∈ jAll := jgd (jM2 (List.mem_of_getElem? (i := 227) rfl)) rfl
theorem kcl_X5_163 : Cond.classLink RX5 163 "java/util/NoSuchElementException" ∈ jAll := jgd (jM2 (List.mem_of_getElem? (i := 228) rfl)) rfl
theorem kin__java_util_NoSuchElementException_ : Cond.instantiable "java/util/NoSuchElementException" 6 ∈ jAll := jgd (jM2 (List.mem_of_getElem? (i := 229) rfl)) rfl
theorem kml_X5_167 : Cond.methodLink RX5 167 ⟨"java/util/NoSuchElementException", "<init>", "(Ljava/lang/String;)V"⟩ ∈ jAll := jgd (jM2 (List.mem_of_getElem? (i := 238) rfl)) rfl
theorem kim_NoSuchElementException__init__Ljava_lang_String__V : Cond.instanceMethod ⟨"java/util/NoSuchElementException", "<init>", "(Ljava/lang/String;)V"⟩ ∈ jAll := jgd (jM2 (List.mem_of_getElem? (i := 239) rfl)) rfl
theorem kml__java_util_NoSuchElementException__13 : Cond.methodLink "java/util/NoSuchElementException" 13 ⟨"java/lang/RuntimeException", "<init>", "(Ljava/lang/String;)V"⟩ ∈ jAll := jgd (jM3 (List.mem_of_getElem? (i := 1) rfl)) rfl
theorem kml_X5_135 : Cond.methodLink RX5 135 yX4_dismiss ∈ jAll := jgd (jM3 (List.mem_of_getElem? (i := 4) rfl)) rfl
theorem kim_X4_dismiss : Cond.instanceMethod yX4_dismiss ∈ jAll := jgd (jM3 (List.mem_of_getElem? (i := 5) rfl)) rfl
theorem kse_X4_dismiss : Cond.selects RX4 yX4_dismiss yX4_dismiss ∈ jAll := jgd (jM3 (List.mem_of_getElem? (i := 6) rfl)) rfl
theorem kco_X4_dismiss : Cond.code yX4_dismiss cX4_dismiss 2 none ∈ jAll := jgd (jM3 (List.mem_of_getElem? (i := 7) rfl)) rfl
theorem kml_L_73 : Cond.methodLink RL 73 yX5_setAccepts ∈ jAll := jgd (jM3 (List.mem_of_getElem? (i := 8) rfl)) rfl
theorem kim_X5_setAccepts : Cond.instanceMethod yX5_setAccepts ∈ jAll := jgd (jM3 (List.mem_of_getElem? (i := 9) rfl)) rfl
theorem kse_X5_setAccepts : Cond.selects RX5 yX5_setAccepts yX5_setAccepts ∈ jAll := jgd (jM3 (List.mem_of_getElem? (i := 10) rfl)) rfl
theorem kco_X5_setAccepts : Cond.code yX5_setAccepts cX5_setAccepts 3 (some .boolean) ∈ jAll := jgd (jM3 (List.mem_of_getElem? (i := 11) rfl)) rfl
theorem kml_X5_138 : Cond.methodLink RX5 138 yX4_accept ∈ jAll := jgd (jM3 (List.mem_of_getElem? (i := 12) rfl)) rfl
theorem kim_X4_accept : Cond.instanceMethod yX4_accept ∈ jAll := jgd (jM3 (List.mem_of_getElem? (i := 13) rfl)) rfl
theorem kse_X4_accept : Cond.selects RX4 yX4_accept yX4_accept ∈ jAll := jgd (jM3 (List.mem_of_getElem? (i := 14) rfl)) rfl
theorem kco_X4_accept : Cond.code yX4_accept cX4_accept 3 none ∈ jAll := jgd (jM3 (List.mem_of_getElem? (i := 15) rfl)) rfl
theorem kmn_X4_63 : Cond.methodLinkNest RX4 63 yX5_hasBit "MatchingService" ∈ jNest := jH (jM3 (List.mem_of_getElem? (i := 16) rfl)) rfl
theorem kml_X5_142 : Cond.methodLink RX5 142 yX4_isAssigned ∈ jAll := jgd (jM3 (List.mem_of_getElem? (i := 17) rfl)) rfl
theorem kml_L_81 : Cond.methodLink RL 81 yX5_resourceCount ∈ jAll := jgd (jM3 (List.mem_of_getElem? (i := 18) rfl)) rfl
theorem kim_X5_resourceCount : Cond.instanceMethod yX5_resourceCount ∈ jAll := jgd (jM3 (List.mem_of_getElem? (i := 19) rfl)) rfl
theorem kse_X5_resourceCount : Cond.selects RX5 yX5_resourceCount yX5_resourceCount ∈ jAll := jgd (jM3 (List.mem_of_getElem? (i := 20) rfl)) rfl
theorem kco_X5_resourceCount : Cond.code yX5_resourceCount cX5_resourceCount 1 (some .int) ∈ jAll := jgd (jM3 (List.mem_of_getElem? (i := 21) rfl)) rfl
theorem kml_L_45 : Cond.methodLink RL 45 yL_below ∈ jAll := jgd (jM3 (List.mem_of_getElem? (i := 22) rfl)) rfl
theorem kst_L_below : Cond.static yL_below ∈ jAll := jgd (jM3 (List.mem_of_getElem? (i := 23) rfl)) rfl
theorem kco_L_below : Cond.code yL_below cL_below 2 (some .int) ∈ jAll := jgd (jM3 (List.mem_of_getElem? (i := 24) rfl)) rfl
theorem kcn_L_7 : Cond.constant RL 7 (2147483647 : Int32) ∈ jAll := jgd (jM3 (List.mem_of_getElem? (i := 25) rfl)) rfl
theorem kml_L_41 : Cond.methodLink RL 41 yL_cell ∈ jAll := jgd (jM3 (List.mem_of_getElem? (i := 26) rfl)) rfl
theorem kst_L_cell : Cond.static yL_cell ∈ jAll := jgd (jM3 (List.mem_of_getElem? (i := 27) rfl)) rfl
theorem kco_L_cell : Cond.code yL_cell cL_cell 2 (some .int) ∈ jAll := jgd (jM3 (List.mem_of_getElem? (i := 28) rfl)) rfl
theorem kcn_L_8 : Cond.constant RL 8 (790386105 : Int32) ∈ jAll := jgd (jM3 (List.mem_of_getElem? (i := 29) rfl)) rfl
theorem kml_L_59 : Cond.methodLink RL 59 yL_bestPath ∈ jAll := jgd (jM3 (List.mem_of_getElem? (i := 30) rfl)) rfl
theorem kst_L_bestPath : Cond.static yL_bestPath ∈ jAll := jgd (jM3 (List.mem_of_getElem? (i := 31) rfl)) rfl
theorem kco_L_bestPath : Cond.code yL_bestPath cL_bestPath 10 (some .int) ∈ jAll := jgd (jM3 (List.mem_of_getElem? (i := 32) rfl)) rfl
theorem kml_L_9 : Cond.methodLink RL 9 yL_isPath ∈ jAll := jgd (jM3 (List.mem_of_getElem? (i := 33) rfl)) rfl
theorem kst_L_isPath : Cond.static yL_isPath ∈ jAll := jgd (jM3 (List.mem_of_getElem? (i := 34) rfl)) rfl
theorem kco_L_isPath : Cond.code yL_isPath cL_isPath 13 (some .boolean) ∈ jAll := jgd (jM3 (List.mem_of_getElem? (i := 35) rfl)) rfl
theorem kml_L_63 : Cond.methodLink RL 63 yL_place ∈ jAll := jgd (jM3 (List.mem_of_getElem? (i := 36) rfl)) rfl
theorem kst_L_place : Cond.static yL_place ∈ jAll := jgd (jM3 (List.mem_of_getElem? (i := 37) rfl)) rfl
theorem kco_L_place : Cond.code yL_place cL_place 11 (some .int) ∈ jAll := jgd (jM3 (List.mem_of_getElem? (i := 38) rfl)) rfl
theorem kml_L_77 : Cond.methodLink RL 77 yL_isSame ∈ jAll := jgd (jM3 (List.mem_of_getElem? (i := 39) rfl)) rfl
theorem kst_L_isSame : Cond.static yL_isSame ∈ jAll := jgd (jM3 (List.mem_of_getElem? (i := 40) rfl)) rfl
theorem kco_L_isSame : Cond.code yL_isSame cL_isSame 7 (some .boolean) ∈ jAll := jgd (jM3 (List.mem_of_getElem? (i := 41) rfl)) rfl
theorem kml_L_15 : Cond.methodLink RL 15 yX5_arrivedCount ∈ jAll := jgd (jM3 (List.mem_of_getElem? (i := 42) rfl)) rfl
theorem kim_X5_arrivedCount : Cond.instanceMethod yX5_arrivedCount ∈ jAll := jgd (jM3 (List.mem_of_getElem? (i := 43) rfl)) rfl
theorem kse_X5_arrivedCount : Cond.selects RX5 yX5_arrivedCount yX5_arrivedCount ∈ jAll := jgd (jM3 (List.mem_of_getElem? (i := 44) rfl)) rfl
theorem kco_X5_arrivedCount : Cond.code yX5_arrivedCount cX5_arrivedCount 1 (some .int) ∈ jAll := jgd (jM3 (List.mem_of_getElem? (i := 45) rfl)) rfl
theorem kml_L_21 : Cond.methodLink RL 21 yX5_moveCount ∈ jAll := jgd (jM3 (List.mem_of_getElem? (i := 46) rfl)) rfl
theorem kim_X5_moveCount : Cond.instanceMethod yX5_moveCount ∈ jAll := jgd (jM3 (List.mem_of_getElem? (i := 47) rfl)) rfl
theorem kse_X5_moveCount : Cond.selects RX5 yX5_moveCount yX5_moveCount ∈ jAll := jgd (jM3 (List.mem_of_getElem? (i := 48) rfl)) rfl
theorem kco_X5_moveCount : Cond.code yX5_moveCount cX5_moveCount 1 (some .int) ∈ jAll := jgd (jM3 (List.mem_of_getElem? (i := 49) rfl)) rfl
theorem kml_L_24 : Cond.methodLink RL 24 yX5_state ∈ jAll := jgd (jM3 (List.mem_of_getElem? (i := 50) rfl)) rfl
theorem kim_X5_state : Cond.instanceMethod yX5_state ∈ jAll := jgd (jM3 (List.mem_of_getElem? (i := 51) rfl)) rfl
theorem kse_X5_state : Cond.selects RX5 yX5_state yX5_state ∈ jAll := jgd (jM3 (List.mem_of_getElem? (i := 52) rfl)) rfl
theorem kco_X5_state : Cond.code yX5_state cX5_state 2 (some .int) ∈ jAll := jgd (jM3 (List.mem_of_getElem? (i := 53) rfl)) rfl
theorem kml_X5_160 : Cond.methodLink RX5 160 yX4_stateNumber ∈ jAll := jgd (jM3 (List.mem_of_getElem? (i := 54) rfl)) rfl
theorem kim_X4_stateNumber : Cond.instanceMethod yX4_stateNumber ∈ jAll := jgd (jM3 (List.mem_of_getElem? (i := 55) rfl)) rfl
theorem kse_X4_stateNumber : Cond.selects RX4 yX4_stateNumber yX4_stateNumber ∈ jAll := jgd (jM3 (List.mem_of_getElem? (i := 56) rfl)) rfl
theorem kco_X4_stateNumber : Cond.code yX4_stateNumber cX4_stateNumber 2 (some .int) ∈ jAll := jgd (jM3 (List.mem_of_getElem? (i := 57) rfl)) rfl
theorem kml_X4_49 : Cond.methodLink RX4 49 yX4_isWaiting ∈ jAll := jgd (jM3 (List.mem_of_getElem? (i := 58) rfl)) rfl
theorem kml_L_28 : Cond.methodLink RL 28 yX5_resourceOf ∈ jAll := jgd (jM3 (List.mem_of_getElem? (i := 59) rfl)) rfl
theorem kim_X5_resourceOf : Cond.instanceMethod yX5_resourceOf ∈ jAll := jgd (jM3 (List.mem_of_getElem? (i := 60) rfl)) rfl
theorem kse_X5_resourceOf : Cond.selects RX5 yX5_resourceOf yX5_resourceOf ∈ jAll := jgd (jM3 (List.mem_of_getElem? (i := 61) rfl)) rfl
theorem kco_X5_resourceOf : Cond.code yX5_resourceOf cX5_resourceOf 2 (some .int) ∈ jAll := jgd (jM3 (List.mem_of_getElem? (i := 62) rfl)) rfl
theorem kml_L_31 : Cond.methodLink RL 31 yX5_movesOf ∈ jAll := jgd (jM3 (List.mem_of_getElem? (i := 64) rfl)) rfl
theorem kim_X5_movesOf : Cond.instanceMethod yX5_movesOf ∈ jAll := jgd (jM3 (List.mem_of_getElem? (i := 65) rfl)) rfl
theorem kse_X5_movesOf : Cond.selects RX5 yX5_movesOf yX5_movesOf ∈ jAll := jgd (jM3 (List.mem_of_getElem? (i := 66) rfl)) rfl
theorem kco_X5_movesOf : Cond.code yX5_movesOf cX5_movesOf 2 (some .int) ∈ jAll := jgd (jM3 (List.mem_of_getElem? (i := 67) rfl)) rfl
theorem kml_L_34 : Cond.methodLink RL 34 yX5_movedRequest ∈ jAll := jgd (jM3 (List.mem_of_getElem? (i := 68) rfl)) rfl
theorem kim_X5_movedRequest : Cond.instanceMethod yX5_movedRequest ∈ jAll := jgd (jM3 (List.mem_of_getElem? (i := 69) rfl)) rfl
theorem kse_X5_movedRequest : Cond.selects RX5 yX5_movedRequest yX5_movedRequest ∈ jAll := jgd (jM3 (List.mem_of_getElem? (i := 70) rfl)) rfl
theorem kco_X5_movedRequest : Cond.code yX5_movedRequest cX5_movedRequest 2 (some .int) ∈ jAll := jgd (jM3 (List.mem_of_getElem? (i := 71) rfl)) rfl
theorem kml_X5_177 : Cond.methodLink RX5 177 yX5_requireLogged ∈ jAll := jgd (jM3 (List.mem_of_getElem? (i := 72) rfl)) rfl
theorem kim_X5_requireLogged : Cond.instanceMethod yX5_requireLogged ∈ jAll := jgd (jM3 (List.mem_of_getElem? (i := 74) rfl)) rfl
theorem kco_X5_requireLogged : Cond.code yX5_requireLogged cX5_requireLogged 2 none ∈ jAll := jgd (jM3 (List.mem_of_getElem? (i := 75) rfl)) rfl
theorem kml_L_37 : Cond.methodLink RL 37 yX5_movedTo ∈ jAll := jgd (jM3 (List.mem_of_getElem? (i := 77) rfl)) rfl
theorem kim_X5_movedTo : Cond.instanceMethod yX5_movedTo ∈ jAll := jgd (jM3 (List.mem_of_getElem? (i := 78) rfl)) rfl
theorem kse_X5_movedTo : Cond.selects RX5 yX5_movedTo yX5_movedTo ∈ jAll := jgd (jM3 (List.mem_of_getElem? (i := 79) rfl)) rfl
theorem kco_X5_movedTo : Cond.code yX5_movedTo cX5_movedTo 2 (some .int) ∈ jAll := jgd (jM3 (List.mem_of_getElem? (i := 80) rfl)) rfl
theorem kse_X3_nextToTry : Cond.selects RX3 yX3_nextToTry yX3_nextToTry ∈ jAll := jgd (jMp (List.mem_of_getElem? (i := 1) rfl)) rfl
theorem kse_X3_isServedBefore : Cond.selects RX3 yX3_isServedBefore yX3_isServedBefore ∈ jAll := jgd (jMp (List.mem_of_getElem? (i := 2) rfl)) rfl
theorem kse_X2_collectSuccessors : Cond.selects RX2 yX2_collectSuccessors yX2_collectSuccessors ∈ jAll := jgd (jMp (List.mem_of_getElem? (i := 3) rfl)) rfl
theorem kse_X2_buildLayers : Cond.selects RX2 yX2_buildLayers yX2_buildLayers ∈ jAll := jgd (jMp (List.mem_of_getElem? (i := 4) rfl)) rfl
theorem kse_X2_leadingTo : Cond.selects RX2 yX2_leadingTo yX2_leadingTo ∈ jAll := jgd (jMp (List.mem_of_getElem? (i := 5) rfl)) rfl
theorem kse_X2_shortestFrom : Cond.selects RX2 yX2_shortestFrom yX2_shortestFrom ∈ jAll := jgd (jMp (List.mem_of_getElem? (i := 6) rfl)) rfl
theorem kse_X2_trace : Cond.selects RX2 yX2_trace yX2_trace ∈ jAll := jgd (jMp (List.mem_of_getElem? (i := 7) rfl)) rfl
theorem kse_X2_firstMovable : Cond.selects RX2 yX2_firstMovable yX2_firstMovable ∈ jAll := jgd (jMp (List.mem_of_getElem? (i := 8) rfl)) rfl
theorem kse_X3_placeAlongPath : Cond.selects RX3 yX3_placeAlongPath yX3_placeAlongPath ∈ jAll := jgd (jMp (List.mem_of_getElem? (i := 9) rfl)) rfl
theorem kse_X5_requireGroup : Cond.selects RX5 yX5_requireGroup yX5_requireGroup ∈ jAll := jgd (jMp (List.mem_of_getElem? (i := 10) rfl)) rfl
theorem kse_X5_requireMask : Cond.selects RX5 yX5_requireMask yX5_requireMask ∈ jAll := jgd (jMp (List.mem_of_getElem? (i := 11) rfl)) rfl
theorem kse_X5_requirePresent : Cond.selects RX5 yX5_requirePresent yX5_requirePresent ∈ jAll := jgd (jMp (List.mem_of_getElem? (i := 12) rfl)) rfl
theorem kse_X5_requireRequest : Cond.selects RX5 yX5_requireRequest yX5_requireRequest ∈ jAll := jgd (jMp (List.mem_of_getElem? (i := 13) rfl)) rfl
theorem kse_X5_requireLogged : Cond.selects RX5 yX5_requireLogged yX5_requireLogged ∈ jAll := jgd (jMp (List.mem_of_getElem? (i := 14) rfl)) rfl
theorem jU_X0 : ∀ w ∈ u_ws RX0 TX0 10, w ∈ jAll := by
  intro w h
  obtain ⟨k, hk, rfl⟩ := List.mem_map.mp h
  have hk := List.mem_range.mp hk
  match k, hk with
  | 0, _ => exact jgd (jM1 (List.mem_of_getElem? (i := 168) rfl)) rfl
  | 1, _ => exact jgd (jM1 (List.mem_of_getElem? (i := 170) rfl)) rfl
  | 2, _ => exact jgd (jM1 (List.mem_of_getElem? (i := 172) rfl)) rfl
  | 3, _ => exact jgd (jM1 (List.mem_of_getElem? (i := 174) rfl)) rfl
  | 4, _ => exact jgd (jM1 (List.mem_of_getElem? (i := 176) rfl)) rfl
  | 5, _ => exact jgd (jM1 (List.mem_of_getElem? (i := 178) rfl)) rfl
  | 6, _ => exact jgd (jM1 (List.mem_of_getElem? (i := 180) rfl)) rfl
  | 7, _ => exact jgd (jM1 (List.mem_of_getElem? (i := 182) rfl)) rfl
  | 8, _ => exact jgd (jM1 (List.mem_of_getElem? (i := 184) rfl)) rfl
  | 9, _ => exact jgd (jM1 (List.mem_of_getElem? (i := 186) rfl)) rfl
  | k + 10, hk => exact absurd hk (by omega)
theorem jU_X1 : ∀ w ∈ u_ws RX1 TX1 3, w ∈ jAll := by
  intro w h
  obtain ⟨k, hk, rfl⟩ := List.mem_map.mp h
  have hk := List.mem_range.mp hk
  match k, hk with
  | 0, _ => exact jgd (jM1 (List.mem_of_getElem? (i := 98) rfl)) rfl
  | 1, _ => exact jgd (jM1 (List.mem_of_getElem? (i := 100) rfl)) rfl
  | 2, _ => exact jgd (jM1 (List.mem_of_getElem? (i := 102) rfl)) rfl
  | k + 3, hk => exact absurd hk (by omega)
theorem jU_X2 : ∀ w ∈ u_ws RX2 TX2 6, w ∈ jAll := by
  intro w h
  obtain ⟨k, hk, rfl⟩ := List.mem_map.mp h
  have hk := List.mem_range.mp hk
  match k, hk with
  | 0, _ => exact jgd (jM1 (List.mem_of_getElem? (i := 120) rfl)) rfl
  | 1, _ => exact jgd (jM1 (List.mem_of_getElem? (i := 122) rfl)) rfl
  | 2, _ => exact jgd (jM1 (List.mem_of_getElem? (i := 124) rfl)) rfl
  | 3, _ => exact jgd (jM1 (List.mem_of_getElem? (i := 126) rfl)) rfl
  | 4, _ => exact jgd (jM1 (List.mem_of_getElem? (i := 128) rfl)) rfl
  | 5, _ => exact jgd (jM1 (List.mem_of_getElem? (i := 130) rfl)) rfl
  | k + 6, hk => exact absurd hk (by omega)
theorem jU_X3 : ∀ w ∈ u_ws RX3 TX3 4, w ∈ jAll := by
  intro w h
  obtain ⟨k, hk, rfl⟩ := List.mem_map.mp h
  have hk := List.mem_range.mp hk
  match k, hk with
  | 0, _ => exact jgd (jM1 (List.mem_of_getElem? (i := 143) rfl)) rfl
  | 1, _ => exact jgd (jM1 (List.mem_of_getElem? (i := 145) rfl)) rfl
  | 2, _ => exact jgd (jM1 (List.mem_of_getElem? (i := 147) rfl)) rfl
  | 3, _ => exact jgd (jM1 (List.mem_of_getElem? (i := 149) rfl)) rfl
  | k + 4, hk => exact absurd hk (by omega)
theorem jU_X4 : ∀ w ∈ u_ws RX4 TX4 13, w ∈ jAll := by
  intro w h
  obtain ⟨k, hk, rfl⟩ := List.mem_map.mp h
  have hk := List.mem_range.mp hk
  match k, hk with
  | 0, _ => exact jgd (jM1 (List.mem_of_getElem? (i := 58) rfl)) rfl
  | 1, _ => exact jgd (jM1 (List.mem_of_getElem? (i := 60) rfl)) rfl
  | 2, _ => exact jgd (jM1 (List.mem_of_getElem? (i := 62) rfl)) rfl
  | 3, _ => exact jgd (jM1 (List.mem_of_getElem? (i := 64) rfl)) rfl
  | 4, _ => exact jgd (jM1 (List.mem_of_getElem? (i := 66) rfl)) rfl
  | 5, _ => exact jgd (jM1 (List.mem_of_getElem? (i := 68) rfl)) rfl
  | 6, _ => exact jgd (jM1 (List.mem_of_getElem? (i := 70) rfl)) rfl
  | 7, _ => exact jgd (jM1 (List.mem_of_getElem? (i := 72) rfl)) rfl
  | 8, _ => exact jgd (jM1 (List.mem_of_getElem? (i := 74) rfl)) rfl
  | 9, _ => exact jgd (jM1 (List.mem_of_getElem? (i := 76) rfl)) rfl
  | 10, _ => exact jgd (jM1 (List.mem_of_getElem? (i := 78) rfl)) rfl
  | 11, _ => exact jgd (jM1 (List.mem_of_getElem? (i := 80) rfl)) rfl
  | 12, _ => exact jgd (jM1 (List.mem_of_getElem? (i := 82) rfl)) rfl
  | k + 13, hk => exact absurd hk (by omega)
theorem jU_X5 : ∀ w ∈ u_ws RX5 TX5 5, w ∈ jAll := by
  intro w h
  obtain ⟨k, hk, rfl⟩ := List.mem_map.mp h
  have hk := List.mem_range.mp hk
  match k, hk with
  | 0, _ => exact jgd (jM1 (List.mem_of_getElem? (i := 194) rfl)) rfl
  | 1, _ => exact jgd (jM1 (List.mem_of_getElem? (i := 196) rfl)) rfl
  | 2, _ => exact jgd (jM1 (List.mem_of_getElem? (i := 198) rfl)) rfl
  | 3, _ => exact jgd (jM1 (List.mem_of_getElem? (i := 200) rfl)) rfl
  | 4, _ => exact jgd (jM1 (List.mem_of_getElem? (i := 202) rfl)) rfl
  | k + 5, hk => exact absurd hk (by omega)
theorem jU_X6 : ∀ w ∈ u_ws RX6 TX6 0, w ∈ jAll := by
  intro w h
  obtain ⟨k, hk, rfl⟩ := List.mem_map.mp h
  have hk := List.mem_range.mp hk
  match k, hk with
  | k + 0, hk => exact absurd hk (by omega)
end
section
theorem dL_below_0 : decode cL_below 0 = .ok (.iload_n 0, 1) := by decide +kernel
theorem dL_below_1 : decode cL_below 1 = .ok (.ldc 7, 2) := by decide +kernel
theorem dL_below_3 : decode cL_below 3 = .ok (.iand, 1) := by decide +kernel
theorem dL_below_4 : decode cL_below 4 = .ok (.iload_n 1, 1) := by decide +kernel
theorem dL_below_5 : decode cL_below 5 = .ok (.irem, 1) := by decide +kernel
theorem dL_below_6 : decode cL_below 6 = .ok (.ireturn, 1) := by decide +kernel
theorem dL_cell_0 : decode cL_cell 0 = .ok (.iload_n 1, 1) := by decide +kernel
theorem dL_cell_1 : decode cL_cell 1 = .ok (.aload_n 0, 1) := by decide +kernel
theorem dL_cell_2 : decode cL_cell 2 = .ok (.arraylength, 1) := by decide +kernel
theorem dL_cell_3 : decode cL_cell 3 = .ok (.if_icmp .ge 9, 3) := by decide +kernel
theorem dL_cell_6 : decode cL_cell 6 = .ok (.aload_n 0, 1) := by decide +kernel
theorem dL_cell_7 : decode cL_cell 7 = .ok (.iload_n 1, 1) := by decide +kernel
theorem dL_cell_8 : decode cL_cell 8 = .ok (.iaload, 1) := by decide +kernel
theorem dL_cell_9 : decode cL_cell 9 = .ok (.goto 9, 3) := by decide +kernel
theorem dL_cell_12 : decode cL_cell 12 = .ok (.ldc 8, 2) := by decide +kernel
theorem dL_cell_14 : decode cL_cell 14 = .ok (.iload_n 1, 1) := by decide +kernel
theorem dL_cell_15 : decode cL_cell 15 = .ok (.iconst 3, 1) := by decide +kernel
theorem dL_cell_16 : decode cL_cell 16 = .ok (.iadd, 1) := by decide +kernel
theorem dL_cell_17 : decode cL_cell 17 = .ok (.imul, 1) := by decide +kernel
theorem dL_cell_18 : decode cL_cell 18 = .ok (.ireturn, 1) := by decide +kernel
theorem dL_isPath_0 : decode cL_isPath 0 = .ok (.iload_n 0, 1) := by decide +kernel
theorem dL_isPath_1 : decode cL_isPath 1 = .ok (.istore 9, 2) := by decide +kernel
theorem dL_isPath_3 : decode cL_isPath 3 = .ok (.iconst 0, 1) := by decide +kernel
theorem dL_isPath_4 : decode cL_isPath 4 = .ok (.istore 10, 2) := by decide +kernel
theorem dL_isPath_6 : decode cL_isPath 6 = .ok (.iload_n 1, 1) := by decide +kernel
theorem dL_isPath_7 : decode cL_isPath 7 = .ok (.iconst 1, 1) := by decide +kernel
theorem dL_isPath_8 : decode cL_isPath 8 = .ok (.isub, 1) := by decide +kernel
theorem dL_isPath_9 : decode cL_isPath 9 = .ok (.istore 11, 2) := by decide +kernel
theorem dL_isPath_11 : decode cL_isPath 11 = .ok (.iload 11, 2) := by decide +kernel
theorem dL_isPath_13 : decode cL_isPath 13 = .ok (.ifCond .lt 52, 3) := by decide +kernel
theorem dL_isPath_16 : decode cL_isPath 16 = .ok (.aload 8, 2) := by decide +kernel
theorem dL_isPath_18 : decode cL_isPath 18 = .ok (.iload 11, 2) := by decide +kernel
theorem dL_isPath_20 : decode cL_isPath 20 = .ok (.iload 9, 2) := by decide +kernel
theorem dL_isPath_22 : decode cL_isPath 22 = .ok (.iload_n 2, 1) := by decide +kernel
theorem dL_isPath_23 : decode cL_isPath 23 = .ok (.irem, 1) := by decide +kernel
theorem dL_isPath_24 : decode cL_isPath 24 = .ok (.iastore, 1) := by decide +kernel
theorem dL_isPath_25 : decode cL_isPath 25 = .ok (.iload 9, 2) := by decide +kernel
theorem dL_isPath_27 : decode cL_isPath 27 = .ok (.iload_n 2, 1) := by decide +kernel
theorem dL_isPath_28 : decode cL_isPath 28 = .ok (.idiv, 1) := by decide +kernel
theorem dL_isPath_29 : decode cL_isPath 29 = .ok (.istore 9, 2) := by decide +kernel
theorem dL_isPath_31 : decode cL_isPath 31 = .ok (.iload 10, 2) := by decide +kernel
theorem dL_isPath_33 : decode cL_isPath 33 = .ok (.aload 8, 2) := by decide +kernel
theorem dL_isPath_35 : decode cL_isPath 35 = .ok (.iload 11, 2) := by decide +kernel
theorem dL_isPath_37 : decode cL_isPath 37 = .ok (.iaload, 1) := by decide +kernel
theorem dL_isPath_38 : decode cL_isPath 38 = .ok (.ishr, 1) := by decide +kernel
theorem dL_isPath_39 : decode cL_isPath 39 = .ok (.iconst 1, 1) := by decide +kernel
theorem dL_isPath_40 : decode cL_isPath 40 = .ok (.iand, 1) := by decide +kernel
theorem dL_isPath_41 : decode cL_isPath 41 = .ok (.iconst 1, 1) := by decide +kernel
theorem dL_isPath_42 : decode cL_isPath 42 = .ok (.if_icmp .ne 5, 3) := by decide +kernel
theorem dL_isPath_45 : decode cL_isPath 45 = .ok (.iconst 0, 1) := by decide +kernel
theorem dL_isPath_46 : decode cL_isPath 46 = .ok (.ireturn, 1) := by decide +kernel
theorem dL_isPath_47 : decode cL_isPath 47 = .ok (.iload 10, 2) := by decide +kernel
theorem dL_isPath_49 : decode cL_isPath 49 = .ok (.iconst 1, 1) := by decide +kernel
theorem dL_isPath_50 : decode cL_isPath 50 = .ok (.aload 8, 2) := by decide +kernel
theorem dL_isPath_52 : decode cL_isPath 52 = .ok (.iload 11, 2) := by decide +kernel
theorem dL_isPath_54 : decode cL_isPath 54 = .ok (.iaload, 1) := by decide +kernel
theorem dL_isPath_55 : decode cL_isPath 55 = .ok (.ishl, 1) := by decide +kernel
theorem dL_isPath_56 : decode cL_isPath 56 = .ok (.ior, 1) := by decide +kernel
theorem dL_isPath_57 : decode cL_isPath 57 = .ok (.istore 10, 2) := by decide +kernel
theorem dL_isPath_59 : decode cL_isPath 59 = .ok (.iinc 11 (-1), 3) := by decide +kernel
theorem dL_isPath_62 : decode cL_isPath 62 = .ok (.goto (-51), 3) := by decide +kernel
theorem dL_isPath_65 : decode cL_isPath 65 = .ok (.iload_n 3, 1) := by decide +kernel
theorem dL_isPath_66 : decode cL_isPath 66 = .ok (.aload 8, 2) := by decide +kernel
theorem dL_isPath_68 : decode cL_isPath 68 = .ok (.iconst 0, 1) := by decide +kernel
theorem dL_isPath_69 : decode cL_isPath 69 = .ok (.iaload, 1) := by decide +kernel
theorem dL_isPath_70 : decode cL_isPath 70 = .ok (.ishr, 1) := by decide +kernel
theorem dL_isPath_71 : decode cL_isPath 71 = .ok (.iconst 1, 1) := by decide +kernel
theorem dL_isPath_72 : decode cL_isPath 72 = .ok (.iand, 1) := by decide +kernel
theorem dL_isPath_73 : decode cL_isPath 73 = .ok (.ifCond .eq 15, 3) := by decide +kernel
theorem dL_isPath_76 : decode cL_isPath 76 = .ok (.aload 4, 2) := by decide +kernel
theorem dL_isPath_78 : decode cL_isPath 78 = .ok (.aload 8, 2) := by decide +kernel
theorem dL_isPath_80 : decode cL_isPath 80 = .ok (.iload_n 1, 1) := by decide +kernel
theorem dL_isPath_81 : decode cL_isPath 81 = .ok (.iconst 1, 1) := by decide +kernel
theorem dL_isPath_82 : decode cL_isPath 82 = .ok (.isub, 1) := by decide +kernel
theorem dL_isPath_83 : decode cL_isPath 83 = .ok (.iaload, 1) := by decide +kernel
theorem dL_isPath_84 : decode cL_isPath 84 = .ok (.iaload, 1) := by decide +kernel
theorem dL_isPath_85 : decode cL_isPath 85 = .ok (.ifCond .lt 5, 3) := by decide +kernel
theorem dL_isPath_88 : decode cL_isPath 88 = .ok (.iconst 0, 1) := by decide +kernel
theorem dL_isPath_89 : decode cL_isPath 89 = .ok (.ireturn, 1) := by decide +kernel
theorem dL_isPath_90 : decode cL_isPath 90 = .ok (.iconst 1, 1) := by decide +kernel
theorem dL_isPath_91 : decode cL_isPath 91 = .ok (.istore 11, 2) := by decide +kernel
theorem dL_isPath_93 : decode cL_isPath 93 = .ok (.iload 11, 2) := by decide +kernel
theorem dL_isPath_95 : decode cL_isPath 95 = .ok (.iload_n 1, 1) := by decide +kernel
theorem dL_isPath_96 : decode cL_isPath 96 = .ok (.if_icmp .ge 54, 3) := by decide +kernel
theorem dL_isPath_99 : decode cL_isPath 99 = .ok (.aload 4, 2) := by decide +kernel
theorem dL_isPath_101 : decode cL_isPath 101 = .ok (.aload 8, 2) := by decide +kernel
theorem dL_isPath_103 : decode cL_isPath 103 = .ok (.iload 11, 2) := by decide +kernel
theorem dL_isPath_105 : decode cL_isPath 105 = .ok (.iconst 1, 1) := by decide +kernel
theorem dL_isPath_106 : decode cL_isPath 106 = .ok (.isub, 1) := by decide +kernel
theorem dL_isPath_107 : decode cL_isPath 107 = .ok (.iaload, 1) := by decide +kernel
theorem dL_isPath_108 : decode cL_isPath 108 = .ok (.iaload, 1) := by decide +kernel
theorem dL_isPath_109 : decode cL_isPath 109 = .ok (.istore 12, 2) := by decide +kernel
theorem dL_isPath_111 : decode cL_isPath 111 = .ok (.iload 12, 2) := by decide +kernel
theorem dL_isPath_113 : decode cL_isPath 113 = .ok (.ifCond .lt 29, 3) := by decide +kernel
theorem dL_isPath_116 : decode cL_isPath 116 = .ok (.aload 5, 2) := by decide +kernel
theorem dL_isPath_118 : decode cL_isPath 118 = .ok (.iload 12, 2) := by decide +kernel
theorem dL_isPath_120 : decode cL_isPath 120 = .ok (.iaload, 1) := by decide +kernel
theorem dL_isPath_121 : decode cL_isPath 121 = .ok (.iload 6, 2) := by decide +kernel
theorem dL_isPath_123 : decode cL_isPath 123 = .ok (.if_icmp .ge 19, 3) := by decide +kernel
theorem dL_isPath_126 : decode cL_isPath 126 = .ok (.aload 7, 2) := by decide +kernel
theorem dL_isPath_128 : decode cL_isPath 128 = .ok (.iload 12, 2) := by decide +kernel
theorem dL_isPath_130 : decode cL_isPath 130 = .ok (.iaload, 1) := by decide +kernel
theorem dL_isPath_131 : decode cL_isPath 131 = .ok (.aload 8, 2) := by decide +kernel
theorem dL_isPath_133 : decode cL_isPath 133 = .ok (.iload 11, 2) := by decide +kernel
theorem dL_isPath_135 : decode cL_isPath 135 = .ok (.iaload, 1) := by decide +kernel
theorem dL_isPath_136 : decode cL_isPath 136 = .ok (.ishr, 1) := by decide +kernel
theorem dL_isPath_137 : decode cL_isPath 137 = .ok (.iconst 1, 1) := by decide +kernel
theorem dL_isPath_138 : decode cL_isPath 138 = .ok (.iand, 1) := by decide +kernel
theorem dL_isPath_139 : decode cL_isPath 139 = .ok (.ifCond .ne 5, 3) := by decide +kernel
theorem dL_isPath_142 : decode cL_isPath 142 = .ok (.iconst 0, 1) := by decide +kernel
theorem dL_isPath_143 : decode cL_isPath 143 = .ok (.ireturn, 1) := by decide +kernel
theorem dL_isPath_144 : decode cL_isPath 144 = .ok (.iinc 11 1, 3) := by decide +kernel
theorem dL_isPath_147 : decode cL_isPath 147 = .ok (.goto (-54), 3) := by decide +kernel
theorem dL_isPath_150 : decode cL_isPath 150 = .ok (.iconst 1, 1) := by decide +kernel
theorem dL_isPath_151 : decode cL_isPath 151 = .ok (.ireturn, 1) := by decide +kernel
theorem dL_bestPath_0 : decode cL_bestPath 0 = .ok (.iconst 1, 1) := by decide +kernel
theorem dL_bestPath_1 : decode cL_bestPath 1 = .ok (.istore 7, 2) := by decide +kernel
theorem dL_bestPath_3 : decode cL_bestPath 3 = .ok (.iconst 1, 1) := by decide +kernel
theorem dL_bestPath_4 : decode cL_bestPath 4 = .ok (.istore 8, 2) := by decide +kernel
theorem dL_bestPath_6 : decode cL_bestPath 6 = .ok (.iload 8, 2) := by decide +kernel
theorem dL_bestPath_8 : decode cL_bestPath 8 = .ok (.iload_n 0, 1) := by decide +kernel
theorem dL_bestPath_9 : decode cL_bestPath 9 = .ok (.if_icmp .gt 54, 3) := by decide +kernel
theorem dL_bestPath_12 : decode cL_bestPath 12 = .ok (.iload 7, 2) := by decide +kernel
theorem dL_bestPath_14 : decode cL_bestPath 14 = .ok (.iload_n 0, 1) := by decide +kernel
theorem dL_bestPath_15 : decode cL_bestPath 15 = .ok (.imul, 1) := by decide +kernel
theorem dL_bestPath_16 : decode cL_bestPath 16 = .ok (.istore 7, 2) := by decide +kernel
theorem dL_bestPath_18 : decode cL_bestPath 18 = .ok (.iconst 0, 1) := by decide +kernel
theorem dL_bestPath_19 : decode cL_bestPath 19 = .ok (.istore 9, 2) := by decide +kernel
theorem dL_bestPath_21 : decode cL_bestPath 21 = .ok (.iload 9, 2) := by decide +kernel
theorem dL_bestPath_23 : decode cL_bestPath 23 = .ok (.iload 7, 2) := by decide +kernel
theorem dL_bestPath_25 : decode cL_bestPath 25 = .ok (.if_icmp .ge 32, 3) := by decide +kernel
theorem dL_bestPath_28 : decode cL_bestPath 28 = .ok (.iload 9, 2) := by decide +kernel
theorem dL_bestPath_30 : decode cL_bestPath 30 = .ok (.iload 8, 2) := by decide +kernel
theorem dL_bestPath_32 : decode cL_bestPath 32 = .ok (.iload_n 0, 1) := by decide +kernel
theorem dL_bestPath_33 : decode cL_bestPath 33 = .ok (.iload_n 1, 1) := by decide +kernel
theorem dL_bestPath_34 : decode cL_bestPath 34 = .ok (.aload_n 2, 1) := by decide +kernel
theorem dL_bestPath_35 : decode cL_bestPath 35 = .ok (.aload_n 3, 1) := by decide +kernel
theorem dL_bestPath_36 : decode cL_bestPath 36 = .ok (.iload 4, 2) := by decide +kernel
theorem dL_bestPath_38 : decode cL_bestPath 38 = .ok (.aload 5, 2) := by decide +kernel
theorem dL_bestPath_40 : decode cL_bestPath 40 = .ok (.aload 6, 2) := by decide +kernel
theorem dL_bestPath_42 : decode cL_bestPath 42 = .ok (.invokestatic 9, 3) := by decide +kernel
theorem dL_bestPath_45 : decode cL_bestPath 45 = .ok (.ifCond .eq 6, 3) := by decide +kernel
theorem dL_bestPath_48 : decode cL_bestPath 48 = .ok (.iload 8, 2) := by decide +kernel
theorem dL_bestPath_50 : decode cL_bestPath 50 = .ok (.ireturn, 1) := by decide +kernel
theorem dL_bestPath_51 : decode cL_bestPath 51 = .ok (.iinc 9 1, 3) := by decide +kernel
theorem dL_bestPath_54 : decode cL_bestPath 54 = .ok (.goto (-33), 3) := by decide +kernel
theorem dL_bestPath_57 : decode cL_bestPath 57 = .ok (.iinc 8 1, 3) := by decide +kernel
theorem dL_bestPath_60 : decode cL_bestPath 60 = .ok (.goto (-54), 3) := by decide +kernel
theorem dL_bestPath_63 : decode cL_bestPath 63 = .ok (.iconst 0, 1) := by decide +kernel
theorem dL_bestPath_64 : decode cL_bestPath 64 = .ok (.ireturn, 1) := by decide +kernel
theorem dL_place_0 : decode cL_place 0 = .ok (.iload 7, 2) := by decide +kernel
theorem dL_place_2 : decode cL_place 2 = .ok (.istore 8, 2) := by decide +kernel
theorem dL_place_4 : decode cL_place 4 = .ok (.iload_n 1, 1) := by decide +kernel
theorem dL_place_5 : decode cL_place 5 = .ok (.newarray .int, 2) := by decide +kernel
theorem dL_place_7 : decode cL_place 7 = .ok (.astore 9, 2) := by decide +kernel
theorem dL_place_9 : decode cL_place 9 = .ok (.iconst 1, 1) := by decide +kernel
theorem dL_place_10 : decode cL_place 10 = .ok (.istore 10, 2) := by decide +kernel
theorem dL_place_12 : decode cL_place 12 = .ok (.iload 10, 2) := by decide +kernel
theorem dL_place_14 : decode cL_place 14 = .ok (.iload_n 1, 1) := by decide +kernel
theorem dL_place_15 : decode cL_place 15 = .ok (.if_icmp .ge 22, 3) := by decide +kernel
theorem dL_place_18 : decode cL_place 18 = .ok (.aload 9, 2) := by decide +kernel
theorem dL_place_20 : decode cL_place 20 = .ok (.iload 10, 2) := by decide +kernel
theorem dL_place_22 : decode cL_place 22 = .ok (.aload_n 3, 1) := by decide +kernel
theorem dL_place_23 : decode cL_place 23 = .ok (.aload_n 2, 1) := by decide +kernel
theorem dL_place_24 : decode cL_place 24 = .ok (.iload 10, 2) := by decide +kernel
theorem dL_place_26 : decode cL_place 26 = .ok (.iconst 1, 1) := by decide +kernel
theorem dL_place_27 : decode cL_place 27 = .ok (.isub, 1) := by decide +kernel
theorem dL_place_28 : decode cL_place 28 = .ok (.iaload, 1) := by decide +kernel
theorem dL_place_29 : decode cL_place 29 = .ok (.iaload, 1) := by decide +kernel
theorem dL_place_30 : decode cL_place 30 = .ok (.iastore, 1) := by decide +kernel
theorem dL_place_31 : decode cL_place 31 = .ok (.iinc 10 1, 3) := by decide +kernel
theorem dL_place_34 : decode cL_place 34 = .ok (.goto (-22), 3) := by decide +kernel
theorem dL_place_37 : decode cL_place 37 = .ok (.iconst 1, 1) := by decide +kernel
theorem dL_place_38 : decode cL_place 38 = .ok (.istore 10, 2) := by decide +kernel
theorem dL_place_40 : decode cL_place 40 = .ok (.iload 10, 2) := by decide +kernel
theorem dL_place_42 : decode cL_place 42 = .ok (.iload_n 1, 1) := by decide +kernel
theorem dL_place_43 : decode cL_place 43 = .ok (.if_icmp .ge 68, 3) := by decide +kernel
theorem dL_place_46 : decode cL_place 46 = .ok (.aload_n 3, 1) := by decide +kernel
theorem dL_place_47 : decode cL_place 47 = .ok (.aload_n 2, 1) := by decide +kernel
theorem dL_place_48 : decode cL_place 48 = .ok (.iload 10, 2) := by decide +kernel
theorem dL_place_50 : decode cL_place 50 = .ok (.iaload, 1) := by decide +kernel
theorem dL_place_51 : decode cL_place 51 = .ok (.aload 9, 2) := by decide +kernel
theorem dL_place_53 : decode cL_place 53 = .ok (.iload 10, 2) := by decide +kernel
theorem dL_place_55 : decode cL_place 55 = .ok (.iaload, 1) := by decide +kernel
theorem dL_place_56 : decode cL_place 56 = .ok (.iastore, 1) := by decide +kernel
theorem dL_place_57 : decode cL_place 57 = .ok (.aload 4, 2) := by decide +kernel
theorem dL_place_59 : decode cL_place 59 = .ok (.aload 9, 2) := by decide +kernel
theorem dL_place_61 : decode cL_place 61 = .ok (.iload 10, 2) := by decide +kernel
theorem dL_place_63 : decode cL_place 63 = .ok (.iaload, 1) := by decide +kernel
theorem dL_place_64 : decode cL_place 64 = .ok (.aload_n 2, 1) := by decide +kernel
theorem dL_place_65 : decode cL_place 65 = .ok (.iload 10, 2) := by decide +kernel
theorem dL_place_67 : decode cL_place 67 = .ok (.iaload, 1) := by decide +kernel
theorem dL_place_68 : decode cL_place 68 = .ok (.iastore, 1) := by decide +kernel
theorem dL_place_69 : decode cL_place 69 = .ok (.aload 5, 2) := by decide +kernel
theorem dL_place_71 : decode cL_place 71 = .ok (.aload 9, 2) := by decide +kernel
theorem dL_place_73 : decode cL_place 73 = .ok (.iload 10, 2) := by decide +kernel
theorem dL_place_75 : decode cL_place 75 = .ok (.iaload, 1) := by decide +kernel
theorem dL_place_76 : decode cL_place 76 = .ok (.dup2, 1) := by decide +kernel
theorem dL_place_77 : decode cL_place 77 = .ok (.iaload, 1) := by decide +kernel
theorem dL_place_78 : decode cL_place 78 = .ok (.iconst 1, 1) := by decide +kernel
theorem dL_place_79 : decode cL_place 79 = .ok (.iadd, 1) := by decide +kernel
theorem dL_place_80 : decode cL_place 80 = .ok (.iastore, 1) := by decide +kernel
theorem dL_place_81 : decode cL_place 81 = .ok (.aload 6, 2) := by decide +kernel
theorem dL_place_83 : decode cL_place 83 = .ok (.iload 8, 2) := by decide +kernel
theorem dL_place_85 : decode cL_place 85 = .ok (.aload 9, 2) := by decide +kernel
theorem dL_place_87 : decode cL_place 87 = .ok (.iload 10, 2) := by decide +kernel
theorem dL_place_89 : decode cL_place 89 = .ok (.iaload, 1) := by decide +kernel
theorem dL_place_90 : decode cL_place 90 = .ok (.iastore, 1) := by decide +kernel
theorem dL_place_91 : decode cL_place 91 = .ok (.aload 6, 2) := by decide +kernel
theorem dL_place_93 : decode cL_place 93 = .ok (.iload 8, 2) := by decide +kernel
theorem dL_place_95 : decode cL_place 95 = .ok (.iconst 1, 1) := by decide +kernel
theorem dL_place_96 : decode cL_place 96 = .ok (.iadd, 1) := by decide +kernel
theorem dL_place_97 : decode cL_place 97 = .ok (.aload_n 2, 1) := by decide +kernel
theorem dL_place_98 : decode cL_place 98 = .ok (.iload 10, 2) := by decide +kernel
theorem dL_place_100 : decode cL_place 100 = .ok (.iaload, 1) := by decide +kernel
theorem dL_place_101 : decode cL_place 101 = .ok (.iastore, 1) := by decide +kernel
theorem dL_place_102 : decode cL_place 102 = .ok (.iinc 8 2, 3) := by decide +kernel
theorem dL_place_105 : decode cL_place 105 = .ok (.iinc 10 1, 3) := by decide +kernel
theorem dL_place_108 : decode cL_place 108 = .ok (.goto (-68), 3) := by decide +kernel
theorem dL_place_111 : decode cL_place 111 = .ok (.aload_n 3, 1) := by decide +kernel
theorem dL_place_112 : decode cL_place 112 = .ok (.aload_n 2, 1) := by decide +kernel
theorem dL_place_113 : decode cL_place 113 = .ok (.iconst 0, 1) := by decide +kernel
theorem dL_place_114 : decode cL_place 114 = .ok (.iaload, 1) := by decide +kernel
theorem dL_place_115 : decode cL_place 115 = .ok (.iload_n 0, 1) := by decide +kernel
theorem dL_place_116 : decode cL_place 116 = .ok (.iastore, 1) := by decide +kernel
theorem dL_place_117 : decode cL_place 117 = .ok (.aload 4, 2) := by decide +kernel
theorem dL_place_119 : decode cL_place 119 = .ok (.iload_n 0, 1) := by decide +kernel
theorem dL_place_120 : decode cL_place 120 = .ok (.aload_n 2, 1) := by decide +kernel
theorem dL_place_121 : decode cL_place 121 = .ok (.iconst 0, 1) := by decide +kernel
theorem dL_place_122 : decode cL_place 122 = .ok (.iaload, 1) := by decide +kernel
theorem dL_place_123 : decode cL_place 123 = .ok (.iastore, 1) := by decide +kernel
theorem dL_place_124 : decode cL_place 124 = .ok (.iload 8, 2) := by decide +kernel
theorem dL_place_126 : decode cL_place 126 = .ok (.ireturn, 1) := by decide +kernel
theorem dL_isSame_0 : decode cL_isSame 0 = .ok (.aload_n 0, 1) := by decide +kernel
theorem dL_isSame_1 : decode cL_isSame 1 = .ok (.invokevirtual 15, 3) := by decide +kernel
theorem dL_isSame_4 : decode cL_isSame 4 = .ok (.iload_n 1, 1) := by decide +kernel
theorem dL_isSame_5 : decode cL_isSame 5 = .ok (.if_icmp .ne 14, 3) := by decide +kernel
theorem dL_isSame_8 : decode cL_isSame 8 = .ok (.aload_n 0, 1) := by decide +kernel
theorem dL_isSame_9 : decode cL_isSame 9 = .ok (.invokevirtual 21, 3) := by decide +kernel
theorem dL_isSame_12 : decode cL_isSame 12 = .ok (.iload 5, 2) := by decide +kernel
theorem dL_isSame_14 : decode cL_isSame 14 = .ok (.iconst 2, 1) := by decide +kernel
theorem dL_isSame_15 : decode cL_isSame 15 = .ok (.idiv, 1) := by decide +kernel
theorem dL_isSame_16 : decode cL_isSame 16 = .ok (.if_icmp .eq 5, 3) := by decide +kernel
theorem dL_isSame_19 : decode cL_isSame 19 = .ok (.iconst 0, 1) := by decide +kernel
theorem dL_isSame_20 : decode cL_isSame 20 = .ok (.ireturn, 1) := by decide +kernel
theorem dL_isSame_21 : decode cL_isSame 21 = .ok (.iconst 0, 1) := by decide +kernel
theorem dL_isSame_22 : decode cL_isSame 22 = .ok (.istore 6, 2) := by decide +kernel
theorem dL_isSame_24 : decode cL_isSame 24 = .ok (.iload 6, 2) := by decide +kernel
theorem dL_isSame_26 : decode cL_isSame 26 = .ok (.iload_n 1, 1) := by decide +kernel
theorem dL_isSame_27 : decode cL_isSame 27 = .ok (.if_icmp .ge 77, 3) := by decide +kernel
end
section
theorem dL_isSame_30 : decode cL_isSame 30 = .ok (.aload_n 0, 1) := by decide +kernel
theorem dL_isSame_31 : decode cL_isSame 31 = .ok (.iload 6, 2) := by decide +kernel
theorem dL_isSame_33 : decode cL_isSame 33 = .ok (.invokevirtual 24, 3) := by decide +kernel
theorem dL_isSame_36 : decode cL_isSame 36 = .ok (.aload_n 2, 1) := by decide +kernel
theorem dL_isSame_37 : decode cL_isSame 37 = .ok (.iload 6, 2) := by decide +kernel
theorem dL_isSame_39 : decode cL_isSame 39 = .ok (.iaload, 1) := by decide +kernel
theorem dL_isSame_40 : decode cL_isSame 40 = .ok (.ifCond .lt 7, 3) := by decide +kernel
theorem dL_isSame_43 : decode cL_isSame 43 = .ok (.iconst 1, 1) := by decide +kernel
theorem dL_isSame_44 : decode cL_isSame 44 = .ok (.goto 16, 3) := by decide +kernel
theorem dL_isSame_47 : decode cL_isSame 47 = .ok (.aload_n 2, 1) := by decide +kernel
theorem dL_isSame_48 : decode cL_isSame 48 = .ok (.iload 6, 2) := by decide +kernel
theorem dL_isSame_50 : decode cL_isSame 50 = .ok (.iaload, 1) := by decide +kernel
theorem dL_isSame_51 : decode cL_isSame 51 = .ok (.iconst (-1), 1) := by decide +kernel
theorem dL_isSame_52 : decode cL_isSame 52 = .ok (.if_icmp .ne 7, 3) := by decide +kernel
theorem dL_isSame_55 : decode cL_isSame 55 = .ok (.iconst 0, 1) := by decide +kernel
theorem dL_isSame_56 : decode cL_isSame 56 = .ok (.goto 4, 3) := by decide +kernel
theorem dL_isSame_59 : decode cL_isSame 59 = .ok (.iconst 2, 1) := by decide +kernel
theorem dL_isSame_60 : decode cL_isSame 60 = .ok (.if_icmp .ne 36, 3) := by decide +kernel
theorem dL_isSame_63 : decode cL_isSame 63 = .ok (.aload_n 2, 1) := by decide +kernel
theorem dL_isSame_64 : decode cL_isSame 64 = .ok (.iload 6, 2) := by decide +kernel
theorem dL_isSame_66 : decode cL_isSame 66 = .ok (.iaload, 1) := by decide +kernel
theorem dL_isSame_67 : decode cL_isSame 67 = .ok (.ifCond .lt 16, 3) := by decide +kernel
theorem dL_isSame_70 : decode cL_isSame 70 = .ok (.aload_n 0, 1) := by decide +kernel
theorem dL_isSame_71 : decode cL_isSame 71 = .ok (.iload 6, 2) := by decide +kernel
theorem dL_isSame_73 : decode cL_isSame 73 = .ok (.invokevirtual 28, 3) := by decide +kernel
theorem dL_isSame_76 : decode cL_isSame 76 = .ok (.aload_n 2, 1) := by decide +kernel
theorem dL_isSame_77 : decode cL_isSame 77 = .ok (.iload 6, 2) := by decide +kernel
theorem dL_isSame_79 : decode cL_isSame 79 = .ok (.iaload, 1) := by decide +kernel
theorem dL_isSame_80 : decode cL_isSame 80 = .ok (.if_icmp .ne 16, 3) := by decide +kernel
theorem dL_isSame_83 : decode cL_isSame 83 = .ok (.aload_n 0, 1) := by decide +kernel
theorem dL_isSame_84 : decode cL_isSame 84 = .ok (.iload 6, 2) := by decide +kernel
theorem dL_isSame_86 : decode cL_isSame 86 = .ok (.invokevirtual 31, 3) := by decide +kernel
theorem dL_isSame_89 : decode cL_isSame 89 = .ok (.aload_n 3, 1) := by decide +kernel
theorem dL_isSame_90 : decode cL_isSame 90 = .ok (.iload 6, 2) := by decide +kernel
theorem dL_isSame_92 : decode cL_isSame 92 = .ok (.iaload, 1) := by decide +kernel
theorem dL_isSame_93 : decode cL_isSame 93 = .ok (.if_icmp .eq 5, 3) := by decide +kernel
theorem dL_isSame_96 : decode cL_isSame 96 = .ok (.iconst 0, 1) := by decide +kernel
theorem dL_isSame_97 : decode cL_isSame 97 = .ok (.ireturn, 1) := by decide +kernel
theorem dL_isSame_98 : decode cL_isSame 98 = .ok (.iinc 6 1, 3) := by decide +kernel
theorem dL_isSame_101 : decode cL_isSame 101 = .ok (.goto (-77), 3) := by decide +kernel
theorem dL_isSame_104 : decode cL_isSame 104 = .ok (.iconst 0, 1) := by decide +kernel
theorem dL_isSame_105 : decode cL_isSame 105 = .ok (.istore 6, 2) := by decide +kernel
theorem dL_isSame_107 : decode cL_isSame 107 = .ok (.iload 6, 2) := by decide +kernel
theorem dL_isSame_109 : decode cL_isSame 109 = .ok (.iload 5, 2) := by decide +kernel
theorem dL_isSame_111 : decode cL_isSame 111 = .ok (.iconst 2, 1) := by decide +kernel
theorem dL_isSame_112 : decode cL_isSame 112 = .ok (.idiv, 1) := by decide +kernel
theorem dL_isSame_113 : decode cL_isSame 113 = .ok (.if_icmp .ge 45, 3) := by decide +kernel
theorem dL_isSame_116 : decode cL_isSame 116 = .ok (.aload_n 0, 1) := by decide +kernel
theorem dL_isSame_117 : decode cL_isSame 117 = .ok (.iload 6, 2) := by decide +kernel
theorem dL_isSame_119 : decode cL_isSame 119 = .ok (.invokevirtual 34, 3) := by decide +kernel
theorem dL_isSame_122 : decode cL_isSame 122 = .ok (.aload 4, 2) := by decide +kernel
theorem dL_isSame_124 : decode cL_isSame 124 = .ok (.iconst 2, 1) := by decide +kernel
theorem dL_isSame_125 : decode cL_isSame 125 = .ok (.iload 6, 2) := by decide +kernel
theorem dL_isSame_127 : decode cL_isSame 127 = .ok (.imul, 1) := by decide +kernel
theorem dL_isSame_128 : decode cL_isSame 128 = .ok (.iaload, 1) := by decide +kernel
theorem dL_isSame_129 : decode cL_isSame 129 = .ok (.if_icmp .ne 21, 3) := by decide +kernel
theorem dL_isSame_132 : decode cL_isSame 132 = .ok (.aload_n 0, 1) := by decide +kernel
theorem dL_isSame_133 : decode cL_isSame 133 = .ok (.iload 6, 2) := by decide +kernel
theorem dL_isSame_135 : decode cL_isSame 135 = .ok (.invokevirtual 37, 3) := by decide +kernel
theorem dL_isSame_138 : decode cL_isSame 138 = .ok (.aload 4, 2) := by decide +kernel
theorem dL_isSame_140 : decode cL_isSame 140 = .ok (.iconst 2, 1) := by decide +kernel
theorem dL_isSame_141 : decode cL_isSame 141 = .ok (.iload 6, 2) := by decide +kernel
theorem dL_isSame_143 : decode cL_isSame 143 = .ok (.imul, 1) := by decide +kernel
theorem dL_isSame_144 : decode cL_isSame 144 = .ok (.iconst 1, 1) := by decide +kernel
theorem dL_isSame_145 : decode cL_isSame 145 = .ok (.iadd, 1) := by decide +kernel
theorem dL_isSame_146 : decode cL_isSame 146 = .ok (.iaload, 1) := by decide +kernel
theorem dL_isSame_147 : decode cL_isSame 147 = .ok (.if_icmp .eq 5, 3) := by decide +kernel
theorem dL_isSame_150 : decode cL_isSame 150 = .ok (.iconst 0, 1) := by decide +kernel
theorem dL_isSame_151 : decode cL_isSame 151 = .ok (.ireturn, 1) := by decide +kernel
theorem dL_isSame_152 : decode cL_isSame 152 = .ok (.iinc 6 1, 3) := by decide +kernel
theorem dL_isSame_155 : decode cL_isSame 155 = .ok (.goto (-48), 3) := by decide +kernel
theorem dL_isSame_158 : decode cL_isSame 158 = .ok (.iconst 1, 1) := by decide +kernel
theorem dL_isSame_159 : decode cL_isSame 159 = .ok (.ireturn, 1) := by decide +kernel
theorem dL_law_0 : decode cL_law 0 = .ok (.new 16, 3) := by decide +kernel
theorem dL_law_3 : decode cL_law 3 = .ok (.dup, 1) := by decide +kernel
theorem dL_law_4 : decode cL_law 4 = .ok (.invokespecial 40, 3) := by decide +kernel
theorem dL_law_7 : decode cL_law 7 = .ok (.astore_n 1, 1) := by decide +kernel
theorem dL_law_8 : decode cL_law 8 = .ok (.iconst 4, 1) := by decide +kernel
theorem dL_law_9 : decode cL_law 9 = .ok (.istore_n 2, 1) := by decide +kernel
theorem dL_law_10 : decode cL_law 10 = .ok (.aload_n 0, 1) := by decide +kernel
theorem dL_law_11 : decode cL_law 11 = .ok (.iconst 0, 1) := by decide +kernel
theorem dL_law_12 : decode cL_law 12 = .ok (.invokestatic 41, 3) := by decide +kernel
theorem dL_law_15 : decode cL_law 15 = .ok (.iconst 4, 1) := by decide +kernel
theorem dL_law_16 : decode cL_law 16 = .ok (.invokestatic 45, 3) := by decide +kernel
theorem dL_law_19 : decode cL_law 19 = .ok (.istore_n 3, 1) := by decide +kernel
theorem dL_law_20 : decode cL_law 20 = .ok (.iconst 1, 1) := by decide +kernel
theorem dL_law_21 : decode cL_law 21 = .ok (.aload_n 0, 1) := by decide +kernel
theorem dL_law_22 : decode cL_law 22 = .ok (.iconst 1, 1) := by decide +kernel
theorem dL_law_23 : decode cL_law 23 = .ok (.invokestatic 41, 3) := by decide +kernel
theorem dL_law_26 : decode cL_law 26 = .ok (.iconst 3, 1) := by decide +kernel
theorem dL_law_27 : decode cL_law 27 = .ok (.invokestatic 45, 3) := by decide +kernel
theorem dL_law_30 : decode cL_law 30 = .ok (.iadd, 1) := by decide +kernel
theorem dL_law_31 : decode cL_law 31 = .ok (.istore 4, 2) := by decide +kernel
theorem dL_law_33 : decode cL_law 33 = .ok (.aload_n 1, 1) := by decide +kernel
theorem dL_law_34 : decode cL_law 34 = .ok (.iload_n 3, 1) := by decide +kernel
theorem dL_law_35 : decode cL_law 35 = .ok (.iload 4, 2) := by decide +kernel
theorem dL_law_37 : decode cL_law 37 = .ok (.invokevirtual 49, 3) := by decide +kernel
theorem dL_law_40 : decode cL_law 40 = .ok (.ifCond .eq 5, 3) := by decide +kernel
theorem dL_law_43 : decode cL_law 43 = .ok (.iconst 0, 1) := by decide +kernel
theorem dL_law_44 : decode cL_law 44 = .ok (.ireturn, 1) := by decide +kernel
theorem dL_law_45 : decode cL_law 45 = .ok (.iload_n 2, 1) := by decide +kernel
theorem dL_law_46 : decode cL_law 46 = .ok (.newarray .int, 2) := by decide +kernel
theorem dL_law_48 : decode cL_law 48 = .ok (.astore 5, 2) := by decide +kernel
theorem dL_law_50 : decode cL_law 50 = .ok (.iconst 4, 1) := by decide +kernel
theorem dL_law_51 : decode cL_law 51 = .ok (.newarray .int, 2) := by decide +kernel
theorem dL_law_53 : decode cL_law 53 = .ok (.astore 6, 2) := by decide +kernel
theorem dL_law_55 : decode cL_law 55 = .ok (.iconst 4, 1) := by decide +kernel
theorem dL_law_56 : decode cL_law 56 = .ok (.newarray .int, 2) := by decide +kernel
theorem dL_law_58 : decode cL_law 58 = .ok (.astore 7, 2) := by decide +kernel
theorem dL_law_60 : decode cL_law 60 = .ok (.iconst 0, 1) := by decide +kernel
theorem dL_law_61 : decode cL_law 61 = .ok (.istore 8, 2) := by decide +kernel
theorem dL_law_63 : decode cL_law 63 = .ok (.iload 8, 2) := by decide +kernel
theorem dL_law_65 : decode cL_law 65 = .ok (.iconst 4, 1) := by decide +kernel
theorem dL_law_66 : decode cL_law 66 = .ok (.if_icmp .ge 63, 3) := by decide +kernel
theorem dL_law_69 : decode cL_law 69 = .ok (.aload 6, 2) := by decide +kernel
theorem dL_law_71 : decode cL_law 71 = .ok (.iload 8, 2) := by decide +kernel
theorem dL_law_73 : decode cL_law 73 = .ok (.iconst 1, 1) := by decide +kernel
theorem dL_law_74 : decode cL_law 74 = .ok (.aload_n 0, 1) := by decide +kernel
theorem dL_law_75 : decode cL_law 75 = .ok (.iconst 2, 1) := by decide +kernel
theorem dL_law_76 : decode cL_law 76 = .ok (.iload 8, 2) := by decide +kernel
theorem dL_law_78 : decode cL_law 78 = .ok (.iadd, 1) := by decide +kernel
theorem dL_law_79 : decode cL_law 79 = .ok (.invokestatic 41, 3) := by decide +kernel
theorem dL_law_82 : decode cL_law 82 = .ok (.bipush 10, 2) := by decide +kernel
theorem dL_law_84 : decode cL_law 84 = .ok (.invokestatic 45, 3) := by decide +kernel
theorem dL_law_87 : decode cL_law 87 = .ok (.iadd, 1) := by decide +kernel
theorem dL_law_88 : decode cL_law 88 = .ok (.iastore, 1) := by decide +kernel
theorem dL_law_89 : decode cL_law 89 = .ok (.aload_n 1, 1) := by decide +kernel
theorem dL_law_90 : decode cL_law 90 = .ok (.iconst 1, 1) := by decide +kernel
theorem dL_law_91 : decode cL_law 91 = .ok (.invokevirtual 52, 3) := by decide +kernel
theorem dL_law_94 : decode cL_law 94 = .ok (.iload 8, 2) := by decide +kernel
theorem dL_law_96 : decode cL_law 96 = .ok (.if_icmp .ne 19, 3) := by decide +kernel
theorem dL_law_99 : decode cL_law 99 = .ok (.aload_n 1, 1) := by decide +kernel
theorem dL_law_100 : decode cL_law 100 = .ok (.iload 8, 2) := by decide +kernel
theorem dL_law_102 : decode cL_law 102 = .ok (.bipush 40, 2) := by decide +kernel
theorem dL_law_104 : decode cL_law 104 = .ok (.aload 6, 2) := by decide +kernel
theorem dL_law_106 : decode cL_law 106 = .ok (.iload 8, 2) := by decide +kernel
theorem dL_law_108 : decode cL_law 108 = .ok (.iaload, 1) := by decide +kernel
theorem dL_law_109 : decode cL_law 109 = .ok (.invokevirtual 55, 3) := by decide +kernel
theorem dL_law_112 : decode cL_law 112 = .ok (.ifCond .eq 5, 3) := by decide +kernel
theorem dL_law_115 : decode cL_law 115 = .ok (.iconst 0, 1) := by decide +kernel
theorem dL_law_116 : decode cL_law 116 = .ok (.ireturn, 1) := by decide +kernel
theorem dL_law_117 : decode cL_law 117 = .ok (.aload 5, 2) := by decide +kernel
theorem dL_law_119 : decode cL_law 119 = .ok (.iload 8, 2) := by decide +kernel
theorem dL_law_121 : decode cL_law 121 = .ok (.iconst (-1), 1) := by decide +kernel
theorem dL_law_122 : decode cL_law 122 = .ok (.iastore, 1) := by decide +kernel
theorem dL_law_123 : decode cL_law 123 = .ok (.iinc 8 1, 3) := by decide +kernel
theorem dL_law_126 : decode cL_law 126 = .ok (.goto (-63), 3) := by decide +kernel
theorem dL_law_129 : decode cL_law 129 = .ok (.bipush 16, 2) := by decide +kernel
theorem dL_law_131 : decode cL_law 131 = .ok (.newarray .int, 2) := by decide +kernel
theorem dL_law_133 : decode cL_law 133 = .ok (.astore 8, 2) := by decide +kernel
theorem dL_law_135 : decode cL_law 135 = .ok (.bipush 16, 2) := by decide +kernel
theorem dL_law_137 : decode cL_law 137 = .ok (.newarray .int, 2) := by decide +kernel
theorem dL_law_139 : decode cL_law 139 = .ok (.astore 9, 2) := by decide +kernel
theorem dL_law_141 : decode cL_law 141 = .ok (.bipush 16, 2) := by decide +kernel
theorem dL_law_143 : decode cL_law 143 = .ok (.newarray .int, 2) := by decide +kernel
theorem dL_law_145 : decode cL_law 145 = .ok (.astore 10, 2) := by decide +kernel
theorem dL_law_147 : decode cL_law 147 = .ok (.bipush 16, 2) := by decide +kernel
theorem dL_law_149 : decode cL_law 149 = .ok (.newarray .int, 2) := by decide +kernel
theorem dL_law_151 : decode cL_law 151 = .ok (.astore 11, 2) := by decide +kernel
theorem dL_law_153 : decode cL_law 153 = .ok (.iconst 4, 1) := by decide +kernel
theorem dL_law_154 : decode cL_law 154 = .ok (.newarray .int, 2) := by decide +kernel
theorem dL_law_156 : decode cL_law 156 = .ok (.astore 12, 2) := by decide +kernel
theorem dL_law_158 : decode cL_law 158 = .ok (.sipush 200, 3) := by decide +kernel
theorem dL_law_161 : decode cL_law 161 = .ok (.newarray .int, 2) := by decide +kernel
theorem dL_law_163 : decode cL_law 163 = .ok (.astore 13, 2) := by decide +kernel
theorem dL_law_165 : decode cL_law 165 = .ok (.iconst 0, 1) := by decide +kernel
theorem dL_law_166 : decode cL_law 166 = .ok (.istore 14, 2) := by decide +kernel
theorem dL_law_168 : decode cL_law 168 = .ok (.iconst 0, 1) := by decide +kernel
theorem dL_law_169 : decode cL_law 169 = .ok (.istore 15, 2) := by decide +kernel
theorem dL_law_171 : decode cL_law 171 = .ok (.iload 15, 2) := by decide +kernel
theorem dL_law_173 : decode cL_law 173 = .ok (.bipush 14, 2) := by decide +kernel
theorem dL_law_175 : decode cL_law 175 = .ok (.if_icmp .ge 581, 3) := by decide +kernel
theorem dL_law_178 : decode cL_law 178 = .ok (.aload_n 0, 1) := by decide +kernel
theorem dL_law_179 : decode cL_law 179 = .ok (.bipush 6, 2) := by decide +kernel
theorem dL_law_181 : decode cL_law 181 = .ok (.iload 15, 2) := by decide +kernel
theorem dL_law_183 : decode cL_law 183 = .ok (.iadd, 1) := by decide +kernel
theorem dL_law_184 : decode cL_law 184 = .ok (.invokestatic 41, 3) := by decide +kernel
theorem dL_law_187 : decode cL_law 187 = .ok (.istore 16, 2) := by decide +kernel
theorem dL_law_189 : decode cL_law 189 = .ok (.iload 14, 2) := by decide +kernel
theorem dL_law_191 : decode cL_law 191 = .ok (.ifCond .ne 7, 3) := by decide +kernel
theorem dL_law_194 : decode cL_law 194 = .ok (.iconst 0, 1) := by decide +kernel
theorem dL_law_195 : decode cL_law 195 = .ok (.goto 12, 3) := by decide +kernel
theorem dL_law_198 : decode cL_law 198 = .ok (.iload 16, 2) := by decide +kernel
theorem dL_law_200 : decode cL_law 200 = .ok (.iconst 2, 1) := by decide +kernel
theorem dL_law_201 : decode cL_law 201 = .ok (.ishr, 1) := by decide +kernel
theorem dL_law_202 : decode cL_law 202 = .ok (.iload 14, 2) := by decide +kernel
theorem dL_law_204 : decode cL_law 204 = .ok (.invokestatic 45, 3) := by decide +kernel
theorem dL_law_207 : decode cL_law 207 = .ok (.istore 17, 2) := by decide +kernel
theorem dL_law_209 : decode cL_law 209 = .ok (.iload 16, 2) := by decide +kernel
theorem dL_law_211 : decode cL_law 211 = .ok (.bipush 8, 2) := by decide +kernel
theorem dL_law_213 : decode cL_law 213 = .ok (.ishr, 1) := by decide +kernel
theorem dL_law_214 : decode cL_law 214 = .ok (.bipush 16, 2) := by decide +kernel
theorem dL_law_216 : decode cL_law 216 = .ok (.invokestatic 45, 3) := by decide +kernel
theorem dL_law_219 : decode cL_law 219 = .ok (.istore 18, 2) := by decide +kernel
theorem dL_law_221 : decode cL_law 221 = .ok (.iconst 0, 1) := by decide +kernel
theorem dL_law_222 : decode cL_law 222 = .ok (.istore 19, 2) := by decide +kernel
theorem dL_law_224 : decode cL_law 224 = .ok (.iload 16, 2) := by decide +kernel
theorem dL_law_226 : decode cL_law 226 = .ok (.iconst 3, 1) := by decide +kernel
theorem dL_law_227 : decode cL_law 227 = .ok (.iand, 1) := by decide +kernel
theorem dL_law_228 : decode cL_law 228 = .ok (.iconst 1, 1) := by decide +kernel
theorem dL_law_229 : decode cL_law 229 = .ok (.if_icmp .le 12, 3) := by decide +kernel
theorem dL_law_232 : decode cL_law 232 = .ok (.iload 14, 2) := by decide +kernel
theorem dL_law_234 : decode cL_law 234 = .ok (.ifCond .le 7, 3) := by decide +kernel
theorem dL_law_237 : decode cL_law 237 = .ok (.iconst 1, 1) := by decide +kernel
theorem dL_law_238 : decode cL_law 238 = .ok (.goto 4, 3) := by decide +kernel
theorem dL_law_241 : decode cL_law 241 = .ok (.iconst 0, 1) := by decide +kernel
theorem dL_law_242 : decode cL_law 242 = .ok (.istore 20, 2) := by decide +kernel
theorem dL_law_244 : decode cL_law 244 = .ok (.iload 20, 2) := by decide +kernel
theorem dL_law_246 : decode cL_law 246 = .ok (.ifCond .ne 117, 3) := by decide +kernel
theorem dL_law_249 : decode cL_law 249 = .ok (.aload 8, 2) := by decide +kernel
theorem dL_law_251 : decode cL_law 251 = .ok (.iload 14, 2) := by decide +kernel
theorem dL_law_253 : decode cL_law 253 = .ok (.iload 18, 2) := by decide +kernel
theorem dL_law_255 : decode cL_law 255 = .ok (.iastore, 1) := by decide +kernel
theorem dL_law_256 : decode cL_law 256 = .ok (.aload 9, 2) := by decide +kernel
theorem dL_law_258 : decode cL_law 258 = .ok (.iload 14, 2) := by decide +kernel
theorem dL_law_260 : decode cL_law 260 = .ok (.iload 16, 2) := by decide +kernel
theorem dL_law_262 : decode cL_law 262 = .ok (.bipush 12, 2) := by decide +kernel
theorem dL_law_264 : decode cL_law 264 = .ok (.ishr, 1) := by decide +kernel
theorem dL_law_265 : decode cL_law 265 = .ok (.iconst 4, 1) := by decide +kernel
theorem dL_law_266 : decode cL_law 266 = .ok (.invokestatic 45, 3) := by decide +kernel
theorem dL_law_269 : decode cL_law 269 = .ok (.iastore, 1) := by decide +kernel
theorem dL_law_270 : decode cL_law 270 = .ok (.aload 10, 2) := by decide +kernel
theorem dL_law_272 : decode cL_law 272 = .ok (.iload 14, 2) := by decide +kernel
theorem dL_law_274 : decode cL_law 274 = .ok (.iconst (-1), 1) := by decide +kernel
theorem dL_law_275 : decode cL_law 275 = .ok (.iastore, 1) := by decide +kernel
theorem dL_law_276 : decode cL_law 276 = .ok (.iload_n 2, 1) := by decide +kernel
theorem dL_law_277 : decode cL_law 277 = .ok (.iload 18, 2) := by decide +kernel
theorem dL_law_279 : decode cL_law 279 = .ok (.aload 5, 2) := by decide +kernel
theorem dL_law_281 : decode cL_law 281 = .ok (.aload 11, 2) := by decide +kernel
theorem dL_law_283 : decode cL_law 283 = .ok (.iload 4, 2) := by decide +kernel
theorem dL_law_285 : decode cL_law 285 = .ok (.aload 8, 2) := by decide +kernel
theorem dL_law_287 : decode cL_law 287 = .ok (.aload 12, 2) := by decide +kernel
theorem dL_law_289 : decode cL_law 289 = .ok (.invokestatic 59, 3) := by decide +kernel
theorem dL_law_292 : decode cL_law 292 = .ok (.istore 21, 2) := by decide +kernel
theorem dL_law_294 : decode cL_law 294 = .ok (.iload 21, 2) := by decide +kernel
theorem dL_law_296 : decode cL_law 296 = .ok (.ifCond .le 43, 3) := by decide +kernel
theorem dL_law_299 : decode cL_law 299 = .ok (.iload 21, 2) := by decide +kernel
theorem dL_law_301 : decode cL_law 301 = .ok (.iconst 1, 1) := by decide +kernel
theorem dL_law_302 : decode cL_law 302 = .ok (.isub, 1) := by decide +kernel
theorem dL_law_303 : decode cL_law 303 = .ok (.iload_n 3, 1) := by decide +kernel
theorem dL_law_304 : decode cL_law 304 = .ok (.if_icmp .gt 35, 3) := by decide +kernel
theorem dL_law_307 : decode cL_law 307 = .ok (.iload 14, 2) := by decide +kernel
theorem dL_law_309 : decode cL_law 309 = .ok (.iload 21, 2) := by decide +kernel
theorem dL_law_311 : decode cL_law 311 = .ok (.aload 12, 2) := by decide +kernel
theorem dL_law_313 : decode cL_law 313 = .ok (.aload 5, 2) := by decide +kernel
theorem dL_law_315 : decode cL_law 315 = .ok (.aload 10, 2) := by decide +kernel
theorem dL_law_317 : decode cL_law 317 = .ok (.aload 11, 2) := by decide +kernel
theorem dL_law_319 : decode cL_law 319 = .ok (.aload 13, 2) := by decide +kernel
theorem dL_law_321 : decode cL_law 321 = .ok (.iconst 0, 1) := by decide +kernel
theorem dL_law_322 : decode cL_law 322 = .ok (.invokestatic 63, 3) := by decide +kernel
end
section
theorem dL_law_325 : decode cL_law 325 = .ok (.istore 19, 2) := by decide +kernel
theorem dL_law_327 : decode cL_law 327 = .ok (.aload 7, 2) := by decide +kernel
theorem dL_law_329 : decode cL_law 329 = .ok (.aload 9, 2) := by decide +kernel
theorem dL_law_331 : decode cL_law 331 = .ok (.iload 14, 2) := by decide +kernel
theorem dL_law_333 : decode cL_law 333 = .ok (.iaload, 1) := by decide +kernel
theorem dL_law_334 : decode cL_law 334 = .ok (.dup2, 1) := by decide +kernel
theorem dL_law_335 : decode cL_law 335 = .ok (.iaload, 1) := by decide +kernel
theorem dL_law_336 : decode cL_law 336 = .ok (.iconst 1, 1) := by decide +kernel
theorem dL_law_337 : decode cL_law 337 = .ok (.iadd, 1) := by decide +kernel
theorem dL_law_338 : decode cL_law 338 = .ok (.iastore, 1) := by decide +kernel
theorem dL_law_339 : decode cL_law 339 = .ok (.aload_n 1, 1) := by decide +kernel
theorem dL_law_340 : decode cL_law 340 = .ok (.aload 9, 2) := by decide +kernel
theorem dL_law_342 : decode cL_law 342 = .ok (.iload 14, 2) := by decide +kernel
theorem dL_law_344 : decode cL_law 344 = .ok (.iaload, 1) := by decide +kernel
theorem dL_law_345 : decode cL_law 345 = .ok (.iload 18, 2) := by decide +kernel
theorem dL_law_347 : decode cL_law 347 = .ok (.invokevirtual 67, 3) := by decide +kernel
theorem dL_law_350 : decode cL_law 350 = .ok (.iload 14, 2) := by decide +kernel
theorem dL_law_352 : decode cL_law 352 = .ok (.if_icmp .eq 5, 3) := by decide +kernel
theorem dL_law_355 : decode cL_law 355 = .ok (.iconst 0, 1) := by decide +kernel
theorem dL_law_356 : decode cL_law 356 = .ok (.ireturn, 1) := by decide +kernel
theorem dL_law_357 : decode cL_law 357 = .ok (.iinc 14 1, 3) := by decide +kernel
theorem dL_law_360 : decode cL_law 360 = .ok (.goto 371, 3) := by decide +kernel
theorem dL_law_363 : decode cL_law 363 = .ok (.aload 10, 2) := by decide +kernel
theorem dL_law_365 : decode cL_law 365 = .ok (.iload 17, 2) := by decide +kernel
theorem dL_law_367 : decode cL_law 367 = .ok (.iaload, 1) := by decide +kernel
theorem dL_law_368 : decode cL_law 368 = .ok (.bipush (-2), 2) := by decide +kernel
theorem dL_law_370 : decode cL_law 370 = .ok (.if_icmp .ne 6, 3) := by decide +kernel
theorem dL_law_373 : decode cL_law 373 = .ok (.goto 377, 3) := by decide +kernel
theorem dL_law_376 : decode cL_law 376 = .ok (.iload 16, 2) := by decide +kernel
theorem dL_law_378 : decode cL_law 378 = .ok (.iconst 3, 1) := by decide +kernel
theorem dL_law_379 : decode cL_law 379 = .ok (.iand, 1) := by decide +kernel
theorem dL_law_380 : decode cL_law 380 = .ok (.iconst 2, 1) := by decide +kernel
theorem dL_law_381 : decode cL_law 381 = .ok (.if_icmp .ne 7, 3) := by decide +kernel
theorem dL_law_384 : decode cL_law 384 = .ok (.iconst 1, 1) := by decide +kernel
theorem dL_law_385 : decode cL_law 385 = .ok (.goto 4, 3) := by decide +kernel
theorem dL_law_388 : decode cL_law 388 = .ok (.iconst 0, 1) := by decide +kernel
theorem dL_law_389 : decode cL_law 389 = .ok (.istore 21, 2) := by decide +kernel
theorem dL_law_391 : decode cL_law 391 = .ok (.aload 10, 2) := by decide +kernel
theorem dL_law_393 : decode cL_law 393 = .ok (.iload 17, 2) := by decide +kernel
theorem dL_law_395 : decode cL_law 395 = .ok (.iaload, 1) := by decide +kernel
theorem dL_law_396 : decode cL_law 396 = .ok (.ifCond .lt 48, 3) := by decide +kernel
theorem dL_law_399 : decode cL_law 399 = .ok (.iload 21, 2) := by decide +kernel
theorem dL_law_401 : decode cL_law 401 = .ok (.ifCond .ne 16, 3) := by decide +kernel
theorem dL_law_404 : decode cL_law 404 = .ok (.iload 18, 2) := by decide +kernel
theorem dL_law_406 : decode cL_law 406 = .ok (.aload 10, 2) := by decide +kernel
theorem dL_law_408 : decode cL_law 408 = .ok (.iload 17, 2) := by decide +kernel
theorem dL_law_410 : decode cL_law 410 = .ok (.iaload, 1) := by decide +kernel
theorem dL_law_411 : decode cL_law 411 = .ok (.ishr, 1) := by decide +kernel
theorem dL_law_412 : decode cL_law 412 = .ok (.iconst 1, 1) := by decide +kernel
theorem dL_law_413 : decode cL_law 413 = .ok (.iand, 1) := by decide +kernel
theorem dL_law_414 : decode cL_law 414 = .ok (.ifCond .ne 30, 3) := by decide +kernel
theorem dL_law_417 : decode cL_law 417 = .ok (.aload 5, 2) := by decide +kernel
theorem dL_law_419 : decode cL_law 419 = .ok (.aload 10, 2) := by decide +kernel
theorem dL_law_421 : decode cL_law 421 = .ok (.iload 17, 2) := by decide +kernel
theorem dL_law_423 : decode cL_law 423 = .ok (.iaload, 1) := by decide +kernel
theorem dL_law_424 : decode cL_law 424 = .ok (.iconst (-1), 1) := by decide +kernel
theorem dL_law_425 : decode cL_law 425 = .ok (.iastore, 1) := by decide +kernel
theorem dL_law_426 : decode cL_law 426 = .ok (.aload 10, 2) := by decide +kernel
theorem dL_law_428 : decode cL_law 428 = .ok (.iload 17, 2) := by decide +kernel
theorem dL_law_430 : decode cL_law 430 = .ok (.iconst (-1), 1) := by decide +kernel
theorem dL_law_431 : decode cL_law 431 = .ok (.iastore, 1) := by decide +kernel
theorem dL_law_432 : decode cL_law 432 = .ok (.aload 7, 2) := by decide +kernel
theorem dL_law_434 : decode cL_law 434 = .ok (.aload 9, 2) := by decide +kernel
theorem dL_law_436 : decode cL_law 436 = .ok (.iload 17, 2) := by decide +kernel
theorem dL_law_438 : decode cL_law 438 = .ok (.iaload, 1) := by decide +kernel
theorem dL_law_439 : decode cL_law 439 = .ok (.dup2, 1) := by decide +kernel
theorem dL_law_440 : decode cL_law 440 = .ok (.iaload, 1) := by decide +kernel
theorem dL_law_441 : decode cL_law 441 = .ok (.iconst 1, 1) := by decide +kernel
theorem dL_law_442 : decode cL_law 442 = .ok (.isub, 1) := by decide +kernel
theorem dL_law_443 : decode cL_law 443 = .ok (.iastore, 1) := by decide +kernel
theorem dL_law_444 : decode cL_law 444 = .ok (.iload 21, 2) := by decide +kernel
theorem dL_law_446 : decode cL_law 446 = .ok (.ifCond .eq 13, 3) := by decide +kernel
theorem dL_law_449 : decode cL_law 449 = .ok (.aload 10, 2) := by decide +kernel
theorem dL_law_451 : decode cL_law 451 = .ok (.iload 17, 2) := by decide +kernel
theorem dL_law_453 : decode cL_law 453 = .ok (.bipush (-2), 2) := by decide +kernel
theorem dL_law_455 : decode cL_law 455 = .ok (.iastore, 1) := by decide +kernel
theorem dL_law_456 : decode cL_law 456 = .ok (.goto 10, 3) := by decide +kernel
theorem dL_law_459 : decode cL_law 459 = .ok (.aload 8, 2) := by decide +kernel
theorem dL_law_461 : decode cL_law 461 = .ok (.iload 17, 2) := by decide +kernel
theorem dL_law_463 : decode cL_law 463 = .ok (.iload 18, 2) := by decide +kernel
theorem dL_law_465 : decode cL_law 465 = .ok (.iastore, 1) := by decide +kernel
theorem dL_law_466 : decode cL_law 466 = .ok (.iconst 0, 1) := by decide +kernel
theorem dL_law_467 : decode cL_law 467 = .ok (.istore 22, 2) := by decide +kernel
theorem dL_law_469 : decode cL_law 469 = .ok (.bipush 16, 2) := by decide +kernel
theorem dL_law_471 : decode cL_law 471 = .ok (.newarray .boolean, 2) := by decide +kernel
theorem dL_law_473 : decode cL_law 473 = .ok (.astore 23, 2) := by decide +kernel
theorem dL_law_475 : decode cL_law 475 = .ok (.iconst 0, 1) := by decide +kernel
theorem dL_law_476 : decode cL_law 476 = .ok (.istore 24, 2) := by decide +kernel
theorem dL_law_478 : decode cL_law 478 = .ok (.iload 24, 2) := by decide +kernel
theorem dL_law_480 : decode cL_law 480 = .ok (.iload 14, 2) := by decide +kernel
theorem dL_law_482 : decode cL_law 482 = .ok (.if_icmp .ge 204, 3) := by decide +kernel
theorem dL_law_485 : decode cL_law 485 = .ok (.iconst (-1), 1) := by decide +kernel
theorem dL_law_486 : decode cL_law 486 = .ok (.istore 25, 2) := by decide +kernel
theorem dL_law_488 : decode cL_law 488 = .ok (.iconst 0, 1) := by decide +kernel
theorem dL_law_489 : decode cL_law 489 = .ok (.istore 26, 2) := by decide +kernel
theorem dL_law_491 : decode cL_law 491 = .ok (.iload 26, 2) := by decide +kernel
theorem dL_law_493 : decode cL_law 493 = .ok (.iconst 4, 1) := by decide +kernel
theorem dL_law_494 : decode cL_law 494 = .ok (.if_icmp .ge 99, 3) := by decide +kernel
theorem dL_law_497 : decode cL_law 497 = .ok (.iconst 0, 1) := by decide +kernel
theorem dL_law_498 : decode cL_law 498 = .ok (.istore 27, 2) := by decide +kernel
theorem dL_law_500 : decode cL_law 500 = .ok (.iload 27, 2) := by decide +kernel
theorem dL_law_502 : decode cL_law 502 = .ok (.iload 14, 2) := by decide +kernel
theorem dL_law_504 : decode cL_law 504 = .ok (.if_icmp .ge 36, 3) := by decide +kernel
theorem dL_law_507 : decode cL_law 507 = .ok (.aload 9, 2) := by decide +kernel
theorem dL_law_509 : decode cL_law 509 = .ok (.iload 27, 2) := by decide +kernel
theorem dL_law_511 : decode cL_law 511 = .ok (.iaload, 1) := by decide +kernel
theorem dL_law_512 : decode cL_law 512 = .ok (.iload 26, 2) := by decide +kernel
theorem dL_law_514 : decode cL_law 514 = .ok (.if_icmp .ne 20, 3) := by decide +kernel
theorem dL_law_517 : decode cL_law 517 = .ok (.aload 10, 2) := by decide +kernel
theorem dL_law_519 : decode cL_law 519 = .ok (.iload 27, 2) := by decide +kernel
theorem dL_law_521 : decode cL_law 521 = .ok (.iaload, 1) := by decide +kernel
theorem dL_law_522 : decode cL_law 522 = .ok (.iconst (-1), 1) := by decide +kernel
theorem dL_law_523 : decode cL_law 523 = .ok (.if_icmp .ne 11, 3) := by decide +kernel
theorem dL_law_526 : decode cL_law 526 = .ok (.aload 23, 2) := by decide +kernel
theorem dL_law_528 : decode cL_law 528 = .ok (.iload 27, 2) := by decide +kernel
theorem dL_law_530 : decode cL_law 530 = .ok (.baload, 1) := by decide +kernel
theorem dL_law_531 : decode cL_law 531 = .ok (.ifCond .eq 9, 3) := by decide +kernel
theorem dL_law_534 : decode cL_law 534 = .ok (.iinc 27 1, 3) := by decide +kernel
theorem dL_law_537 : decode cL_law 537 = .ok (.goto (-37), 3) := by decide +kernel
theorem dL_law_540 : decode cL_law 540 = .ok (.iload 27, 2) := by decide +kernel
theorem dL_law_542 : decode cL_law 542 = .ok (.iload 14, 2) := by decide +kernel
theorem dL_law_544 : decode cL_law 544 = .ok (.if_icmp .ge 43, 3) := by decide +kernel
theorem dL_law_547 : decode cL_law 547 = .ok (.iload 25, 2) := by decide +kernel
theorem dL_law_549 : decode cL_law 549 = .ok (.ifCond .lt 34, 3) := by decide +kernel
theorem dL_law_552 : decode cL_law 552 = .ok (.aload 7, 2) := by decide +kernel
theorem dL_law_554 : decode cL_law 554 = .ok (.iload 26, 2) := by decide +kernel
theorem dL_law_556 : decode cL_law 556 = .ok (.iaload, 1) := by decide +kernel
theorem dL_law_557 : decode cL_law 557 = .ok (.aload 6, 2) := by decide +kernel
theorem dL_law_559 : decode cL_law 559 = .ok (.aload 9, 2) := by decide +kernel
theorem dL_law_561 : decode cL_law 561 = .ok (.iload 25, 2) := by decide +kernel
theorem dL_law_563 : decode cL_law 563 = .ok (.iaload, 1) := by decide +kernel
theorem dL_law_564 : decode cL_law 564 = .ok (.iaload, 1) := by decide +kernel
theorem dL_law_565 : decode cL_law 565 = .ok (.imul, 1) := by decide +kernel
theorem dL_law_566 : decode cL_law 566 = .ok (.aload 7, 2) := by decide +kernel
theorem dL_law_568 : decode cL_law 568 = .ok (.aload 9, 2) := by decide +kernel
theorem dL_law_570 : decode cL_law 570 = .ok (.iload 25, 2) := by decide +kernel
theorem dL_law_572 : decode cL_law 572 = .ok (.iaload, 1) := by decide +kernel
theorem dL_law_573 : decode cL_law 573 = .ok (.iaload, 1) := by decide +kernel
theorem dL_law_574 : decode cL_law 574 = .ok (.aload 6, 2) := by decide +kernel
theorem dL_law_576 : decode cL_law 576 = .ok (.iload 26, 2) := by decide +kernel
theorem dL_law_578 : decode cL_law 578 = .ok (.iaload, 1) := by decide +kernel
theorem dL_law_579 : decode cL_law 579 = .ok (.imul, 1) := by decide +kernel
theorem dL_law_580 : decode cL_law 580 = .ok (.if_icmp .ge 7, 3) := by decide +kernel
theorem dL_law_583 : decode cL_law 583 = .ok (.iload 27, 2) := by decide +kernel
theorem dL_law_585 : decode cL_law 585 = .ok (.istore 25, 2) := by decide +kernel
theorem dL_law_587 : decode cL_law 587 = .ok (.iinc 26 1, 3) := by decide +kernel
theorem dL_law_590 : decode cL_law 590 = .ok (.goto (-99), 3) := by decide +kernel
theorem dL_law_593 : decode cL_law 593 = .ok (.iload 25, 2) := by decide +kernel
theorem dL_law_595 : decode cL_law 595 = .ok (.ifCond .ge 6, 3) := by decide +kernel
theorem dL_law_598 : decode cL_law 598 = .ok (.goto 88, 3) := by decide +kernel
theorem dL_law_601 : decode cL_law 601 = .ok (.aload 23, 2) := by decide +kernel
theorem dL_law_603 : decode cL_law 603 = .ok (.iload 25, 2) := by decide +kernel
theorem dL_law_605 : decode cL_law 605 = .ok (.iconst 1, 1) := by decide +kernel
theorem dL_law_606 : decode cL_law 606 = .ok (.bastore, 1) := by decide +kernel
theorem dL_law_607 : decode cL_law 607 = .ok (.iload_n 2, 1) := by decide +kernel
theorem dL_law_608 : decode cL_law 608 = .ok (.aload 8, 2) := by decide +kernel
theorem dL_law_610 : decode cL_law 610 = .ok (.iload 25, 2) := by decide +kernel
theorem dL_law_612 : decode cL_law 612 = .ok (.iaload, 1) := by decide +kernel
theorem dL_law_613 : decode cL_law 613 = .ok (.aload 5, 2) := by decide +kernel
theorem dL_law_615 : decode cL_law 615 = .ok (.aload 11, 2) := by decide +kernel
theorem dL_law_617 : decode cL_law 617 = .ok (.iload 4, 2) := by decide +kernel
theorem dL_law_619 : decode cL_law 619 = .ok (.aload 8, 2) := by decide +kernel
theorem dL_law_621 : decode cL_law 621 = .ok (.aload 12, 2) := by decide +kernel
theorem dL_law_623 : decode cL_law 623 = .ok (.invokestatic 59, 3) := by decide +kernel
theorem dL_law_626 : decode cL_law 626 = .ok (.istore 26, 2) := by decide +kernel
theorem dL_law_628 : decode cL_law 628 = .ok (.iload 26, 2) := by decide +kernel
theorem dL_law_630 : decode cL_law 630 = .ok (.ifCond .eq 50, 3) := by decide +kernel
theorem dL_law_633 : decode cL_law 633 = .ok (.iload 26, 2) := by decide +kernel
theorem dL_law_635 : decode cL_law 635 = .ok (.iconst 1, 1) := by decide +kernel
theorem dL_law_636 : decode cL_law 636 = .ok (.isub, 1) := by decide +kernel
theorem dL_law_637 : decode cL_law 637 = .ok (.iload_n 3, 1) := by decide +kernel
theorem dL_law_638 : decode cL_law 638 = .ok (.if_icmp .le 6, 3) := by decide +kernel
theorem dL_law_641 : decode cL_law 641 = .ok (.goto 39, 3) := by decide +kernel
theorem dL_law_644 : decode cL_law 644 = .ok (.iload 25, 2) := by decide +kernel
theorem dL_law_646 : decode cL_law 646 = .ok (.iload 26, 2) := by decide +kernel
theorem dL_law_648 : decode cL_law 648 = .ok (.aload 12, 2) := by decide +kernel
theorem dL_law_650 : decode cL_law 650 = .ok (.aload 5, 2) := by decide +kernel
theorem dL_law_652 : decode cL_law 652 = .ok (.aload 10, 2) := by decide +kernel
theorem dL_law_654 : decode cL_law 654 = .ok (.aload 11, 2) := by decide +kernel
theorem dL_law_656 : decode cL_law 656 = .ok (.aload 13, 2) := by decide +kernel
theorem dL_law_658 : decode cL_law 658 = .ok (.iload 19, 2) := by decide +kernel
theorem dL_law_660 : decode cL_law 660 = .ok (.invokestatic 63, 3) := by decide +kernel
theorem dL_law_663 : decode cL_law 663 = .ok (.istore 19, 2) := by decide +kernel
theorem dL_law_665 : decode cL_law 665 = .ok (.aload 7, 2) := by decide +kernel
theorem dL_law_667 : decode cL_law 667 = .ok (.aload 9, 2) := by decide +kernel
theorem dL_law_669 : decode cL_law 669 = .ok (.iload 25, 2) := by decide +kernel
theorem dL_law_671 : decode cL_law 671 = .ok (.iaload, 1) := by decide +kernel
theorem dL_law_672 : decode cL_law 672 = .ok (.dup2, 1) := by decide +kernel
theorem dL_law_673 : decode cL_law 673 = .ok (.iaload, 1) := by decide +kernel
theorem dL_law_674 : decode cL_law 674 = .ok (.iconst 1, 1) := by decide +kernel
theorem dL_law_675 : decode cL_law 675 = .ok (.iadd, 1) := by decide +kernel
theorem dL_law_676 : decode cL_law 676 = .ok (.iastore, 1) := by decide +kernel
theorem dL_law_677 : decode cL_law 677 = .ok (.iinc 22 1, 3) := by decide +kernel
theorem dL_law_680 : decode cL_law 680 = .ok (.iinc 24 1, 3) := by decide +kernel
theorem dL_law_683 : decode cL_law 683 = .ok (.goto (-205), 3) := by decide +kernel
theorem dL_law_686 : decode cL_law 686 = .ok (.iload 21, 2) := by decide +kernel
theorem dL_law_688 : decode cL_law 688 = .ok (.ifCond .eq 17, 3) := by decide +kernel
theorem dL_law_691 : decode cL_law 691 = .ok (.aload_n 1, 1) := by decide +kernel
theorem dL_law_692 : decode cL_law 692 = .ok (.iload 17, 2) := by decide +kernel
theorem dL_law_694 : decode cL_law 694 = .ok (.invokevirtual 70, 3) := by decide +kernel
theorem dL_law_697 : decode cL_law 697 = .ok (.iload 22, 2) := by decide +kernel
theorem dL_law_699 : decode cL_law 699 = .ok (.if_icmp .eq 32, 3) := by decide +kernel
theorem dL_law_702 : decode cL_law 702 = .ok (.goto 27, 3) := by decide +kernel
theorem dL_law_705 : decode cL_law 705 = .ok (.aload_n 1, 1) := by decide +kernel
theorem dL_law_706 : decode cL_law 706 = .ok (.iload 17, 2) := by decide +kernel
theorem dL_law_708 : decode cL_law 708 = .ok (.iload 18, 2) := by decide +kernel
theorem dL_law_710 : decode cL_law 710 = .ok (.invokevirtual 73, 3) := by decide +kernel
theorem dL_law_713 : decode cL_law 713 = .ok (.aload 10, 2) := by decide +kernel
theorem dL_law_715 : decode cL_law 715 = .ok (.iload 17, 2) := by decide +kernel
theorem dL_law_717 : decode cL_law 717 = .ok (.iaload, 1) := by decide +kernel
theorem dL_law_718 : decode cL_law 718 = .ok (.ifCond .lt 7, 3) := by decide +kernel
theorem dL_law_721 : decode cL_law 721 = .ok (.iconst 1, 1) := by decide +kernel
theorem dL_law_722 : decode cL_law 722 = .ok (.goto 4, 3) := by decide +kernel
theorem dL_law_725 : decode cL_law 725 = .ok (.iconst 0, 1) := by decide +kernel
theorem dL_law_726 : decode cL_law 726 = .ok (.if_icmp .eq 5, 3) := by decide +kernel
theorem dL_law_729 : decode cL_law 729 = .ok (.iconst 0, 1) := by decide +kernel
theorem dL_law_730 : decode cL_law 730 = .ok (.ireturn, 1) := by decide +kernel
theorem dL_law_731 : decode cL_law 731 = .ok (.aload_n 1, 1) := by decide +kernel
theorem dL_law_732 : decode cL_law 732 = .ok (.iload 14, 2) := by decide +kernel
theorem dL_law_734 : decode cL_law 734 = .ok (.aload 10, 2) := by decide +kernel
theorem dL_law_736 : decode cL_law 736 = .ok (.aload 11, 2) := by decide +kernel
theorem dL_law_738 : decode cL_law 738 = .ok (.aload 13, 2) := by decide +kernel
theorem dL_law_740 : decode cL_law 740 = .ok (.iload 19, 2) := by decide +kernel
theorem dL_law_742 : decode cL_law 742 = .ok (.invokestatic 77, 3) := by decide +kernel
theorem dL_law_745 : decode cL_law 745 = .ok (.ifCond .ne 5, 3) := by decide +kernel
theorem dL_law_748 : decode cL_law 748 = .ok (.iconst 0, 1) := by decide +kernel
theorem dL_law_749 : decode cL_law 749 = .ok (.ireturn, 1) := by decide +kernel
theorem dL_law_750 : decode cL_law 750 = .ok (.iinc 15 1, 3) := by decide +kernel
theorem dL_law_753 : decode cL_law 753 = .ok (.goto (-582), 3) := by decide +kernel
theorem dL_law_756 : decode cL_law 756 = .ok (.aload_n 1, 1) := by decide +kernel
theorem dL_law_757 : decode cL_law 757 = .ok (.invokevirtual 81, 3) := by decide +kernel
theorem dL_law_760 : decode cL_law 760 = .ok (.iconst 4, 1) := by decide +kernel
theorem dL_law_761 : decode cL_law 761 = .ok (.if_icmp .ne 7, 3) := by decide +kernel
theorem dL_law_764 : decode cL_law 764 = .ok (.iconst 1, 1) := by decide +kernel
theorem dL_law_765 : decode cL_law 765 = .ok (.goto 4, 3) := by decide +kernel
theorem dL_law_768 : decode cL_law 768 = .ok (.iconst 0, 1) := by decide +kernel
theorem dL_law_769 : decode cL_law 769 = .ok (.ireturn, 1) := by decide +kernel
end
section
theorem dX0_init_0 : decode cX0_init 0 = .ok (.aload_n 0, 1) := by decide +kernel
theorem dX0_init_1 : decode cX0_init 1 = .ok (.invokespecial 3, 3) := by decide +kernel
theorem dX0_init_4 : decode cX0_init 4 = .ok (.aload_n 0, 1) := by decide +kernel
theorem dX0_init_5 : decode cX0_init 5 = .ok (.bipush 40, 2) := by decide +kernel
theorem dX0_init_7 : decode cX0_init 7 = .ok (.newarray .int, 2) := by decide +kernel
theorem dX0_init_9 : decode cX0_init 9 = .ok (.putfield 9, 3) := by decide +kernel
theorem dX0_init_12 : decode cX0_init 12 = .ok (.aload_n 0, 1) := by decide +kernel
theorem dX0_init_13 : decode cX0_init 13 = .ok (.bipush 40, 2) := by decide +kernel
theorem dX0_init_15 : decode cX0_init 15 = .ok (.newarray .int, 2) := by decide +kernel
theorem dX0_init_17 : decode cX0_init 17 = .ok (.putfield 15, 3) := by decide +kernel
theorem dX0_init_20 : decode cX0_init 20 = .ok (.aload_n 0, 1) := by decide +kernel
theorem dX0_init_21 : decode cX0_init 21 = .ok (.bipush 12, 2) := by decide +kernel
theorem dX0_init_23 : decode cX0_init 23 = .ok (.newarray .int, 2) := by decide +kernel
theorem dX0_init_25 : decode cX0_init 25 = .ok (.putfield 18, 3) := by decide +kernel
theorem dX0_init_28 : decode cX0_init 28 = .ok (.aload_n 0, 1) := by decide +kernel
theorem dX0_init_29 : decode cX0_init 29 = .ok (.iconst 4, 1) := by decide +kernel
theorem dX0_init_30 : decode cX0_init 30 = .ok (.newarray .int, 2) := by decide +kernel
theorem dX0_init_32 : decode cX0_init 32 = .ok (.putfield 21, 3) := by decide +kernel
theorem dX0_init_35 : decode cX0_init 35 = .ok (.aload_n 0, 1) := by decide +kernel
theorem dX0_init_36 : decode cX0_init 36 = .ok (.bipush 16, 2) := by decide +kernel
theorem dX0_init_38 : decode cX0_init 38 = .ok (.newarray .int, 2) := by decide +kernel
theorem dX0_init_40 : decode cX0_init 40 = .ok (.putfield 24, 3) := by decide +kernel
theorem dX0_init_43 : decode cX0_init 43 = .ok (.aload_n 0, 1) := by decide +kernel
theorem dX0_init_44 : decode cX0_init 44 = .ok (.bipush 16, 2) := by decide +kernel
theorem dX0_init_46 : decode cX0_init 46 = .ok (.newarray .boolean, 2) := by decide +kernel
theorem dX0_init_48 : decode cX0_init 48 = .ok (.putfield 27, 3) := by decide +kernel
theorem dX0_init_51 : decode cX0_init 51 = .ok (.aload_n 0, 1) := by decide +kernel
theorem dX0_init_52 : decode cX0_init 52 = .ok (.bipush 16, 2) := by decide +kernel
theorem dX0_init_54 : decode cX0_init 54 = .ok (.newarray .int, 2) := by decide +kernel
theorem dX0_init_56 : decode cX0_init 56 = .ok (.putfield 31, 3) := by decide +kernel
theorem dX0_init_59 : decode cX0_init 59 = .ok (.aload_n 0, 1) := by decide +kernel
theorem dX0_init_60 : decode cX0_init 60 = .ok (.bipush 16, 2) := by decide +kernel
theorem dX0_init_62 : decode cX0_init 62 = .ok (.newarray .int, 2) := by decide +kernel
theorem dX0_init_64 : decode cX0_init 64 = .ok (.putfield 34, 3) := by decide +kernel
theorem dX0_init_67 : decode cX0_init 67 = .ok (.aload_n 0, 1) := by decide +kernel
theorem dX0_init_68 : decode cX0_init 68 = .ok (.aload_n 1, 1) := by decide +kernel
theorem dX0_init_69 : decode cX0_init 69 = .ok (.putfield 37, 3) := by decide +kernel
theorem dX0_init_72 : decode cX0_init 72 = .ok (.return_, 1) := by decide +kernel
end
section
theorem dX1_init_0 : decode cX1_init 0 = .ok (.aload_n 0, 1) := by decide +kernel
theorem dX1_init_1 : decode cX1_init 1 = .ok (.invokespecial 3, 3) := by decide +kernel
theorem dX1_init_4 : decode cX1_init 4 = .ok (.aload_n 0, 1) := by decide +kernel
theorem dX1_init_5 : decode cX1_init 5 = .ok (.sipush 200, 3) := by decide +kernel
theorem dX1_init_8 : decode cX1_init 8 = .ok (.newarray .int, 2) := by decide +kernel
theorem dX1_init_10 : decode cX1_init 10 = .ok (.putfield 11, 3) := by decide +kernel
theorem dX1_init_13 : decode cX1_init 13 = .ok (.aload_n 0, 1) := by decide +kernel
theorem dX1_init_14 : decode cX1_init 14 = .ok (.sipush 200, 3) := by decide +kernel
theorem dX1_init_17 : decode cX1_init 17 = .ok (.newarray .int, 2) := by decide +kernel
theorem dX1_init_19 : decode cX1_init 19 = .ok (.putfield 15, 3) := by decide +kernel
theorem dX1_init_22 : decode cX1_init 22 = .ok (.return_, 1) := by decide +kernel
theorem dX1_clear_0 : decode cX1_clear 0 = .ok (.aload_n 0, 1) := by decide +kernel
theorem dX1_clear_1 : decode cX1_clear 1 = .ok (.iconst 0, 1) := by decide +kernel
theorem dX1_clear_2 : decode cX1_clear 2 = .ok (.putfield 18, 3) := by decide +kernel
theorem dX1_clear_5 : decode cX1_clear 5 = .ok (.return_, 1) := by decide +kernel
theorem dX1_add_0 : decode cX1_add 0 = .ok (.aload_n 0, 1) := by decide +kernel
theorem dX1_add_1 : decode cX1_add 1 = .ok (.getfield 18, 3) := by decide +kernel
theorem dX1_add_4 : decode cX1_add 4 = .ok (.sipush 200, 3) := by decide +kernel
theorem dX1_add_7 : decode cX1_add 7 = .ok (.if_icmp .ge 33, 3) := by decide +kernel
theorem dX1_add_10 : decode cX1_add 10 = .ok (.aload_n 0, 1) := by decide +kernel
theorem dX1_add_11 : decode cX1_add 11 = .ok (.getfield 11, 3) := by decide +kernel
theorem dX1_add_14 : decode cX1_add 14 = .ok (.aload_n 0, 1) := by decide +kernel
theorem dX1_add_15 : decode cX1_add 15 = .ok (.getfield 18, 3) := by decide +kernel
theorem dX1_add_18 : decode cX1_add 18 = .ok (.iload_n 1, 1) := by decide +kernel
theorem dX1_add_19 : decode cX1_add 19 = .ok (.iastore, 1) := by decide +kernel
theorem dX1_add_20 : decode cX1_add 20 = .ok (.aload_n 0, 1) := by decide +kernel
theorem dX1_add_21 : decode cX1_add 21 = .ok (.getfield 15, 3) := by decide +kernel
theorem dX1_add_24 : decode cX1_add 24 = .ok (.aload_n 0, 1) := by decide +kernel
theorem dX1_add_25 : decode cX1_add 25 = .ok (.getfield 18, 3) := by decide +kernel
theorem dX1_add_28 : decode cX1_add 28 = .ok (.iload_n 2, 1) := by decide +kernel
theorem dX1_add_29 : decode cX1_add 29 = .ok (.iastore, 1) := by decide +kernel
theorem dX1_add_30 : decode cX1_add 30 = .ok (.aload_n 0, 1) := by decide +kernel
theorem dX1_add_31 : decode cX1_add 31 = .ok (.dup, 1) := by decide +kernel
theorem dX1_add_32 : decode cX1_add 32 = .ok (.getfield 18, 3) := by decide +kernel
theorem dX1_add_35 : decode cX1_add 35 = .ok (.iconst 1, 1) := by decide +kernel
theorem dX1_add_36 : decode cX1_add 36 = .ok (.iadd, 1) := by decide +kernel
theorem dX1_add_37 : decode cX1_add 37 = .ok (.putfield 18, 3) := by decide +kernel
theorem dX1_add_40 : decode cX1_add 40 = .ok (.return_, 1) := by decide +kernel
end
section
theorem dX2_init_0 : decode cX2_init 0 = .ok (.aload_n 0, 1) := by decide +kernel
theorem dX2_init_1 : decode cX2_init 1 = .ok (.invokespecial 3, 3) := by decide +kernel
theorem dX2_init_4 : decode cX2_init 4 = .ok (.aload_n 0, 1) := by decide +kernel
theorem dX2_init_5 : decode cX2_init 5 = .ok (.bipush 12, 2) := by decide +kernel
theorem dX2_init_7 : decode cX2_init 7 = .ok (.newarray .int, 2) := by decide +kernel
theorem dX2_init_9 : decode cX2_init 9 = .ok (.putfield 9, 3) := by decide +kernel
theorem dX2_init_12 : decode cX2_init 12 = .ok (.aload_n 0, 1) := by decide +kernel
theorem dX2_init_13 : decode cX2_init 13 = .ok (.bipush 13, 2) := by decide +kernel
theorem dX2_init_15 : decode cX2_init 15 = .ok (.newarray .int, 2) := by decide +kernel
theorem dX2_init_17 : decode cX2_init 17 = .ok (.putfield 15, 3) := by decide +kernel
theorem dX2_init_20 : decode cX2_init 20 = .ok (.aload_n 0, 1) := by decide +kernel
theorem dX2_init_21 : decode cX2_init 21 = .ok (.bipush 12, 2) := by decide +kernel
theorem dX2_init_23 : decode cX2_init 23 = .ok (.newarray .int, 2) := by decide +kernel
theorem dX2_init_25 : decode cX2_init 25 = .ok (.putfield 18, 3) := by decide +kernel
theorem dX2_init_28 : decode cX2_init 28 = .ok (.aload_n 0, 1) := by decide +kernel
theorem dX2_init_29 : decode cX2_init 29 = .ok (.bipush 12, 2) := by decide +kernel
theorem dX2_init_31 : decode cX2_init 31 = .ok (.newarray .int, 2) := by decide +kernel
theorem dX2_init_33 : decode cX2_init 33 = .ok (.putfield 21, 3) := by decide +kernel
theorem dX2_init_36 : decode cX2_init 36 = .ok (.aload_n 0, 1) := by decide +kernel
theorem dX2_init_37 : decode cX2_init 37 = .ok (.aload_n 1, 1) := by decide +kernel
theorem dX2_init_38 : decode cX2_init 38 = .ok (.putfield 24, 3) := by decide +kernel
theorem dX2_init_41 : decode cX2_init 41 = .ok (.return_, 1) := by decide +kernel
theorem dX2_search_0 : decode cX2_search 0 = .ok (.aload_n 0, 1) := by decide +kernel
theorem dX2_search_1 : decode cX2_search 1 = .ok (.invokevirtual 28, 3) := by decide +kernel
theorem dX2_search_4 : decode cX2_search 4 = .ok (.aload_n 0, 1) := by decide +kernel
theorem dX2_search_5 : decode cX2_search 5 = .ok (.invokevirtual 31, 3) := by decide +kernel
theorem dX2_search_8 : decode cX2_search 8 = .ok (.aload_n 0, 1) := by decide +kernel
theorem dX2_search_9 : decode cX2_search 9 = .ok (.aload_n 0, 1) := by decide +kernel
theorem dX2_search_10 : decode cX2_search 10 = .ok (.aload_n 0, 1) := by decide +kernel
theorem dX2_search_11 : decode cX2_search 11 = .ok (.getfield 24, 3) := by decide +kernel
theorem dX2_search_14 : decode cX2_search 14 = .ok (.getfield 34, 3) := by decide +kernel
theorem dX2_search_17 : decode cX2_search 17 = .ok (.iload_n 1, 1) := by decide +kernel
theorem dX2_search_18 : decode cX2_search 18 = .ok (.iaload, 1) := by decide +kernel
theorem dX2_search_19 : decode cX2_search 19 = .ok (.invokevirtual 39, 3) := by decide +kernel
theorem dX2_search_22 : decode cX2_search 22 = .ok (.putfield 43, 3) := by decide +kernel
theorem dX2_search_25 : decode cX2_search 25 = .ok (.aload_n 0, 1) := by decide +kernel
theorem dX2_search_26 : decode cX2_search 26 = .ok (.aload_n 0, 1) := by decide +kernel
theorem dX2_search_27 : decode cX2_search 27 = .ok (.getfield 24, 3) := by decide +kernel
theorem dX2_search_30 : decode cX2_search 30 = .ok (.getfield 34, 3) := by decide +kernel
theorem dX2_search_33 : decode cX2_search 33 = .ok (.iload_n 1, 1) := by decide +kernel
theorem dX2_search_34 : decode cX2_search 34 = .ok (.iaload, 1) := by decide +kernel
theorem dX2_search_35 : decode cX2_search 35 = .ok (.invokevirtual 47, 3) := by decide +kernel
theorem dX2_search_38 : decode cX2_search 38 = .ok (.ifCond .ne 8, 3) := by decide +kernel
theorem dX2_search_41 : decode cX2_search 41 = .ok (.aload_n 0, 1) := by decide +kernel
theorem dX2_search_42 : decode cX2_search 42 = .ok (.iconst 0, 1) := by decide +kernel
theorem dX2_search_43 : decode cX2_search 43 = .ok (.putfield 43, 3) := by decide +kernel
theorem dX2_search_46 : decode cX2_search 46 = .ok (.aload_n 0, 1) := by decide +kernel
theorem dX2_search_47 : decode cX2_search 47 = .ok (.getfield 43, 3) := by decide +kernel
theorem dX2_search_50 : decode cX2_search 50 = .ok (.ireturn, 1) := by decide +kernel
theorem dX2_collectSuccessors_0 : decode cX2_collectSuccessors 0 = .ok (.iconst 0, 1) := by decide +kernel
theorem dX2_collectSuccessors_1 : decode cX2_collectSuccessors 1 = .ok (.istore_n 1, 1) := by decide +kernel
theorem dX2_collectSuccessors_2 : decode cX2_collectSuccessors 2 = .ok (.iload_n 1, 1) := by decide +kernel
theorem dX2_collectSuccessors_3 : decode cX2_collectSuccessors 3 = .ok (.aload_n 0, 1) := by decide +kernel
theorem dX2_collectSuccessors_4 : decode cX2_collectSuccessors 4 = .ok (.getfield 24, 3) := by decide +kernel
theorem dX2_collectSuccessors_7 : decode cX2_collectSuccessors 7 = .ok (.getfield 51, 3) := by decide +kernel
theorem dX2_collectSuccessors_10 : decode cX2_collectSuccessors 10 = .ok (.if_icmp .ge 16, 3) := by decide +kernel
theorem dX2_collectSuccessors_13 : decode cX2_collectSuccessors 13 = .ok (.aload_n 0, 1) := by decide +kernel
theorem dX2_collectSuccessors_14 : decode cX2_collectSuccessors 14 = .ok (.getfield 9, 3) := by decide +kernel
theorem dX2_collectSuccessors_17 : decode cX2_collectSuccessors 17 = .ok (.iload_n 1, 1) := by decide +kernel
theorem dX2_collectSuccessors_18 : decode cX2_collectSuccessors 18 = .ok (.iconst 0, 1) := by decide +kernel
theorem dX2_collectSuccessors_19 : decode cX2_collectSuccessors 19 = .ok (.iastore, 1) := by decide +kernel
theorem dX2_collectSuccessors_20 : decode cX2_collectSuccessors 20 = .ok (.iinc 1 1, 3) := by decide +kernel
theorem dX2_collectSuccessors_23 : decode cX2_collectSuccessors 23 = .ok (.goto (-21), 3) := by decide +kernel
theorem dX2_collectSuccessors_26 : decode cX2_collectSuccessors 26 = .ok (.iconst 0, 1) := by decide +kernel
theorem dX2_collectSuccessors_27 : decode cX2_collectSuccessors 27 = .ok (.istore_n 1, 1) := by decide +kernel
theorem dX2_collectSuccessors_28 : decode cX2_collectSuccessors 28 = .ok (.iload_n 1, 1) := by decide +kernel
theorem dX2_collectSuccessors_29 : decode cX2_collectSuccessors 29 = .ok (.aload_n 0, 1) := by decide +kernel
theorem dX2_collectSuccessors_30 : decode cX2_collectSuccessors 30 = .ok (.getfield 24, 3) := by decide +kernel
theorem dX2_collectSuccessors_33 : decode cX2_collectSuccessors 33 = .ok (.getfield 54, 3) := by decide +kernel
theorem dX2_collectSuccessors_36 : decode cX2_collectSuccessors 36 = .ok (.if_icmp .ge 46, 3) := by decide +kernel
theorem dX2_collectSuccessors_39 : decode cX2_collectSuccessors 39 = .ok (.aload_n 0, 1) := by decide +kernel
theorem dX2_collectSuccessors_40 : decode cX2_collectSuccessors 40 = .ok (.getfield 24, 3) := by decide +kernel
theorem dX2_collectSuccessors_43 : decode cX2_collectSuccessors 43 = .ok (.iload_n 1, 1) := by decide +kernel
theorem dX2_collectSuccessors_44 : decode cX2_collectSuccessors 44 = .ok (.invokevirtual 57, 3) := by decide +kernel
theorem dX2_collectSuccessors_47 : decode cX2_collectSuccessors 47 = .ok (.ifCond .eq 29, 3) := by decide +kernel
theorem dX2_collectSuccessors_50 : decode cX2_collectSuccessors 50 = .ok (.aload_n 0, 1) := by decide +kernel
theorem dX2_collectSuccessors_51 : decode cX2_collectSuccessors 51 = .ok (.getfield 9, 3) := by decide +kernel
theorem dX2_collectSuccessors_54 : decode cX2_collectSuccessors 54 = .ok (.aload_n 0, 1) := by decide +kernel
theorem dX2_collectSuccessors_55 : decode cX2_collectSuccessors 55 = .ok (.getfield 24, 3) := by decide +kernel
theorem dX2_collectSuccessors_58 : decode cX2_collectSuccessors 58 = .ok (.getfield 60, 3) := by decide +kernel
theorem dX2_collectSuccessors_61 : decode cX2_collectSuccessors 61 = .ok (.iload_n 1, 1) := by decide +kernel
theorem dX2_collectSuccessors_62 : decode cX2_collectSuccessors 62 = .ok (.iaload, 1) := by decide +kernel
theorem dX2_collectSuccessors_63 : decode cX2_collectSuccessors 63 = .ok (.dup2, 1) := by decide +kernel
theorem dX2_collectSuccessors_64 : decode cX2_collectSuccessors 64 = .ok (.iaload, 1) := by decide +kernel
theorem dX2_collectSuccessors_65 : decode cX2_collectSuccessors 65 = .ok (.aload_n 0, 1) := by decide +kernel
theorem dX2_collectSuccessors_66 : decode cX2_collectSuccessors 66 = .ok (.getfield 24, 3) := by decide +kernel
theorem dX2_collectSuccessors_69 : decode cX2_collectSuccessors 69 = .ok (.getfield 34, 3) := by decide +kernel
theorem dX2_collectSuccessors_72 : decode cX2_collectSuccessors 72 = .ok (.iload_n 1, 1) := by decide +kernel
theorem dX2_collectSuccessors_73 : decode cX2_collectSuccessors 73 = .ok (.iaload, 1) := by decide +kernel
theorem dX2_collectSuccessors_74 : decode cX2_collectSuccessors 74 = .ok (.ior, 1) := by decide +kernel
theorem dX2_collectSuccessors_75 : decode cX2_collectSuccessors 75 = .ok (.iastore, 1) := by decide +kernel
theorem dX2_collectSuccessors_76 : decode cX2_collectSuccessors 76 = .ok (.iinc 1 1, 3) := by decide +kernel
theorem dX2_collectSuccessors_79 : decode cX2_collectSuccessors 79 = .ok (.goto (-51), 3) := by decide +kernel
theorem dX2_collectSuccessors_82 : decode cX2_collectSuccessors 82 = .ok (.return_, 1) := by decide +kernel
theorem dX2_buildLayers_0 : decode cX2_buildLayers 0 = .ok (.aload_n 0, 1) := by decide +kernel
theorem dX2_buildLayers_1 : decode cX2_buildLayers 1 = .ok (.getfield 15, 3) := by decide +kernel
theorem dX2_buildLayers_4 : decode cX2_buildLayers 4 = .ok (.iconst 1, 1) := by decide +kernel
theorem dX2_buildLayers_5 : decode cX2_buildLayers 5 = .ok (.iconst 0, 1) := by decide +kernel
theorem dX2_buildLayers_6 : decode cX2_buildLayers 6 = .ok (.iastore, 1) := by decide +kernel
theorem dX2_buildLayers_7 : decode cX2_buildLayers 7 = .ok (.iconst 0, 1) := by decide +kernel
theorem dX2_buildLayers_8 : decode cX2_buildLayers 8 = .ok (.istore_n 1, 1) := by decide +kernel
theorem dX2_buildLayers_9 : decode cX2_buildLayers 9 = .ok (.iload_n 1, 1) := by decide +kernel
theorem dX2_buildLayers_10 : decode cX2_buildLayers 10 = .ok (.aload_n 0, 1) := by decide +kernel
theorem dX2_buildLayers_11 : decode cX2_buildLayers 11 = .ok (.getfield 24, 3) := by decide +kernel
theorem dX2_buildLayers_14 : decode cX2_buildLayers 14 = .ok (.getfield 51, 3) := by decide +kernel
theorem dX2_buildLayers_17 : decode cX2_buildLayers 17 = .ok (.if_icmp .ge 32, 3) := by decide +kernel
theorem dX2_buildLayers_20 : decode cX2_buildLayers 20 = .ok (.aload_n 0, 1) := by decide +kernel
theorem dX2_buildLayers_21 : decode cX2_buildLayers 21 = .ok (.getfield 24, 3) := by decide +kernel
theorem dX2_buildLayers_24 : decode cX2_buildLayers 24 = .ok (.iload_n 1, 1) := by decide +kernel
theorem dX2_buildLayers_25 : decode cX2_buildLayers 25 = .ok (.invokevirtual 63, 3) := by decide +kernel
theorem dX2_buildLayers_28 : decode cX2_buildLayers 28 = .ok (.ifCond .eq 15, 3) := by decide +kernel
theorem dX2_buildLayers_31 : decode cX2_buildLayers 31 = .ok (.aload_n 0, 1) := by decide +kernel
theorem dX2_buildLayers_32 : decode cX2_buildLayers 32 = .ok (.getfield 15, 3) := by decide +kernel
theorem dX2_buildLayers_35 : decode cX2_buildLayers 35 = .ok (.iconst 1, 1) := by decide +kernel
theorem dX2_buildLayers_36 : decode cX2_buildLayers 36 = .ok (.dup2, 1) := by decide +kernel
theorem dX2_buildLayers_37 : decode cX2_buildLayers 37 = .ok (.iaload, 1) := by decide +kernel
theorem dX2_buildLayers_38 : decode cX2_buildLayers 38 = .ok (.iconst 1, 1) := by decide +kernel
theorem dX2_buildLayers_39 : decode cX2_buildLayers 39 = .ok (.iload_n 1, 1) := by decide +kernel
theorem dX2_buildLayers_40 : decode cX2_buildLayers 40 = .ok (.ishl, 1) := by decide +kernel
theorem dX2_buildLayers_41 : decode cX2_buildLayers 41 = .ok (.ior, 1) := by decide +kernel
theorem dX2_buildLayers_42 : decode cX2_buildLayers 42 = .ok (.iastore, 1) := by decide +kernel
theorem dX2_buildLayers_43 : decode cX2_buildLayers 43 = .ok (.iinc 1 1, 3) := by decide +kernel
theorem dX2_buildLayers_46 : decode cX2_buildLayers 46 = .ok (.goto (-37), 3) := by decide +kernel
theorem dX2_buildLayers_49 : decode cX2_buildLayers 49 = .ok (.aload_n 0, 1) := by decide +kernel
theorem dX2_buildLayers_50 : decode cX2_buildLayers 50 = .ok (.getfield 15, 3) := by decide +kernel
theorem dX2_buildLayers_53 : decode cX2_buildLayers 53 = .ok (.iconst 1, 1) := by decide +kernel
theorem dX2_buildLayers_54 : decode cX2_buildLayers 54 = .ok (.iaload, 1) := by decide +kernel
theorem dX2_buildLayers_55 : decode cX2_buildLayers 55 = .ok (.istore_n 1, 1) := by decide +kernel
theorem dX2_buildLayers_56 : decode cX2_buildLayers 56 = .ok (.iconst 2, 1) := by decide +kernel
theorem dX2_buildLayers_57 : decode cX2_buildLayers 57 = .ok (.istore_n 2, 1) := by decide +kernel
theorem dX2_buildLayers_58 : decode cX2_buildLayers 58 = .ok (.iload_n 2, 1) := by decide +kernel
theorem dX2_buildLayers_59 : decode cX2_buildLayers 59 = .ok (.aload_n 0, 1) := by decide +kernel
theorem dX2_buildLayers_60 : decode cX2_buildLayers 60 = .ok (.getfield 24, 3) := by decide +kernel
theorem dX2_buildLayers_63 : decode cX2_buildLayers 63 = .ok (.getfield 51, 3) := by decide +kernel
theorem dX2_buildLayers_66 : decode cX2_buildLayers 66 = .ok (.if_icmp .gt 40, 3) := by decide +kernel
theorem dX2_buildLayers_69 : decode cX2_buildLayers 69 = .ok (.aload_n 0, 1) := by decide +kernel
theorem dX2_buildLayers_70 : decode cX2_buildLayers 70 = .ok (.getfield 15, 3) := by decide +kernel
theorem dX2_buildLayers_73 : decode cX2_buildLayers 73 = .ok (.iload_n 2, 1) := by decide +kernel
theorem dX2_buildLayers_74 : decode cX2_buildLayers 74 = .ok (.aload_n 0, 1) := by decide +kernel
theorem dX2_buildLayers_75 : decode cX2_buildLayers 75 = .ok (.aload_n 0, 1) := by decide +kernel
theorem dX2_buildLayers_76 : decode cX2_buildLayers 76 = .ok (.getfield 15, 3) := by decide +kernel
theorem dX2_buildLayers_79 : decode cX2_buildLayers 79 = .ok (.iload_n 2, 1) := by decide +kernel
theorem dX2_buildLayers_80 : decode cX2_buildLayers 80 = .ok (.iconst 1, 1) := by decide +kernel
theorem dX2_buildLayers_81 : decode cX2_buildLayers 81 = .ok (.isub, 1) := by decide +kernel
theorem dX2_buildLayers_82 : decode cX2_buildLayers 82 = .ok (.iaload, 1) := by decide +kernel
theorem dX2_buildLayers_83 : decode cX2_buildLayers 83 = .ok (.invokevirtual 66, 3) := by decide +kernel
theorem dX2_buildLayers_86 : decode cX2_buildLayers 86 = .ok (.iload_n 1, 1) := by decide +kernel
theorem dX2_buildLayers_87 : decode cX2_buildLayers 87 = .ok (.iconst (-1), 1) := by decide +kernel
theorem dX2_buildLayers_88 : decode cX2_buildLayers 88 = .ok (.ixor, 1) := by decide +kernel
theorem dX2_buildLayers_89 : decode cX2_buildLayers 89 = .ok (.iand, 1) := by decide +kernel
theorem dX2_buildLayers_90 : decode cX2_buildLayers 90 = .ok (.iastore, 1) := by decide +kernel
theorem dX2_buildLayers_91 : decode cX2_buildLayers 91 = .ok (.iload_n 1, 1) := by decide +kernel
theorem dX2_buildLayers_92 : decode cX2_buildLayers 92 = .ok (.aload_n 0, 1) := by decide +kernel
theorem dX2_buildLayers_93 : decode cX2_buildLayers 93 = .ok (.getfield 15, 3) := by decide +kernel
theorem dX2_buildLayers_96 : decode cX2_buildLayers 96 = .ok (.iload_n 2, 1) := by decide +kernel
theorem dX2_buildLayers_97 : decode cX2_buildLayers 97 = .ok (.iaload, 1) := by decide +kernel
theorem dX2_buildLayers_98 : decode cX2_buildLayers 98 = .ok (.ior, 1) := by decide +kernel
theorem dX2_buildLayers_99 : decode cX2_buildLayers 99 = .ok (.istore_n 1, 1) := by decide +kernel
theorem dX2_buildLayers_100 : decode cX2_buildLayers 100 = .ok (.iinc 2 1, 3) := by decide +kernel
theorem dX2_buildLayers_103 : decode cX2_buildLayers 103 = .ok (.goto (-45), 3) := by decide +kernel
theorem dX2_buildLayers_106 : decode cX2_buildLayers 106 = .ok (.return_, 1) := by decide +kernel
theorem dX2_leadingTo_0 : decode cX2_leadingTo 0 = .ok (.iconst 0, 1) := by decide +kernel
theorem dX2_leadingTo_1 : decode cX2_leadingTo 1 = .ok (.istore_n 2, 1) := by decide +kernel
theorem dX2_leadingTo_2 : decode cX2_leadingTo 2 = .ok (.iconst 0, 1) := by decide +kernel
theorem dX2_leadingTo_3 : decode cX2_leadingTo 3 = .ok (.istore_n 3, 1) := by decide +kernel
theorem dX2_leadingTo_4 : decode cX2_leadingTo 4 = .ok (.iload_n 3, 1) := by decide +kernel
theorem dX2_leadingTo_5 : decode cX2_leadingTo 5 = .ok (.aload_n 0, 1) := by decide +kernel
theorem dX2_leadingTo_6 : decode cX2_leadingTo 6 = .ok (.getfield 24, 3) := by decide +kernel
theorem dX2_leadingTo_9 : decode cX2_leadingTo 9 = .ok (.getfield 51, 3) := by decide +kernel
theorem dX2_leadingTo_12 : decode cX2_leadingTo 12 = .ok (.if_icmp .ge 26, 3) := by decide +kernel
theorem dX2_leadingTo_15 : decode cX2_leadingTo 15 = .ok (.aload_n 0, 1) := by decide +kernel
theorem dX2_leadingTo_16 : decode cX2_leadingTo 16 = .ok (.getfield 9, 3) := by decide +kernel
theorem dX2_leadingTo_19 : decode cX2_leadingTo 19 = .ok (.iload_n 3, 1) := by decide +kernel
theorem dX2_leadingTo_20 : decode cX2_leadingTo 20 = .ok (.iaload, 1) := by decide +kernel
theorem dX2_leadingTo_21 : decode cX2_leadingTo 21 = .ok (.iload_n 1, 1) := by decide +kernel
theorem dX2_leadingTo_22 : decode cX2_leadingTo 22 = .ok (.iand, 1) := by decide +kernel
theorem dX2_leadingTo_23 : decode cX2_leadingTo 23 = .ok (.ifCond .eq 9, 3) := by decide +kernel
theorem dX2_leadingTo_26 : decode cX2_leadingTo 26 = .ok (.iload_n 2, 1) := by decide +kernel
theorem dX2_leadingTo_27 : decode cX2_leadingTo 27 = .ok (.iconst 1, 1) := by decide +kernel
theorem dX2_leadingTo_28 : decode cX2_leadingTo 28 = .ok (.iload_n 3, 1) := by decide +kernel
theorem dX2_leadingTo_29 : decode cX2_leadingTo 29 = .ok (.ishl, 1) := by decide +kernel
theorem dX2_leadingTo_30 : decode cX2_leadingTo 30 = .ok (.ior, 1) := by decide +kernel
theorem dX2_leadingTo_31 : decode cX2_leadingTo 31 = .ok (.istore_n 2, 1) := by decide +kernel
theorem dX2_leadingTo_32 : decode cX2_leadingTo 32 = .ok (.iinc 3 1, 3) := by decide +kernel
theorem dX2_leadingTo_35 : decode cX2_leadingTo 35 = .ok (.goto (-31), 3) := by decide +kernel
theorem dX2_leadingTo_38 : decode cX2_leadingTo 38 = .ok (.iload_n 2, 1) := by decide +kernel
theorem dX2_leadingTo_39 : decode cX2_leadingTo 39 = .ok (.ireturn, 1) := by decide +kernel
theorem dX2_shortestFrom_0 : decode cX2_shortestFrom 0 = .ok (.iconst 1, 1) := by decide +kernel
theorem dX2_shortestFrom_1 : decode cX2_shortestFrom 1 = .ok (.istore_n 2, 1) := by decide +kernel
theorem dX2_shortestFrom_2 : decode cX2_shortestFrom 2 = .ok (.iload_n 2, 1) := by decide +kernel
theorem dX2_shortestFrom_3 : decode cX2_shortestFrom 3 = .ok (.aload_n 0, 1) := by decide +kernel
theorem dX2_shortestFrom_4 : decode cX2_shortestFrom 4 = .ok (.getfield 24, 3) := by decide +kernel
theorem dX2_shortestFrom_7 : decode cX2_shortestFrom 7 = .ok (.getfield 51, 3) := by decide +kernel
theorem dX2_shortestFrom_10 : decode cX2_shortestFrom 10 = .ok (.if_icmp .gt 22, 3) := by decide +kernel
theorem dX2_shortestFrom_13 : decode cX2_shortestFrom 13 = .ok (.aload_n 0, 1) := by decide +kernel
theorem dX2_shortestFrom_14 : decode cX2_shortestFrom 14 = .ok (.getfield 15, 3) := by decide +kernel
theorem dX2_shortestFrom_17 : decode cX2_shortestFrom 17 = .ok (.iload_n 2, 1) := by decide +kernel
theorem dX2_shortestFrom_18 : decode cX2_shortestFrom 18 = .ok (.iaload, 1) := by decide +kernel
theorem dX2_shortestFrom_19 : decode cX2_shortestFrom 19 = .ok (.iload_n 1, 1) := by decide +kernel
theorem dX2_shortestFrom_20 : decode cX2_shortestFrom 20 = .ok (.iand, 1) := by decide +kernel
theorem dX2_shortestFrom_21 : decode cX2_shortestFrom 21 = .ok (.ifCond .eq 5, 3) := by decide +kernel
theorem dX2_shortestFrom_24 : decode cX2_shortestFrom 24 = .ok (.iload_n 2, 1) := by decide +kernel
theorem dX2_shortestFrom_25 : decode cX2_shortestFrom 25 = .ok (.ireturn, 1) := by decide +kernel
theorem dX2_shortestFrom_26 : decode cX2_shortestFrom 26 = .ok (.iinc 2 1, 3) := by decide +kernel
theorem dX2_shortestFrom_29 : decode cX2_shortestFrom 29 = .ok (.goto (-27), 3) := by decide +kernel
theorem dX2_shortestFrom_32 : decode cX2_shortestFrom 32 = .ok (.iconst 0, 1) := by decide +kernel
theorem dX2_shortestFrom_33 : decode cX2_shortestFrom 33 = .ok (.ireturn, 1) := by decide +kernel
theorem dX2_trace_0 : decode cX2_trace 0 = .ok (.iload_n 1, 1) := by decide +kernel
theorem dX2_trace_1 : decode cX2_trace 1 = .ok (.aload_n 0, 1) := by decide +kernel
theorem dX2_trace_2 : decode cX2_trace 2 = .ok (.getfield 15, 3) := by decide +kernel
theorem dX2_trace_5 : decode cX2_trace 5 = .ok (.aload_n 0, 1) := by decide +kernel
theorem dX2_trace_6 : decode cX2_trace 6 = .ok (.getfield 43, 3) := by decide +kernel
theorem dX2_trace_9 : decode cX2_trace 9 = .ok (.iaload, 1) := by decide +kernel
theorem dX2_trace_10 : decode cX2_trace 10 = .ok (.iand, 1) := by decide +kernel
theorem dX2_trace_11 : decode cX2_trace 11 = .ok (.invokestatic 69, 3) := by decide +kernel
theorem dX2_trace_14 : decode cX2_trace 14 = .ok (.istore_n 2, 1) := by decide +kernel
theorem dX2_trace_15 : decode cX2_trace 15 = .ok (.iconst 0, 1) := by decide +kernel
theorem dX2_trace_16 : decode cX2_trace 16 = .ok (.istore_n 3, 1) := by decide +kernel
theorem dX2_trace_17 : decode cX2_trace 17 = .ok (.iload_n 3, 1) := by decide +kernel
theorem dX2_trace_18 : decode cX2_trace 18 = .ok (.aload_n 0, 1) := by decide +kernel
theorem dX2_trace_19 : decode cX2_trace 19 = .ok (.getfield 43, 3) := by decide +kernel
theorem dX2_trace_22 : decode cX2_trace 22 = .ok (.iconst 1, 1) := by decide +kernel
theorem dX2_trace_23 : decode cX2_trace 23 = .ok (.isub, 1) := by decide +kernel
theorem dX2_trace_24 : decode cX2_trace 24 = .ok (.if_icmp .ge 78, 3) := by decide +kernel
theorem dX2_trace_27 : decode cX2_trace 27 = .ok (.iload_n 2, 1) := by decide +kernel
theorem dX2_trace_28 : decode cX2_trace 28 = .ok (.iconst (-1), 1) := by decide +kernel
theorem dX2_trace_29 : decode cX2_trace 29 = .ok (.if_icmp .eq 73, 3) := by decide +kernel
theorem dX2_trace_32 : decode cX2_trace 32 = .ok (.aload_n 0, 1) := by decide +kernel
theorem dX2_trace_33 : decode cX2_trace 33 = .ok (.getfield 15, 3) := by decide +kernel
theorem dX2_trace_36 : decode cX2_trace 36 = .ok (.aload_n 0, 1) := by decide +kernel
theorem dX2_trace_37 : decode cX2_trace 37 = .ok (.getfield 43, 3) := by decide +kernel
theorem dX2_trace_40 : decode cX2_trace 40 = .ok (.iload_n 3, 1) := by decide +kernel
theorem dX2_trace_41 : decode cX2_trace 41 = .ok (.isub, 1) := by decide +kernel
theorem dX2_trace_42 : decode cX2_trace 42 = .ok (.iconst 1, 1) := by decide +kernel
theorem dX2_trace_43 : decode cX2_trace 43 = .ok (.isub, 1) := by decide +kernel
theorem dX2_trace_44 : decode cX2_trace 44 = .ok (.iaload, 1) := by decide +kernel
theorem dX2_trace_45 : decode cX2_trace 45 = .ok (.istore 4, 2) := by decide +kernel
theorem dX2_trace_47 : decode cX2_trace 47 = .ok (.aload_n 0, 1) := by decide +kernel
theorem dX2_trace_48 : decode cX2_trace 48 = .ok (.iload_n 2, 1) := by decide +kernel
theorem dX2_trace_49 : decode cX2_trace 49 = .ok (.iload 4, 2) := by decide +kernel
theorem dX2_trace_51 : decode cX2_trace 51 = .ok (.invokevirtual 72, 3) := by decide +kernel
theorem dX2_trace_54 : decode cX2_trace 54 = .ok (.istore 5, 2) := by decide +kernel
theorem dX2_trace_56 : decode cX2_trace 56 = .ok (.iload 5, 2) := by decide +kernel
theorem dX2_trace_58 : decode cX2_trace 58 = .ok (.iconst (-1), 1) := by decide +kernel
theorem dX2_trace_59 : decode cX2_trace 59 = .ok (.if_icmp .ne 5, 3) := by decide +kernel
theorem dX2_trace_62 : decode cX2_trace 62 = .ok (.iconst 0, 1) := by decide +kernel
theorem dX2_trace_63 : decode cX2_trace 63 = .ok (.ireturn, 1) := by decide +kernel
theorem dX2_trace_64 : decode cX2_trace 64 = .ok (.aload_n 0, 1) := by decide +kernel
theorem dX2_trace_65 : decode cX2_trace 65 = .ok (.getfield 18, 3) := by decide +kernel
theorem dX2_trace_68 : decode cX2_trace 68 = .ok (.iload_n 3, 1) := by decide +kernel
theorem dX2_trace_69 : decode cX2_trace 69 = .ok (.iload_n 2, 1) := by decide +kernel
theorem dX2_trace_70 : decode cX2_trace 70 = .ok (.iastore, 1) := by decide +kernel
theorem dX2_trace_71 : decode cX2_trace 71 = .ok (.aload_n 0, 1) := by decide +kernel
theorem dX2_trace_72 : decode cX2_trace 72 = .ok (.getfield 21, 3) := by decide +kernel
theorem dX2_trace_75 : decode cX2_trace 75 = .ok (.iload_n 3, 1) := by decide +kernel
theorem dX2_trace_76 : decode cX2_trace 76 = .ok (.iload 5, 2) := by decide +kernel
theorem dX2_trace_78 : decode cX2_trace 78 = .ok (.iastore, 1) := by decide +kernel
theorem dX2_trace_79 : decode cX2_trace 79 = .ok (.aload_n 0, 1) := by decide +kernel
theorem dX2_trace_80 : decode cX2_trace 80 = .ok (.getfield 24, 3) := by decide +kernel
theorem dX2_trace_83 : decode cX2_trace 83 = .ok (.getfield 34, 3) := by decide +kernel
theorem dX2_trace_86 : decode cX2_trace 86 = .ok (.iload 5, 2) := by decide +kernel
theorem dX2_trace_88 : decode cX2_trace 88 = .ok (.iaload, 1) := by decide +kernel
theorem dX2_trace_89 : decode cX2_trace 89 = .ok (.iload 4, 2) := by decide +kernel
theorem dX2_trace_91 : decode cX2_trace 91 = .ok (.iand, 1) := by decide +kernel
theorem dX2_trace_92 : decode cX2_trace 92 = .ok (.invokestatic 69, 3) := by decide +kernel
theorem dX2_trace_95 : decode cX2_trace 95 = .ok (.istore_n 2, 1) := by decide +kernel
theorem dX2_trace_96 : decode cX2_trace 96 = .ok (.iinc 3 1, 3) := by decide +kernel
theorem dX2_trace_99 : decode cX2_trace 99 = .ok (.goto (-82), 3) := by decide +kernel
theorem dX2_trace_102 : decode cX2_trace 102 = .ok (.aload_n 0, 1) := by decide +kernel
theorem dX2_trace_103 : decode cX2_trace 103 = .ok (.getfield 43, 3) := by decide +kernel
theorem dX2_trace_106 : decode cX2_trace 106 = .ok (.ifCond .eq 8, 3) := by decide +kernel
theorem dX2_trace_109 : decode cX2_trace 109 = .ok (.iload_n 2, 1) := by decide +kernel
theorem dX2_trace_110 : decode cX2_trace 110 = .ok (.iconst (-1), 1) := by decide +kernel
theorem dX2_trace_111 : decode cX2_trace 111 = .ok (.if_icmp .ne 5, 3) := by decide +kernel
theorem dX2_trace_114 : decode cX2_trace 114 = .ok (.iconst 0, 1) := by decide +kernel
theorem dX2_trace_115 : decode cX2_trace 115 = .ok (.ireturn, 1) := by decide +kernel
theorem dX2_trace_116 : decode cX2_trace 116 = .ok (.aload_n 0, 1) := by decide +kernel
theorem dX2_trace_117 : decode cX2_trace 117 = .ok (.getfield 18, 3) := by decide +kernel
theorem dX2_trace_120 : decode cX2_trace 120 = .ok (.aload_n 0, 1) := by decide +kernel
theorem dX2_trace_121 : decode cX2_trace 121 = .ok (.getfield 43, 3) := by decide +kernel
theorem dX2_trace_124 : decode cX2_trace 124 = .ok (.iconst 1, 1) := by decide +kernel
theorem dX2_trace_125 : decode cX2_trace 125 = .ok (.isub, 1) := by decide +kernel
theorem dX2_trace_126 : decode cX2_trace 126 = .ok (.iload_n 2, 1) := by decide +kernel
theorem dX2_trace_127 : decode cX2_trace 127 = .ok (.iastore, 1) := by decide +kernel
theorem dX2_trace_128 : decode cX2_trace 128 = .ok (.iconst 1, 1) := by decide +kernel
theorem dX2_trace_129 : decode cX2_trace 129 = .ok (.ireturn, 1) := by decide +kernel
theorem dX2_firstMovable_0 : decode cX2_firstMovable 0 = .ok (.iconst 0, 1) := by decide +kernel
theorem dX2_firstMovable_1 : decode cX2_firstMovable 1 = .ok (.istore_n 3, 1) := by decide +kernel
theorem dX2_firstMovable_2 : decode cX2_firstMovable 2 = .ok (.iload_n 3, 1) := by decide +kernel
theorem dX2_firstMovable_3 : decode cX2_firstMovable 3 = .ok (.aload_n 0, 1) := by decide +kernel
theorem dX2_firstMovable_4 : decode cX2_firstMovable 4 = .ok (.getfield 24, 3) := by decide +kernel
theorem dX2_firstMovable_7 : decode cX2_firstMovable 7 = .ok (.getfield 54, 3) := by decide +kernel
theorem dX2_firstMovable_10 : decode cX2_firstMovable 10 = .ok (.if_icmp .ge 49, 3) := by decide +kernel
theorem dX2_firstMovable_13 : decode cX2_firstMovable 13 = .ok (.aload_n 0, 1) := by decide +kernel
theorem dX2_firstMovable_14 : decode cX2_firstMovable 14 = .ok (.getfield 24, 3) := by decide +kernel
theorem dX2_firstMovable_17 : decode cX2_firstMovable 17 = .ok (.getfield 60, 3) := by decide +kernel
theorem dX2_firstMovable_20 : decode cX2_firstMovable 20 = .ok (.iload_n 3, 1) := by decide +kernel
theorem dX2_firstMovable_21 : decode cX2_firstMovable 21 = .ok (.iaload, 1) := by decide +kernel
theorem dX2_firstMovable_22 : decode cX2_firstMovable 22 = .ok (.iload_n 1, 1) := by decide +kernel
theorem dX2_firstMovable_23 : decode cX2_firstMovable 23 = .ok (.if_icmp .ne 30, 3) := by decide +kernel
theorem dX2_firstMovable_26 : decode cX2_firstMovable 26 = .ok (.aload_n 0, 1) := by decide +kernel
theorem dX2_firstMovable_27 : decode cX2_firstMovable 27 = .ok (.getfield 24, 3) := by decide +kernel
theorem dX2_firstMovable_30 : decode cX2_firstMovable 30 = .ok (.iload_n 3, 1) := by decide +kernel
theorem dX2_firstMovable_31 : decode cX2_firstMovable 31 = .ok (.invokevirtual 57, 3) := by decide +kernel
theorem dX2_firstMovable_34 : decode cX2_firstMovable 34 = .ok (.ifCond .eq 19, 3) := by decide +kernel
theorem dX2_firstMovable_37 : decode cX2_firstMovable 37 = .ok (.aload_n 0, 1) := by decide +kernel
theorem dX2_firstMovable_38 : decode cX2_firstMovable 38 = .ok (.getfield 24, 3) := by decide +kernel
theorem dX2_firstMovable_41 : decode cX2_firstMovable 41 = .ok (.getfield 34, 3) := by decide +kernel
theorem dX2_firstMovable_44 : decode cX2_firstMovable 44 = .ok (.iload_n 3, 1) := by decide +kernel
theorem dX2_firstMovable_45 : decode cX2_firstMovable 45 = .ok (.iaload, 1) := by decide +kernel
theorem dX2_firstMovable_46 : decode cX2_firstMovable 46 = .ok (.iload_n 2, 1) := by decide +kernel
theorem dX2_firstMovable_47 : decode cX2_firstMovable 47 = .ok (.iand, 1) := by decide +kernel
theorem dX2_firstMovable_48 : decode cX2_firstMovable 48 = .ok (.ifCond .eq 5, 3) := by decide +kernel
theorem dX2_firstMovable_51 : decode cX2_firstMovable 51 = .ok (.iload_n 3, 1) := by decide +kernel
theorem dX2_firstMovable_52 : decode cX2_firstMovable 52 = .ok (.ireturn, 1) := by decide +kernel
theorem dX2_firstMovable_53 : decode cX2_firstMovable 53 = .ok (.iinc 3 1, 3) := by decide +kernel
theorem dX2_firstMovable_56 : decode cX2_firstMovable 56 = .ok (.goto (-54), 3) := by decide +kernel
theorem dX2_firstMovable_59 : decode cX2_firstMovable 59 = .ok (.iconst (-1), 1) := by decide +kernel
theorem dX2_firstMovable_60 : decode cX2_firstMovable 60 = .ok (.ireturn, 1) := by decide +kernel
end
section
theorem dX3_init_0 : decode cX3_init 0 = .ok (.aload_n 0, 1) := by decide +kernel
theorem dX3_init_1 : decode cX3_init 1 = .ok (.invokespecial 3, 3) := by decide +kernel
theorem dX3_init_4 : decode cX3_init 4 = .ok (.aload_n 0, 1) := by decide +kernel
theorem dX3_init_5 : decode cX3_init 5 = .ok (.bipush 40, 2) := by decide +kernel
theorem dX3_init_7 : decode cX3_init 7 = .ok (.newarray .boolean, 2) := by decide +kernel
theorem dX3_init_9 : decode cX3_init 9 = .ok (.putfield 9, 3) := by decide +kernel
theorem dX3_init_12 : decode cX3_init 12 = .ok (.aload_n 0, 1) := by decide +kernel
theorem dX3_init_13 : decode cX3_init 13 = .ok (.aload_n 1, 1) := by decide +kernel
theorem dX3_init_14 : decode cX3_init 14 = .ok (.putfield 15, 3) := by decide +kernel
theorem dX3_init_17 : decode cX3_init 17 = .ok (.aload_n 0, 1) := by decide +kernel
theorem dX3_init_18 : decode cX3_init 18 = .ok (.aload_n 2, 1) := by decide +kernel
theorem dX3_init_19 : decode cX3_init 19 = .ok (.putfield 19, 3) := by decide +kernel
theorem dX3_init_22 : decode cX3_init 22 = .ok (.aload_n 0, 1) := by decide +kernel
theorem dX3_init_23 : decode cX3_init 23 = .ok (.aload_n 3, 1) := by decide +kernel
theorem dX3_init_24 : decode cX3_init 24 = .ok (.putfield 23, 3) := by decide +kernel
theorem dX3_init_27 : decode cX3_init 27 = .ok (.return_, 1) := by decide +kernel
theorem dX3_runOnce_0 : decode cX3_runOnce 0 = .ok (.iconst 0, 1) := by decide +kernel
theorem dX3_runOnce_1 : decode cX3_runOnce 1 = .ok (.istore_n 1, 1) := by decide +kernel
theorem dX3_runOnce_2 : decode cX3_runOnce 2 = .ok (.iload_n 1, 1) := by decide +kernel
theorem dX3_runOnce_3 : decode cX3_runOnce 3 = .ok (.aload_n 0, 1) := by decide +kernel
theorem dX3_runOnce_4 : decode cX3_runOnce 4 = .ok (.getfield 15, 3) := by decide +kernel
theorem dX3_runOnce_7 : decode cX3_runOnce 7 = .ok (.getfield 27, 3) := by decide +kernel
theorem dX3_runOnce_10 : decode cX3_runOnce 10 = .ok (.if_icmp .ge 16, 3) := by decide +kernel
theorem dX3_runOnce_13 : decode cX3_runOnce 13 = .ok (.aload_n 0, 1) := by decide +kernel
theorem dX3_runOnce_14 : decode cX3_runOnce 14 = .ok (.getfield 9, 3) := by decide +kernel
theorem dX3_runOnce_17 : decode cX3_runOnce 17 = .ok (.iload_n 1, 1) := by decide +kernel
theorem dX3_runOnce_18 : decode cX3_runOnce 18 = .ok (.iconst 0, 1) := by decide +kernel
theorem dX3_runOnce_19 : decode cX3_runOnce 19 = .ok (.bastore, 1) := by decide +kernel
theorem dX3_runOnce_20 : decode cX3_runOnce 20 = .ok (.iinc 1 1, 3) := by decide +kernel
theorem dX3_runOnce_23 : decode cX3_runOnce 23 = .ok (.goto (-21), 3) := by decide +kernel
theorem dX3_runOnce_26 : decode cX3_runOnce 26 = .ok (.iconst 0, 1) := by decide +kernel
theorem dX3_runOnce_27 : decode cX3_runOnce 27 = .ok (.istore_n 1, 1) := by decide +kernel
theorem dX3_runOnce_28 : decode cX3_runOnce 28 = .ok (.iconst 0, 1) := by decide +kernel
theorem dX3_runOnce_29 : decode cX3_runOnce 29 = .ok (.istore_n 2, 1) := by decide +kernel
theorem dX3_runOnce_30 : decode cX3_runOnce 30 = .ok (.iload_n 2, 1) := by decide +kernel
theorem dX3_runOnce_31 : decode cX3_runOnce 31 = .ok (.aload_n 0, 1) := by decide +kernel
theorem dX3_runOnce_32 : decode cX3_runOnce 32 = .ok (.getfield 15, 3) := by decide +kernel
theorem dX3_runOnce_35 : decode cX3_runOnce 35 = .ok (.getfield 27, 3) := by decide +kernel
theorem dX3_runOnce_38 : decode cX3_runOnce 38 = .ok (.if_icmp .ge 40, 3) := by decide +kernel
theorem dX3_runOnce_41 : decode cX3_runOnce 41 = .ok (.aload_n 0, 1) := by decide +kernel
theorem dX3_runOnce_42 : decode cX3_runOnce 42 = .ok (.invokevirtual 33, 3) := by decide +kernel
theorem dX3_runOnce_45 : decode cX3_runOnce 45 = .ok (.istore_n 3, 1) := by decide +kernel
theorem dX3_runOnce_46 : decode cX3_runOnce 46 = .ok (.iload_n 3, 1) := by decide +kernel
theorem dX3_runOnce_47 : decode cX3_runOnce 47 = .ok (.iconst (-1), 1) := by decide +kernel
theorem dX3_runOnce_48 : decode cX3_runOnce 48 = .ok (.if_icmp .ne 6, 3) := by decide +kernel
theorem dX3_runOnce_51 : decode cX3_runOnce 51 = .ok (.goto 27, 3) := by decide +kernel
theorem dX3_runOnce_54 : decode cX3_runOnce 54 = .ok (.aload_n 0, 1) := by decide +kernel
theorem dX3_runOnce_55 : decode cX3_runOnce 55 = .ok (.getfield 9, 3) := by decide +kernel
theorem dX3_runOnce_58 : decode cX3_runOnce 58 = .ok (.iload_n 3, 1) := by decide +kernel
theorem dX3_runOnce_59 : decode cX3_runOnce 59 = .ok (.iconst 1, 1) := by decide +kernel
theorem dX3_runOnce_60 : decode cX3_runOnce 60 = .ok (.bastore, 1) := by decide +kernel
theorem dX3_runOnce_61 : decode cX3_runOnce 61 = .ok (.aload_n 0, 1) := by decide +kernel
theorem dX3_runOnce_62 : decode cX3_runOnce 62 = .ok (.iload_n 3, 1) := by decide +kernel
theorem dX3_runOnce_63 : decode cX3_runOnce 63 = .ok (.invokevirtual 37, 3) := by decide +kernel
theorem dX3_runOnce_66 : decode cX3_runOnce 66 = .ok (.ifCond .eq 6, 3) := by decide +kernel
theorem dX3_runOnce_69 : decode cX3_runOnce 69 = .ok (.iinc 1 1, 3) := by decide +kernel
theorem dX3_runOnce_72 : decode cX3_runOnce 72 = .ok (.iinc 2 1, 3) := by decide +kernel
theorem dX3_runOnce_75 : decode cX3_runOnce 75 = .ok (.goto (-45), 3) := by decide +kernel
theorem dX3_runOnce_78 : decode cX3_runOnce 78 = .ok (.iload_n 1, 1) := by decide +kernel
theorem dX3_runOnce_79 : decode cX3_runOnce 79 = .ok (.ireturn, 1) := by decide +kernel
theorem dX3_nextToTry_0 : decode cX3_nextToTry 0 = .ok (.iconst (-1), 1) := by decide +kernel
theorem dX3_nextToTry_1 : decode cX3_nextToTry 1 = .ok (.istore_n 1, 1) := by decide +kernel
theorem dX3_nextToTry_2 : decode cX3_nextToTry 2 = .ok (.iconst 0, 1) := by decide +kernel
theorem dX3_nextToTry_3 : decode cX3_nextToTry 3 = .ok (.istore_n 2, 1) := by decide +kernel
theorem dX3_nextToTry_4 : decode cX3_nextToTry 4 = .ok (.iload_n 2, 1) := by decide +kernel
theorem dX3_nextToTry_5 : decode cX3_nextToTry 5 = .ok (.aload_n 0, 1) := by decide +kernel
theorem dX3_nextToTry_6 : decode cX3_nextToTry 6 = .ok (.getfield 15, 3) := by decide +kernel
theorem dX3_nextToTry_9 : decode cX3_nextToTry 9 = .ok (.getfield 27, 3) := by decide +kernel
theorem dX3_nextToTry_12 : decode cX3_nextToTry 12 = .ok (.if_icmp .ge 61, 3) := by decide +kernel
theorem dX3_nextToTry_15 : decode cX3_nextToTry 15 = .ok (.aload_n 0, 1) := by decide +kernel
theorem dX3_nextToTry_16 : decode cX3_nextToTry 16 = .ok (.getfield 15, 3) := by decide +kernel
theorem dX3_nextToTry_19 : decode cX3_nextToTry 19 = .ok (.iload_n 2, 1) := by decide +kernel
theorem dX3_nextToTry_20 : decode cX3_nextToTry 20 = .ok (.invokevirtual 41, 3) := by decide +kernel
theorem dX3_nextToTry_23 : decode cX3_nextToTry 23 = .ok (.ifCond .eq 44, 3) := by decide +kernel
theorem dX3_nextToTry_26 : decode cX3_nextToTry 26 = .ok (.aload_n 0, 1) := by decide +kernel
theorem dX3_nextToTry_27 : decode cX3_nextToTry 27 = .ok (.getfield 9, 3) := by decide +kernel
theorem dX3_nextToTry_30 : decode cX3_nextToTry 30 = .ok (.iload_n 2, 1) := by decide +kernel
theorem dX3_nextToTry_31 : decode cX3_nextToTry 31 = .ok (.baload, 1) := by decide +kernel
theorem dX3_nextToTry_32 : decode cX3_nextToTry 32 = .ok (.ifCond .ne 35, 3) := by decide +kernel
theorem dX3_nextToTry_35 : decode cX3_nextToTry 35 = .ok (.iload_n 1, 1) := by decide +kernel
theorem dX3_nextToTry_36 : decode cX3_nextToTry 36 = .ok (.iconst (-1), 1) := by decide +kernel
theorem dX3_nextToTry_37 : decode cX3_nextToTry 37 = .ok (.if_icmp .eq 28, 3) := by decide +kernel
theorem dX3_nextToTry_40 : decode cX3_nextToTry 40 = .ok (.aload_n 0, 1) := by decide +kernel
theorem dX3_nextToTry_41 : decode cX3_nextToTry 41 = .ok (.aload_n 0, 1) := by decide +kernel
theorem dX3_nextToTry_42 : decode cX3_nextToTry 42 = .ok (.getfield 15, 3) := by decide +kernel
theorem dX3_nextToTry_45 : decode cX3_nextToTry 45 = .ok (.getfield 44, 3) := by decide +kernel
theorem dX3_nextToTry_48 : decode cX3_nextToTry 48 = .ok (.iload_n 2, 1) := by decide +kernel
theorem dX3_nextToTry_49 : decode cX3_nextToTry 49 = .ok (.iaload, 1) := by decide +kernel
theorem dX3_nextToTry_50 : decode cX3_nextToTry 50 = .ok (.aload_n 0, 1) := by decide +kernel
theorem dX3_nextToTry_51 : decode cX3_nextToTry 51 = .ok (.getfield 15, 3) := by decide +kernel
theorem dX3_nextToTry_54 : decode cX3_nextToTry 54 = .ok (.getfield 44, 3) := by decide +kernel
theorem dX3_nextToTry_57 : decode cX3_nextToTry 57 = .ok (.iload_n 1, 1) := by decide +kernel
theorem dX3_nextToTry_58 : decode cX3_nextToTry 58 = .ok (.iaload, 1) := by decide +kernel
theorem dX3_nextToTry_59 : decode cX3_nextToTry 59 = .ok (.invokevirtual 48, 3) := by decide +kernel
theorem dX3_nextToTry_62 : decode cX3_nextToTry 62 = .ok (.ifCond .eq 5, 3) := by decide +kernel
theorem dX3_nextToTry_65 : decode cX3_nextToTry 65 = .ok (.iload_n 2, 1) := by decide +kernel
theorem dX3_nextToTry_66 : decode cX3_nextToTry 66 = .ok (.istore_n 1, 1) := by decide +kernel
theorem dX3_nextToTry_67 : decode cX3_nextToTry 67 = .ok (.iinc 2 1, 3) := by decide +kernel
theorem dX3_nextToTry_70 : decode cX3_nextToTry 70 = .ok (.goto (-66), 3) := by decide +kernel
theorem dX3_nextToTry_73 : decode cX3_nextToTry 73 = .ok (.iload_n 1, 1) := by decide +kernel
theorem dX3_nextToTry_74 : decode cX3_nextToTry 74 = .ok (.ireturn, 1) := by decide +kernel
theorem dX3_isServedBefore_0 : decode cX3_isServedBefore 0 = .ok (.aload_n 0, 1) := by decide +kernel
theorem dX3_isServedBefore_1 : decode cX3_isServedBefore 1 = .ok (.getfield 15, 3) := by decide +kernel
theorem dX3_isServedBefore_4 : decode cX3_isServedBefore 4 = .ok (.getfield 52, 3) := by decide +kernel
theorem dX3_isServedBefore_7 : decode cX3_isServedBefore 7 = .ok (.iload_n 1, 1) := by decide +kernel
theorem dX3_isServedBefore_8 : decode cX3_isServedBefore 8 = .ok (.iaload, 1) := by decide +kernel
theorem dX3_isServedBefore_9 : decode cX3_isServedBefore 9 = .ok (.aload_n 0, 1) := by decide +kernel
theorem dX3_isServedBefore_10 : decode cX3_isServedBefore 10 = .ok (.getfield 15, 3) := by decide +kernel
theorem dX3_isServedBefore_13 : decode cX3_isServedBefore 13 = .ok (.getfield 55, 3) := by decide +kernel
theorem dX3_isServedBefore_16 : decode cX3_isServedBefore 16 = .ok (.iload_n 2, 1) := by decide +kernel
theorem dX3_isServedBefore_17 : decode cX3_isServedBefore 17 = .ok (.iaload, 1) := by decide +kernel
theorem dX3_isServedBefore_18 : decode cX3_isServedBefore 18 = .ok (.imul, 1) := by decide +kernel
theorem dX3_isServedBefore_19 : decode cX3_isServedBefore 19 = .ok (.istore_n 3, 1) := by decide +kernel
theorem dX3_isServedBefore_20 : decode cX3_isServedBefore 20 = .ok (.aload_n 0, 1) := by decide +kernel
theorem dX3_isServedBefore_21 : decode cX3_isServedBefore 21 = .ok (.getfield 15, 3) := by decide +kernel
theorem dX3_isServedBefore_24 : decode cX3_isServedBefore 24 = .ok (.getfield 52, 3) := by decide +kernel
theorem dX3_isServedBefore_27 : decode cX3_isServedBefore 27 = .ok (.iload_n 2, 1) := by decide +kernel
theorem dX3_isServedBefore_28 : decode cX3_isServedBefore 28 = .ok (.iaload, 1) := by decide +kernel
theorem dX3_isServedBefore_29 : decode cX3_isServedBefore 29 = .ok (.aload_n 0, 1) := by decide +kernel
theorem dX3_isServedBefore_30 : decode cX3_isServedBefore 30 = .ok (.getfield 15, 3) := by decide +kernel
theorem dX3_isServedBefore_33 : decode cX3_isServedBefore 33 = .ok (.getfield 55, 3) := by decide +kernel
theorem dX3_isServedBefore_36 : decode cX3_isServedBefore 36 = .ok (.iload_n 1, 1) := by decide +kernel
theorem dX3_isServedBefore_37 : decode cX3_isServedBefore 37 = .ok (.iaload, 1) := by decide +kernel
theorem dX3_isServedBefore_38 : decode cX3_isServedBefore 38 = .ok (.imul, 1) := by decide +kernel
theorem dX3_isServedBefore_39 : decode cX3_isServedBefore 39 = .ok (.istore 4, 2) := by decide +kernel
theorem dX3_isServedBefore_41 : decode cX3_isServedBefore 41 = .ok (.iload_n 3, 1) := by decide +kernel
theorem dX3_isServedBefore_42 : decode cX3_isServedBefore 42 = .ok (.iload 4, 2) := by decide +kernel
theorem dX3_isServedBefore_44 : decode cX3_isServedBefore 44 = .ok (.if_icmp .lt 14, 3) := by decide +kernel
theorem dX3_isServedBefore_47 : decode cX3_isServedBefore 47 = .ok (.iload_n 3, 1) := by decide +kernel
theorem dX3_isServedBefore_48 : decode cX3_isServedBefore 48 = .ok (.iload 4, 2) := by decide +kernel
theorem dX3_isServedBefore_50 : decode cX3_isServedBefore 50 = .ok (.if_icmp .ne 12, 3) := by decide +kernel
theorem dX3_isServedBefore_53 : decode cX3_isServedBefore 53 = .ok (.iload_n 1, 1) := by decide +kernel
theorem dX3_isServedBefore_54 : decode cX3_isServedBefore 54 = .ok (.iload_n 2, 1) := by decide +kernel
theorem dX3_isServedBefore_55 : decode cX3_isServedBefore 55 = .ok (.if_icmp .ge 7, 3) := by decide +kernel
theorem dX3_isServedBefore_58 : decode cX3_isServedBefore 58 = .ok (.iconst 1, 1) := by decide +kernel
theorem dX3_isServedBefore_59 : decode cX3_isServedBefore 59 = .ok (.goto 4, 3) := by decide +kernel
theorem dX3_isServedBefore_62 : decode cX3_isServedBefore 62 = .ok (.iconst 0, 1) := by decide +kernel
theorem dX3_isServedBefore_63 : decode cX3_isServedBefore 63 = .ok (.ireturn, 1) := by decide +kernel
theorem dX3_tryToPlace_0 : decode cX3_tryToPlace 0 = .ok (.aload_n 0, 1) := by decide +kernel
theorem dX3_tryToPlace_1 : decode cX3_tryToPlace 1 = .ok (.getfield 15, 3) := by decide +kernel
theorem dX3_tryToPlace_4 : decode cX3_tryToPlace 4 = .ok (.aload_n 0, 1) := by decide +kernel
theorem dX3_tryToPlace_5 : decode cX3_tryToPlace 5 = .ok (.getfield 15, 3) := by decide +kernel
theorem dX3_tryToPlace_8 : decode cX3_tryToPlace 8 = .ok (.getfield 44, 3) := by decide +kernel
theorem dX3_tryToPlace_11 : decode cX3_tryToPlace 11 = .ok (.iload_n 1, 1) := by decide +kernel
theorem dX3_tryToPlace_12 : decode cX3_tryToPlace 12 = .ok (.iaload, 1) := by decide +kernel
theorem dX3_tryToPlace_13 : decode cX3_tryToPlace 13 = .ok (.invokevirtual 58, 3) := by decide +kernel
theorem dX3_tryToPlace_16 : decode cX3_tryToPlace 16 = .ok (.ifCond .ne 5, 3) := by decide +kernel
theorem dX3_tryToPlace_19 : decode cX3_tryToPlace 19 = .ok (.iconst 0, 1) := by decide +kernel
theorem dX3_tryToPlace_20 : decode cX3_tryToPlace 20 = .ok (.ireturn, 1) := by decide +kernel
theorem dX3_tryToPlace_21 : decode cX3_tryToPlace 21 = .ok (.aload_n 0, 1) := by decide +kernel
theorem dX3_tryToPlace_22 : decode cX3_tryToPlace 22 = .ok (.getfield 19, 3) := by decide +kernel
theorem dX3_tryToPlace_25 : decode cX3_tryToPlace 25 = .ok (.iload_n 1, 1) := by decide +kernel
theorem dX3_tryToPlace_26 : decode cX3_tryToPlace 26 = .ok (.invokevirtual 61, 3) := by decide +kernel
theorem dX3_tryToPlace_29 : decode cX3_tryToPlace 29 = .ok (.istore_n 2, 1) := by decide +kernel
theorem dX3_tryToPlace_30 : decode cX3_tryToPlace 30 = .ok (.iload_n 2, 1) := by decide +kernel
theorem dX3_tryToPlace_31 : decode cX3_tryToPlace 31 = .ok (.ifCond .eq 16, 3) := by decide +kernel
theorem dX3_tryToPlace_34 : decode cX3_tryToPlace 34 = .ok (.iload_n 2, 1) := by decide +kernel
theorem dX3_tryToPlace_35 : decode cX3_tryToPlace 35 = .ok (.iconst 1, 1) := by decide +kernel
theorem dX3_tryToPlace_36 : decode cX3_tryToPlace 36 = .ok (.isub, 1) := by decide +kernel
theorem dX3_tryToPlace_37 : decode cX3_tryToPlace 37 = .ok (.aload_n 0, 1) := by decide +kernel
theorem dX3_tryToPlace_38 : decode cX3_tryToPlace 38 = .ok (.getfield 15, 3) := by decide +kernel
theorem dX3_tryToPlace_41 : decode cX3_tryToPlace 41 = .ok (.getfield 67, 3) := by decide +kernel
theorem dX3_tryToPlace_44 : decode cX3_tryToPlace 44 = .ok (.if_icmp .le 5, 3) := by decide +kernel
theorem dX3_tryToPlace_47 : decode cX3_tryToPlace 47 = .ok (.iconst 0, 1) := by decide +kernel
theorem dX3_tryToPlace_48 : decode cX3_tryToPlace 48 = .ok (.ireturn, 1) := by decide +kernel
theorem dX3_tryToPlace_49 : decode cX3_tryToPlace 49 = .ok (.aload_n 0, 1) := by decide +kernel
theorem dX3_tryToPlace_50 : decode cX3_tryToPlace 50 = .ok (.iload_n 1, 1) := by decide +kernel
theorem dX3_tryToPlace_51 : decode cX3_tryToPlace 51 = .ok (.invokevirtual 70, 3) := by decide +kernel
theorem dX3_tryToPlace_54 : decode cX3_tryToPlace 54 = .ok (.iconst 1, 1) := by decide +kernel
theorem dX3_tryToPlace_55 : decode cX3_tryToPlace 55 = .ok (.ireturn, 1) := by decide +kernel
theorem dX3_placeAlongPath_0 : decode cX3_placeAlongPath 0 = .ok (.aload_n 0, 1) := by decide +kernel
theorem dX3_placeAlongPath_1 : decode cX3_placeAlongPath 1 = .ok (.getfield 15, 3) := by decide +kernel
theorem dX3_placeAlongPath_4 : decode cX3_placeAlongPath 4 = .ok (.iload_n 1, 1) := by decide +kernel
theorem dX3_placeAlongPath_5 : decode cX3_placeAlongPath 5 = .ok (.aload_n 0, 1) := by decide +kernel
theorem dX3_placeAlongPath_6 : decode cX3_placeAlongPath 6 = .ok (.getfield 19, 3) := by decide +kernel
theorem dX3_placeAlongPath_9 : decode cX3_placeAlongPath 9 = .ok (.getfield 74, 3) := by decide +kernel
theorem dX3_placeAlongPath_12 : decode cX3_placeAlongPath 12 = .ok (.iconst 0, 1) := by decide +kernel
theorem dX3_placeAlongPath_13 : decode cX3_placeAlongPath 13 = .ok (.iaload, 1) := by decide +kernel
theorem dX3_placeAlongPath_14 : decode cX3_placeAlongPath 14 = .ok (.invokevirtual 77, 3) := by decide +kernel
theorem dX3_placeAlongPath_17 : decode cX3_placeAlongPath 17 = .ok (.iconst 0, 1) := by decide +kernel
theorem dX3_placeAlongPath_18 : decode cX3_placeAlongPath 18 = .ok (.istore_n 2, 1) := by decide +kernel
theorem dX3_placeAlongPath_19 : decode cX3_placeAlongPath 19 = .ok (.iload_n 2, 1) := by decide +kernel
theorem dX3_placeAlongPath_20 : decode cX3_placeAlongPath 20 = .ok (.aload_n 0, 1) := by decide +kernel
theorem dX3_placeAlongPath_21 : decode cX3_placeAlongPath 21 = .ok (.getfield 19, 3) := by decide +kernel
theorem dX3_placeAlongPath_24 : decode cX3_placeAlongPath 24 = .ok (.getfield 81, 3) := by decide +kernel
theorem dX3_placeAlongPath_27 : decode cX3_placeAlongPath 27 = .ok (.iconst 1, 1) := by decide +kernel
theorem dX3_placeAlongPath_28 : decode cX3_placeAlongPath 28 = .ok (.isub, 1) := by decide +kernel
theorem dX3_placeAlongPath_29 : decode cX3_placeAlongPath 29 = .ok (.if_icmp .ge 52, 3) := by decide +kernel
theorem dX3_placeAlongPath_32 : decode cX3_placeAlongPath 32 = .ok (.aload_n 0, 1) := by decide +kernel
theorem dX3_placeAlongPath_33 : decode cX3_placeAlongPath 33 = .ok (.getfield 19, 3) := by decide +kernel
theorem dX3_placeAlongPath_36 : decode cX3_placeAlongPath 36 = .ok (.getfield 84, 3) := by decide +kernel
theorem dX3_placeAlongPath_39 : decode cX3_placeAlongPath 39 = .ok (.iload_n 2, 1) := by decide +kernel
theorem dX3_placeAlongPath_40 : decode cX3_placeAlongPath 40 = .ok (.iaload, 1) := by decide +kernel
theorem dX3_placeAlongPath_41 : decode cX3_placeAlongPath 41 = .ok (.istore_n 3, 1) := by decide +kernel
theorem dX3_placeAlongPath_42 : decode cX3_placeAlongPath 42 = .ok (.aload_n 0, 1) := by decide +kernel
theorem dX3_placeAlongPath_43 : decode cX3_placeAlongPath 43 = .ok (.getfield 19, 3) := by decide +kernel
theorem dX3_placeAlongPath_46 : decode cX3_placeAlongPath 46 = .ok (.getfield 74, 3) := by decide +kernel
theorem dX3_placeAlongPath_49 : decode cX3_placeAlongPath 49 = .ok (.iload_n 2, 1) := by decide +kernel
theorem dX3_placeAlongPath_50 : decode cX3_placeAlongPath 50 = .ok (.iconst 1, 1) := by decide +kernel
theorem dX3_placeAlongPath_51 : decode cX3_placeAlongPath 51 = .ok (.iadd, 1) := by decide +kernel
theorem dX3_placeAlongPath_52 : decode cX3_placeAlongPath 52 = .ok (.iaload, 1) := by decide +kernel
theorem dX3_placeAlongPath_53 : decode cX3_placeAlongPath 53 = .ok (.istore 4, 2) := by decide +kernel
theorem dX3_placeAlongPath_55 : decode cX3_placeAlongPath 55 = .ok (.aload_n 0, 1) := by decide +kernel
theorem dX3_placeAlongPath_56 : decode cX3_placeAlongPath 56 = .ok (.getfield 15, 3) := by decide +kernel
theorem dX3_placeAlongPath_59 : decode cX3_placeAlongPath 59 = .ok (.iload_n 3, 1) := by decide +kernel
theorem dX3_placeAlongPath_60 : decode cX3_placeAlongPath 60 = .ok (.iload 4, 2) := by decide +kernel
theorem dX3_placeAlongPath_62 : decode cX3_placeAlongPath 62 = .ok (.invokevirtual 87, 3) := by decide +kernel
theorem dX3_placeAlongPath_65 : decode cX3_placeAlongPath 65 = .ok (.aload_n 0, 1) := by decide +kernel
theorem dX3_placeAlongPath_66 : decode cX3_placeAlongPath 66 = .ok (.getfield 23, 3) := by decide +kernel
theorem dX3_placeAlongPath_69 : decode cX3_placeAlongPath 69 = .ok (.iload_n 3, 1) := by decide +kernel
theorem dX3_placeAlongPath_70 : decode cX3_placeAlongPath 70 = .ok (.iload 4, 2) := by decide +kernel
theorem dX3_placeAlongPath_72 : decode cX3_placeAlongPath 72 = .ok (.invokevirtual 90, 3) := by decide +kernel
theorem dX3_placeAlongPath_75 : decode cX3_placeAlongPath 75 = .ok (.iinc 2 1, 3) := by decide +kernel
theorem dX3_placeAlongPath_78 : decode cX3_placeAlongPath 78 = .ok (.goto (-59), 3) := by decide +kernel
theorem dX3_placeAlongPath_81 : decode cX3_placeAlongPath 81 = .ok (.return_, 1) := by decide +kernel
end
section
theorem dX4_init_0 : decode cX4_init 0 = .ok (.aload_n 0, 1) := by decide +kernel
theorem dX4_init_1 : decode cX4_init 1 = .ok (.invokespecial 3, 3) := by decide +kernel
theorem dX4_init_4 : decode cX4_init 4 = .ok (.aload_n 0, 1) := by decide +kernel
theorem dX4_init_5 : decode cX4_init 5 = .ok (.bipush 12, 2) := by decide +kernel
theorem dX4_init_7 : decode cX4_init 7 = .ok (.newarray .int, 2) := by decide +kernel
theorem dX4_init_9 : decode cX4_init 9 = .ok (.putfield 9, 3) := by decide +kernel
theorem dX4_init_12 : decode cX4_init 12 = .ok (.aload_n 0, 1) := by decide +kernel
theorem dX4_init_13 : decode cX4_init 13 = .ok (.bipush 12, 2) := by decide +kernel
theorem dX4_init_15 : decode cX4_init 15 = .ok (.newarray .int, 2) := by decide +kernel
theorem dX4_init_17 : decode cX4_init 17 = .ok (.putfield 15, 3) := by decide +kernel
theorem dX4_init_20 : decode cX4_init 20 = .ok (.aload_n 0, 1) := by decide +kernel
theorem dX4_init_21 : decode cX4_init 21 = .ok (.iconst 4, 1) := by decide +kernel
theorem dX4_init_22 : decode cX4_init 22 = .ok (.newarray .int, 2) := by decide +kernel
theorem dX4_init_24 : decode cX4_init 24 = .ok (.putfield 18, 3) := by decide +kernel
theorem dX4_init_27 : decode cX4_init 27 = .ok (.aload_n 0, 1) := by decide +kernel
theorem dX4_init_28 : decode cX4_init 28 = .ok (.iconst 4, 1) := by decide +kernel
theorem dX4_init_29 : decode cX4_init 29 = .ok (.newarray .int, 2) := by decide +kernel
theorem dX4_init_31 : decode cX4_init 31 = .ok (.putfield 21, 3) := by decide +kernel
theorem dX4_init_34 : decode cX4_init 34 = .ok (.aload_n 0, 1) := by decide +kernel
theorem dX4_init_35 : decode cX4_init 35 = .ok (.iconst 4, 1) := by decide +kernel
theorem dX4_init_36 : decode cX4_init 36 = .ok (.newarray .int, 2) := by decide +kernel
theorem dX4_init_38 : decode cX4_init 38 = .ok (.putfield 24, 3) := by decide +kernel
theorem dX4_init_41 : decode cX4_init 41 = .ok (.aload_n 0, 1) := by decide +kernel
theorem dX4_init_42 : decode cX4_init 42 = .ok (.bipush 40, 2) := by decide +kernel
theorem dX4_init_44 : decode cX4_init 44 = .ok (.newarray .int, 2) := by decide +kernel
theorem dX4_init_46 : decode cX4_init 46 = .ok (.putfield 27, 3) := by decide +kernel
theorem dX4_init_49 : decode cX4_init 49 = .ok (.aload_n 0, 1) := by decide +kernel
theorem dX4_init_50 : decode cX4_init 50 = .ok (.bipush 40, 2) := by decide +kernel
theorem dX4_init_52 : decode cX4_init 52 = .ok (.newarray .int, 2) := by decide +kernel
theorem dX4_init_54 : decode cX4_init 54 = .ok (.putfield 30, 3) := by decide +kernel
theorem dX4_init_57 : decode cX4_init 57 = .ok (.aload_n 0, 1) := by decide +kernel
theorem dX4_init_58 : decode cX4_init 58 = .ok (.bipush 40, 2) := by decide +kernel
theorem dX4_init_60 : decode cX4_init 60 = .ok (.newarray .int, 2) := by decide +kernel
theorem dX4_init_62 : decode cX4_init 62 = .ok (.putfield 33, 3) := by decide +kernel
theorem dX4_init_65 : decode cX4_init 65 = .ok (.aload_n 0, 1) := by decide +kernel
theorem dX4_init_66 : decode cX4_init 66 = .ok (.bipush 40, 2) := by decide +kernel
theorem dX4_init_68 : decode cX4_init 68 = .ok (.newarray .int, 2) := by decide +kernel
theorem dX4_init_70 : decode cX4_init 70 = .ok (.putfield 36, 3) := by decide +kernel
theorem dX4_init_73 : decode cX4_init 73 = .ok (.aload_n 0, 1) := by decide +kernel
theorem dX4_init_74 : decode cX4_init 74 = .ok (.iconst 2, 1) := by decide +kernel
theorem dX4_init_75 : decode cX4_init 75 = .ok (.putfield 39, 3) := by decide +kernel
theorem dX4_init_78 : decode cX4_init 78 = .ok (.aload_n 0, 1) := by decide +kernel
theorem dX4_init_79 : decode cX4_init 79 = .ok (.iconst 3, 1) := by decide +kernel
theorem dX4_init_80 : decode cX4_init 80 = .ok (.putfield 43, 3) := by decide +kernel
theorem dX4_init_83 : decode cX4_init 83 = .ok (.iconst 0, 1) := by decide +kernel
theorem dX4_init_84 : decode cX4_init 84 = .ok (.istore_n 1, 1) := by decide +kernel
theorem dX4_init_85 : decode cX4_init 85 = .ok (.iload_n 1, 1) := by decide +kernel
theorem dX4_init_86 : decode cX4_init 86 = .ok (.iconst 4, 1) := by decide +kernel
theorem dX4_init_87 : decode cX4_init 87 = .ok (.if_icmp .ge 24, 3) := by decide +kernel
theorem dX4_init_90 : decode cX4_init 90 = .ok (.aload_n 0, 1) := by decide +kernel
theorem dX4_init_91 : decode cX4_init 91 = .ok (.getfield 18, 3) := by decide +kernel
theorem dX4_init_94 : decode cX4_init 94 = .ok (.iload_n 1, 1) := by decide +kernel
theorem dX4_init_95 : decode cX4_init 95 = .ok (.bipush 40, 2) := by decide +kernel
theorem dX4_init_97 : decode cX4_init 97 = .ok (.iastore, 1) := by decide +kernel
theorem dX4_init_98 : decode cX4_init 98 = .ok (.aload_n 0, 1) := by decide +kernel
theorem dX4_init_99 : decode cX4_init 99 = .ok (.getfield 21, 3) := by decide +kernel
theorem dX4_init_102 : decode cX4_init 102 = .ok (.iload_n 1, 1) := by decide +kernel
theorem dX4_init_103 : decode cX4_init 103 = .ok (.iconst 1, 1) := by decide +kernel
theorem dX4_init_104 : decode cX4_init 104 = .ok (.iastore, 1) := by decide +kernel
theorem dX4_init_105 : decode cX4_init 105 = .ok (.iinc 1 1, 3) := by decide +kernel
theorem dX4_init_108 : decode cX4_init 108 = .ok (.goto (-23), 3) := by decide +kernel
theorem dX4_init_111 : decode cX4_init 111 = .ok (.return_, 1) := by decide +kernel
theorem dX4_maskOfAll_0 : decode cX4_maskOfAll 0 = .ok (.iconst 1, 1) := by decide +kernel
theorem dX4_maskOfAll_1 : decode cX4_maskOfAll 1 = .ok (.aload_n 0, 1) := by decide +kernel
theorem dX4_maskOfAll_2 : decode cX4_maskOfAll 2 = .ok (.getfield 46, 3) := by decide +kernel
theorem dX4_maskOfAll_5 : decode cX4_maskOfAll 5 = .ok (.ishl, 1) := by decide +kernel
theorem dX4_maskOfAll_6 : decode cX4_maskOfAll 6 = .ok (.iconst 1, 1) := by decide +kernel
theorem dX4_maskOfAll_7 : decode cX4_maskOfAll 7 = .ok (.isub, 1) := by decide +kernel
theorem dX4_maskOfAll_8 : decode cX4_maskOfAll 8 = .ok (.ireturn, 1) := by decide +kernel
theorem dX4_isWaiting_0 : decode cX4_isWaiting 0 = .ok (.aload_n 0, 1) := by decide +kernel
theorem dX4_isWaiting_1 : decode cX4_isWaiting 1 = .ok (.getfield 33, 3) := by decide +kernel
theorem dX4_isWaiting_4 : decode cX4_isWaiting 4 = .ok (.iload_n 1, 1) := by decide +kernel
theorem dX4_isWaiting_5 : decode cX4_isWaiting 5 = .ok (.iaload, 1) := by decide +kernel
theorem dX4_isWaiting_6 : decode cX4_isWaiting 6 = .ok (.iconst (-1), 1) := by decide +kernel
theorem dX4_isWaiting_7 : decode cX4_isWaiting 7 = .ok (.if_icmp .ne 7, 3) := by decide +kernel
theorem dX4_isWaiting_10 : decode cX4_isWaiting 10 = .ok (.iconst 1, 1) := by decide +kernel
theorem dX4_isWaiting_11 : decode cX4_isWaiting 11 = .ok (.goto 4, 3) := by decide +kernel
theorem dX4_isWaiting_14 : decode cX4_isWaiting 14 = .ok (.iconst 0, 1) := by decide +kernel
theorem dX4_isWaiting_15 : decode cX4_isWaiting 15 = .ok (.ireturn, 1) := by decide +kernel
theorem dX4_isAssigned_0 : decode cX4_isAssigned 0 = .ok (.aload_n 0, 1) := by decide +kernel
theorem dX4_isAssigned_1 : decode cX4_isAssigned 1 = .ok (.getfield 33, 3) := by decide +kernel
theorem dX4_isAssigned_4 : decode cX4_isAssigned 4 = .ok (.iload_n 1, 1) := by decide +kernel
theorem dX4_isAssigned_5 : decode cX4_isAssigned 5 = .ok (.iaload, 1) := by decide +kernel
theorem dX4_isAssigned_6 : decode cX4_isAssigned 6 = .ok (.ifCond .lt 7, 3) := by decide +kernel
theorem dX4_isAssigned_9 : decode cX4_isAssigned 9 = .ok (.iconst 1, 1) := by decide +kernel
theorem dX4_isAssigned_10 : decode cX4_isAssigned 10 = .ok (.goto 4, 3) := by decide +kernel
theorem dX4_isAssigned_13 : decode cX4_isAssigned 13 = .ok (.iconst 0, 1) := by decide +kernel
theorem dX4_isAssigned_14 : decode cX4_isAssigned 14 = .ok (.ireturn, 1) := by decide +kernel
theorem dX4_isDeparted_0 : decode cX4_isDeparted 0 = .ok (.aload_n 0, 1) := by decide +kernel
theorem dX4_isDeparted_1 : decode cX4_isDeparted 1 = .ok (.getfield 33, 3) := by decide +kernel
theorem dX4_isDeparted_4 : decode cX4_isDeparted 4 = .ok (.iload_n 1, 1) := by decide +kernel
theorem dX4_isDeparted_5 : decode cX4_isDeparted 5 = .ok (.iaload, 1) := by decide +kernel
theorem dX4_isDeparted_6 : decode cX4_isDeparted 6 = .ok (.bipush (-2), 2) := by decide +kernel
theorem dX4_isDeparted_8 : decode cX4_isDeparted 8 = .ok (.if_icmp .ne 7, 3) := by decide +kernel
theorem dX4_isDeparted_11 : decode cX4_isDeparted 11 = .ok (.iconst 1, 1) := by decide +kernel
theorem dX4_isDeparted_12 : decode cX4_isDeparted 12 = .ok (.goto 4, 3) := by decide +kernel
theorem dX4_isDeparted_15 : decode cX4_isDeparted 15 = .ok (.iconst 0, 1) := by decide +kernel
theorem dX4_isDeparted_16 : decode cX4_isDeparted 16 = .ok (.ireturn, 1) := by decide +kernel
theorem dX4_stateNumber_0 : decode cX4_stateNumber 0 = .ok (.aload_n 0, 1) := by decide +kernel
theorem dX4_stateNumber_1 : decode cX4_stateNumber 1 = .ok (.iload_n 1, 1) := by decide +kernel
theorem dX4_stateNumber_2 : decode cX4_stateNumber 2 = .ok (.invokevirtual 49, 3) := by decide +kernel
theorem dX4_stateNumber_5 : decode cX4_stateNumber 5 = .ok (.ifCond .eq 5, 3) := by decide +kernel
theorem dX4_stateNumber_8 : decode cX4_stateNumber 8 = .ok (.iconst 0, 1) := by decide +kernel
theorem dX4_stateNumber_9 : decode cX4_stateNumber 9 = .ok (.ireturn, 1) := by decide +kernel
theorem dX4_stateNumber_10 : decode cX4_stateNumber 10 = .ok (.aload_n 0, 1) := by decide +kernel
theorem dX4_stateNumber_11 : decode cX4_stateNumber 11 = .ok (.iload_n 1, 1) := by decide +kernel
theorem dX4_stateNumber_12 : decode cX4_stateNumber 12 = .ok (.invokevirtual 53, 3) := by decide +kernel
theorem dX4_stateNumber_15 : decode cX4_stateNumber 15 = .ok (.ifCond .eq 7, 3) := by decide +kernel
theorem dX4_stateNumber_18 : decode cX4_stateNumber 18 = .ok (.iconst 1, 1) := by decide +kernel
theorem dX4_stateNumber_19 : decode cX4_stateNumber 19 = .ok (.goto 4, 3) := by decide +kernel
theorem dX4_stateNumber_22 : decode cX4_stateNumber 22 = .ok (.iconst 2, 1) := by decide +kernel
theorem dX4_stateNumber_23 : decode cX4_stateNumber 23 = .ok (.ireturn, 1) := by decide +kernel
theorem dX4_canBeMoved_0 : decode cX4_canBeMoved 0 = .ok (.aload_n 0, 1) := by decide +kernel
theorem dX4_canBeMoved_1 : decode cX4_canBeMoved 1 = .ok (.getfield 33, 3) := by decide +kernel
theorem dX4_canBeMoved_4 : decode cX4_canBeMoved 4 = .ok (.iload_n 1, 1) := by decide +kernel
theorem dX4_canBeMoved_5 : decode cX4_canBeMoved 5 = .ok (.iaload, 1) := by decide +kernel
theorem dX4_canBeMoved_6 : decode cX4_canBeMoved 6 = .ok (.ifCond .lt 20, 3) := by decide +kernel
theorem dX4_canBeMoved_9 : decode cX4_canBeMoved 9 = .ok (.aload_n 0, 1) := by decide +kernel
theorem dX4_canBeMoved_10 : decode cX4_canBeMoved 10 = .ok (.getfield 36, 3) := by decide +kernel
theorem dX4_canBeMoved_13 : decode cX4_canBeMoved 13 = .ok (.iload_n 1, 1) := by decide +kernel
theorem dX4_canBeMoved_14 : decode cX4_canBeMoved 14 = .ok (.iaload, 1) := by decide +kernel
theorem dX4_canBeMoved_15 : decode cX4_canBeMoved 15 = .ok (.aload_n 0, 1) := by decide +kernel
theorem dX4_canBeMoved_16 : decode cX4_canBeMoved 16 = .ok (.getfield 43, 3) := by decide +kernel
theorem dX4_canBeMoved_19 : decode cX4_canBeMoved 19 = .ok (.if_icmp .ge 7, 3) := by decide +kernel
theorem dX4_canBeMoved_22 : decode cX4_canBeMoved 22 = .ok (.iconst 1, 1) := by decide +kernel
theorem dX4_canBeMoved_23 : decode cX4_canBeMoved 23 = .ok (.goto 4, 3) := by decide +kernel
theorem dX4_canBeMoved_26 : decode cX4_canBeMoved 26 = .ok (.iconst 0, 1) := by decide +kernel
theorem dX4_canBeMoved_27 : decode cX4_canBeMoved 27 = .ok (.ireturn, 1) := by decide +kernel
theorem dX4_resourceHasRoom_0 : decode cX4_resourceHasRoom 0 = .ok (.aload_n 0, 1) := by decide +kernel
theorem dX4_resourceHasRoom_1 : decode cX4_resourceHasRoom 1 = .ok (.getfield 15, 3) := by decide +kernel
theorem dX4_resourceHasRoom_4 : decode cX4_resourceHasRoom 4 = .ok (.iload_n 1, 1) := by decide +kernel
theorem dX4_resourceHasRoom_5 : decode cX4_resourceHasRoom 5 = .ok (.iaload, 1) := by decide +kernel
theorem dX4_resourceHasRoom_6 : decode cX4_resourceHasRoom 6 = .ok (.aload_n 0, 1) := by decide +kernel
theorem dX4_resourceHasRoom_7 : decode cX4_resourceHasRoom 7 = .ok (.getfield 9, 3) := by decide +kernel
theorem dX4_resourceHasRoom_10 : decode cX4_resourceHasRoom 10 = .ok (.iload_n 1, 1) := by decide +kernel
theorem dX4_resourceHasRoom_11 : decode cX4_resourceHasRoom 11 = .ok (.iaload, 1) := by decide +kernel
theorem dX4_resourceHasRoom_12 : decode cX4_resourceHasRoom 12 = .ok (.if_icmp .ge 7, 3) := by decide +kernel
theorem dX4_resourceHasRoom_15 : decode cX4_resourceHasRoom 15 = .ok (.iconst 1, 1) := by decide +kernel
theorem dX4_resourceHasRoom_16 : decode cX4_resourceHasRoom 16 = .ok (.goto 4, 3) := by decide +kernel
theorem dX4_resourceHasRoom_19 : decode cX4_resourceHasRoom 19 = .ok (.iconst 0, 1) := by decide +kernel
theorem dX4_resourceHasRoom_20 : decode cX4_resourceHasRoom 20 = .ok (.ireturn, 1) := by decide +kernel
theorem dX4_groupHasRoom_0 : decode cX4_groupHasRoom 0 = .ok (.aload_n 0, 1) := by decide +kernel
theorem dX4_groupHasRoom_1 : decode cX4_groupHasRoom 1 = .ok (.getfield 24, 3) := by decide +kernel
theorem dX4_groupHasRoom_4 : decode cX4_groupHasRoom 4 = .ok (.iload_n 1, 1) := by decide +kernel
theorem dX4_groupHasRoom_5 : decode cX4_groupHasRoom 5 = .ok (.iaload, 1) := by decide +kernel
theorem dX4_groupHasRoom_6 : decode cX4_groupHasRoom 6 = .ok (.aload_n 0, 1) := by decide +kernel
theorem dX4_groupHasRoom_7 : decode cX4_groupHasRoom 7 = .ok (.getfield 18, 3) := by decide +kernel
theorem dX4_groupHasRoom_10 : decode cX4_groupHasRoom 10 = .ok (.iload_n 1, 1) := by decide +kernel
theorem dX4_groupHasRoom_11 : decode cX4_groupHasRoom 11 = .ok (.iaload, 1) := by decide +kernel
theorem dX4_groupHasRoom_12 : decode cX4_groupHasRoom 12 = .ok (.if_icmp .ge 7, 3) := by decide +kernel
theorem dX4_groupHasRoom_15 : decode cX4_groupHasRoom 15 = .ok (.iconst 1, 1) := by decide +kernel
theorem dX4_groupHasRoom_16 : decode cX4_groupHasRoom 16 = .ok (.goto 4, 3) := by decide +kernel
theorem dX4_groupHasRoom_19 : decode cX4_groupHasRoom 19 = .ok (.iconst 0, 1) := by decide +kernel
theorem dX4_groupHasRoom_20 : decode cX4_groupHasRoom 20 = .ok (.ireturn, 1) := by decide +kernel
theorem dX4_openResource_0 : decode cX4_openResource 0 = .ok (.aload_n 0, 1) := by decide +kernel
theorem dX4_openResource_1 : decode cX4_openResource 1 = .ok (.getfield 46, 3) := by decide +kernel
theorem dX4_openResource_4 : decode cX4_openResource 4 = .ok (.istore_n 2, 1) := by decide +kernel
theorem dX4_openResource_5 : decode cX4_openResource 5 = .ok (.aload_n 0, 1) := by decide +kernel
theorem dX4_openResource_6 : decode cX4_openResource 6 = .ok (.getfield 9, 3) := by decide +kernel
theorem dX4_openResource_9 : decode cX4_openResource 9 = .ok (.iload_n 2, 1) := by decide +kernel
theorem dX4_openResource_10 : decode cX4_openResource 10 = .ok (.iload_n 1, 1) := by decide +kernel
theorem dX4_openResource_11 : decode cX4_openResource 11 = .ok (.iastore, 1) := by decide +kernel
theorem dX4_openResource_12 : decode cX4_openResource 12 = .ok (.aload_n 0, 1) := by decide +kernel
theorem dX4_openResource_13 : decode cX4_openResource 13 = .ok (.dup, 1) := by decide +kernel
theorem dX4_openResource_14 : decode cX4_openResource 14 = .ok (.getfield 46, 3) := by decide +kernel
theorem dX4_openResource_17 : decode cX4_openResource 17 = .ok (.iconst 1, 1) := by decide +kernel
theorem dX4_openResource_18 : decode cX4_openResource 18 = .ok (.iadd, 1) := by decide +kernel
theorem dX4_openResource_19 : decode cX4_openResource 19 = .ok (.putfield 46, 3) := by decide +kernel
theorem dX4_openResource_22 : decode cX4_openResource 22 = .ok (.iload_n 2, 1) := by decide +kernel
theorem dX4_openResource_23 : decode cX4_openResource 23 = .ok (.ireturn, 1) := by decide +kernel
theorem dX4_admit_0 : decode cX4_admit 0 = .ok (.aload_n 0, 1) := by decide +kernel
theorem dX4_admit_1 : decode cX4_admit 1 = .ok (.getfield 56, 3) := by decide +kernel
theorem dX4_admit_4 : decode cX4_admit 4 = .ok (.istore_n 3, 1) := by decide +kernel
theorem dX4_admit_5 : decode cX4_admit 5 = .ok (.aload_n 0, 1) := by decide +kernel
theorem dX4_admit_6 : decode cX4_admit 6 = .ok (.getfield 27, 3) := by decide +kernel
theorem dX4_admit_9 : decode cX4_admit 9 = .ok (.iload_n 3, 1) := by decide +kernel
theorem dX4_admit_10 : decode cX4_admit 10 = .ok (.iload_n 1, 1) := by decide +kernel
theorem dX4_admit_11 : decode cX4_admit 11 = .ok (.iastore, 1) := by decide +kernel
theorem dX4_admit_12 : decode cX4_admit 12 = .ok (.aload_n 0, 1) := by decide +kernel
theorem dX4_admit_13 : decode cX4_admit 13 = .ok (.getfield 30, 3) := by decide +kernel
theorem dX4_admit_16 : decode cX4_admit 16 = .ok (.iload_n 3, 1) := by decide +kernel
theorem dX4_admit_17 : decode cX4_admit 17 = .ok (.iload_n 2, 1) := by decide +kernel
theorem dX4_admit_18 : decode cX4_admit 18 = .ok (.iastore, 1) := by decide +kernel
theorem dX4_admit_19 : decode cX4_admit 19 = .ok (.aload_n 0, 1) := by decide +kernel
theorem dX4_admit_20 : decode cX4_admit 20 = .ok (.getfield 33, 3) := by decide +kernel
theorem dX4_admit_23 : decode cX4_admit 23 = .ok (.iload_n 3, 1) := by decide +kernel
theorem dX4_admit_24 : decode cX4_admit 24 = .ok (.iconst (-1), 1) := by decide +kernel
theorem dX4_admit_25 : decode cX4_admit 25 = .ok (.iastore, 1) := by decide +kernel
theorem dX4_admit_26 : decode cX4_admit 26 = .ok (.aload_n 0, 1) := by decide +kernel
theorem dX4_admit_27 : decode cX4_admit 27 = .ok (.dup, 1) := by decide +kernel
theorem dX4_admit_28 : decode cX4_admit 28 = .ok (.getfield 56, 3) := by decide +kernel
theorem dX4_admit_31 : decode cX4_admit 31 = .ok (.iconst 1, 1) := by decide +kernel
theorem dX4_admit_32 : decode cX4_admit 32 = .ok (.iadd, 1) := by decide +kernel
theorem dX4_admit_33 : decode cX4_admit 33 = .ok (.putfield 56, 3) := by decide +kernel
theorem dX4_admit_36 : decode cX4_admit 36 = .ok (.iload_n 3, 1) := by decide +kernel
theorem dX4_admit_37 : decode cX4_admit 37 = .ok (.ireturn, 1) := by decide +kernel
theorem dX4_dismiss_0 : decode cX4_dismiss 0 = .ok (.aload_n 0, 1) := by decide +kernel
theorem dX4_dismiss_1 : decode cX4_dismiss 1 = .ok (.iload_n 1, 1) := by decide +kernel
theorem dX4_dismiss_2 : decode cX4_dismiss 2 = .ok (.invokevirtual 59, 3) := by decide +kernel
theorem dX4_dismiss_5 : decode cX4_dismiss 5 = .ok (.aload_n 0, 1) := by decide +kernel
theorem dX4_dismiss_6 : decode cX4_dismiss 6 = .ok (.getfield 33, 3) := by decide +kernel
theorem dX4_dismiss_9 : decode cX4_dismiss 9 = .ok (.iload_n 1, 1) := by decide +kernel
theorem dX4_dismiss_10 : decode cX4_dismiss 10 = .ok (.bipush (-2), 2) := by decide +kernel
theorem dX4_dismiss_12 : decode cX4_dismiss 12 = .ok (.iastore, 1) := by decide +kernel
theorem dX4_dismiss_13 : decode cX4_dismiss 13 = .ok (.return_, 1) := by decide +kernel
theorem dX4_accept_0 : decode cX4_accept 0 = .ok (.aload_n 0, 1) := by decide +kernel
theorem dX4_accept_1 : decode cX4_accept 1 = .ok (.getfield 30, 3) := by decide +kernel
theorem dX4_accept_4 : decode cX4_accept 4 = .ok (.iload_n 1, 1) := by decide +kernel
theorem dX4_accept_5 : decode cX4_accept 5 = .ok (.iload_n 2, 1) := by decide +kernel
theorem dX4_accept_6 : decode cX4_accept 6 = .ok (.iastore, 1) := by decide +kernel
theorem dX4_accept_7 : decode cX4_accept 7 = .ok (.aload_n 0, 1) := by decide +kernel
theorem dX4_accept_8 : decode cX4_accept 8 = .ok (.iload_n 1, 1) := by decide +kernel
theorem dX4_accept_9 : decode cX4_accept 9 = .ok (.invokevirtual 53, 3) := by decide +kernel
theorem dX4_accept_12 : decode cX4_accept 12 = .ok (.ifCond .eq 21, 3) := by decide +kernel
theorem dX4_accept_15 : decode cX4_accept 15 = .ok (.iload_n 2, 1) := by decide +kernel
theorem dX4_accept_16 : decode cX4_accept 16 = .ok (.aload_n 0, 1) := by decide +kernel
theorem dX4_accept_17 : decode cX4_accept 17 = .ok (.getfield 33, 3) := by decide +kernel
theorem dX4_accept_20 : decode cX4_accept 20 = .ok (.iload_n 1, 1) := by decide +kernel
theorem dX4_accept_21 : decode cX4_accept 21 = .ok (.iaload, 1) := by decide +kernel
theorem dX4_accept_22 : decode cX4_accept 22 = .ok (.invokestatic 63, 3) := by decide +kernel
theorem dX4_accept_25 : decode cX4_accept 25 = .ok (.ifCond .ne 8, 3) := by decide +kernel
theorem dX4_accept_28 : decode cX4_accept 28 = .ok (.aload_n 0, 1) := by decide +kernel
theorem dX4_accept_29 : decode cX4_accept 29 = .ok (.iload_n 1, 1) := by decide +kernel
theorem dX4_accept_30 : decode cX4_accept 30 = .ok (.invokevirtual 59, 3) := by decide +kernel
theorem dX4_accept_33 : decode cX4_accept 33 = .ok (.return_, 1) := by decide +kernel
theorem dX4_assign_0 : decode cX4_assign 0 = .ok (.aload_n 0, 1) := by decide +kernel
theorem dX4_assign_1 : decode cX4_assign 1 = .ok (.getfield 33, 3) := by decide +kernel
theorem dX4_assign_4 : decode cX4_assign 4 = .ok (.iload_n 1, 1) := by decide +kernel
theorem dX4_assign_5 : decode cX4_assign 5 = .ok (.iload_n 2, 1) := by decide +kernel
theorem dX4_assign_6 : decode cX4_assign 6 = .ok (.iastore, 1) := by decide +kernel
theorem dX4_assign_7 : decode cX4_assign 7 = .ok (.aload_n 0, 1) := by decide +kernel
theorem dX4_assign_8 : decode cX4_assign 8 = .ok (.getfield 15, 3) := by decide +kernel
theorem dX4_assign_11 : decode cX4_assign 11 = .ok (.iload_n 2, 1) := by decide +kernel
theorem dX4_assign_12 : decode cX4_assign 12 = .ok (.dup2, 1) := by decide +kernel
theorem dX4_assign_13 : decode cX4_assign 13 = .ok (.iaload, 1) := by decide +kernel
theorem dX4_assign_14 : decode cX4_assign 14 = .ok (.iconst 1, 1) := by decide +kernel
theorem dX4_assign_15 : decode cX4_assign 15 = .ok (.iadd, 1) := by decide +kernel
theorem dX4_assign_16 : decode cX4_assign 16 = .ok (.iastore, 1) := by decide +kernel
theorem dX4_assign_17 : decode cX4_assign 17 = .ok (.aload_n 0, 1) := by decide +kernel
theorem dX4_assign_18 : decode cX4_assign 18 = .ok (.getfield 24, 3) := by decide +kernel
theorem dX4_assign_21 : decode cX4_assign 21 = .ok (.aload_n 0, 1) := by decide +kernel
theorem dX4_assign_22 : decode cX4_assign 22 = .ok (.getfield 27, 3) := by decide +kernel
theorem dX4_assign_25 : decode cX4_assign 25 = .ok (.iload_n 1, 1) := by decide +kernel
theorem dX4_assign_26 : decode cX4_assign 26 = .ok (.iaload, 1) := by decide +kernel
theorem dX4_assign_27 : decode cX4_assign 27 = .ok (.dup2, 1) := by decide +kernel
theorem dX4_assign_28 : decode cX4_assign 28 = .ok (.iaload, 1) := by decide +kernel
theorem dX4_assign_29 : decode cX4_assign 29 = .ok (.iconst 1, 1) := by decide +kernel
theorem dX4_assign_30 : decode cX4_assign 30 = .ok (.iadd, 1) := by decide +kernel
theorem dX4_assign_31 : decode cX4_assign 31 = .ok (.iastore, 1) := by decide +kernel
theorem dX4_assign_32 : decode cX4_assign 32 = .ok (.return_, 1) := by decide +kernel
theorem dX4_move_0 : decode cX4_move 0 = .ok (.aload_n 0, 1) := by decide +kernel
theorem dX4_move_1 : decode cX4_move 1 = .ok (.iload_n 1, 1) := by decide +kernel
theorem dX4_move_2 : decode cX4_move 2 = .ok (.invokevirtual 59, 3) := by decide +kernel
theorem dX4_move_5 : decode cX4_move 5 = .ok (.aload_n 0, 1) := by decide +kernel
theorem dX4_move_6 : decode cX4_move 6 = .ok (.iload_n 1, 1) := by decide +kernel
theorem dX4_move_7 : decode cX4_move 7 = .ok (.iload_n 2, 1) := by decide +kernel
theorem dX4_move_8 : decode cX4_move 8 = .ok (.invokevirtual 67, 3) := by decide +kernel
theorem dX4_move_11 : decode cX4_move 11 = .ok (.aload_n 0, 1) := by decide +kernel
theorem dX4_move_12 : decode cX4_move 12 = .ok (.getfield 36, 3) := by decide +kernel
theorem dX4_move_15 : decode cX4_move 15 = .ok (.iload_n 1, 1) := by decide +kernel
theorem dX4_move_16 : decode cX4_move 16 = .ok (.dup2, 1) := by decide +kernel
theorem dX4_move_17 : decode cX4_move 17 = .ok (.iaload, 1) := by decide +kernel
theorem dX4_move_18 : decode cX4_move 18 = .ok (.iconst 1, 1) := by decide +kernel
theorem dX4_move_19 : decode cX4_move 19 = .ok (.iadd, 1) := by decide +kernel
theorem dX4_move_20 : decode cX4_move 20 = .ok (.iastore, 1) := by decide +kernel
theorem dX4_move_21 : decode cX4_move 21 = .ok (.return_, 1) := by decide +kernel
theorem dX4_putBack_0 : decode cX4_putBack 0 = .ok (.aload_n 0, 1) := by decide +kernel
theorem dX4_putBack_1 : decode cX4_putBack 1 = .ok (.iload_n 1, 1) := by decide +kernel
theorem dX4_putBack_2 : decode cX4_putBack 2 = .ok (.invokevirtual 53, 3) := by decide +kernel
theorem dX4_putBack_5 : decode cX4_putBack 5 = .ok (.ifCond .eq 40, 3) := by decide +kernel
theorem dX4_putBack_8 : decode cX4_putBack 8 = .ok (.aload_n 0, 1) := by decide +kernel
theorem dX4_putBack_9 : decode cX4_putBack 9 = .ok (.getfield 15, 3) := by decide +kernel
theorem dX4_putBack_12 : decode cX4_putBack 12 = .ok (.aload_n 0, 1) := by decide +kernel
theorem dX4_putBack_13 : decode cX4_putBack 13 = .ok (.getfield 33, 3) := by decide +kernel
theorem dX4_putBack_16 : decode cX4_putBack 16 = .ok (.iload_n 1, 1) := by decide +kernel
theorem dX4_putBack_17 : decode cX4_putBack 17 = .ok (.iaload, 1) := by decide +kernel
theorem dX4_putBack_18 : decode cX4_putBack 18 = .ok (.dup2, 1) := by decide +kernel
theorem dX4_putBack_19 : decode cX4_putBack 19 = .ok (.iaload, 1) := by decide +kernel
theorem dX4_putBack_20 : decode cX4_putBack 20 = .ok (.iconst 1, 1) := by decide +kernel
theorem dX4_putBack_21 : decode cX4_putBack 21 = .ok (.isub, 1) := by decide +kernel
theorem dX4_putBack_22 : decode cX4_putBack 22 = .ok (.iastore, 1) := by decide +kernel
theorem dX4_putBack_23 : decode cX4_putBack 23 = .ok (.aload_n 0, 1) := by decide +kernel
theorem dX4_putBack_24 : decode cX4_putBack 24 = .ok (.getfield 24, 3) := by decide +kernel
theorem dX4_putBack_27 : decode cX4_putBack 27 = .ok (.aload_n 0, 1) := by decide +kernel
theorem dX4_putBack_28 : decode cX4_putBack 28 = .ok (.getfield 27, 3) := by decide +kernel
theorem dX4_putBack_31 : decode cX4_putBack 31 = .ok (.iload_n 1, 1) := by decide +kernel
theorem dX4_putBack_32 : decode cX4_putBack 32 = .ok (.iaload, 1) := by decide +kernel
theorem dX4_putBack_33 : decode cX4_putBack 33 = .ok (.dup2, 1) := by decide +kernel
theorem dX4_putBack_34 : decode cX4_putBack 34 = .ok (.iaload, 1) := by decide +kernel
theorem dX4_putBack_35 : decode cX4_putBack 35 = .ok (.iconst 1, 1) := by decide +kernel
theorem dX4_putBack_36 : decode cX4_putBack 36 = .ok (.isub, 1) := by decide +kernel
theorem dX4_putBack_37 : decode cX4_putBack 37 = .ok (.iastore, 1) := by decide +kernel
theorem dX4_putBack_38 : decode cX4_putBack 38 = .ok (.aload_n 0, 1) := by decide +kernel
theorem dX4_putBack_39 : decode cX4_putBack 39 = .ok (.getfield 33, 3) := by decide +kernel
theorem dX4_putBack_42 : decode cX4_putBack 42 = .ok (.iload_n 1, 1) := by decide +kernel
theorem dX4_putBack_43 : decode cX4_putBack 43 = .ok (.iconst (-1), 1) := by decide +kernel
theorem dX4_putBack_44 : decode cX4_putBack 44 = .ok (.iastore, 1) := by decide +kernel
theorem dX4_putBack_45 : decode cX4_putBack 45 = .ok (.return_, 1) := by decide +kernel
theorem dX4_putBackBeyondQuota_0 : decode cX4_putBackBeyondQuota 0 = .ok (.iconst 0, 1) := by decide +kernel
theorem dX4_putBackBeyondQuota_1 : decode cX4_putBackBeyondQuota 1 = .ok (.istore_n 2, 1) := by decide +kernel
theorem dX4_putBackBeyondQuota_2 : decode cX4_putBackBeyondQuota 2 = .ok (.aload_n 0, 1) := by decide +kernel
theorem dX4_putBackBeyondQuota_3 : decode cX4_putBackBeyondQuota 3 = .ok (.getfield 56, 3) := by decide +kernel
theorem dX4_putBackBeyondQuota_6 : decode cX4_putBackBeyondQuota 6 = .ok (.iconst 1, 1) := by decide +kernel
theorem dX4_putBackBeyondQuota_7 : decode cX4_putBackBeyondQuota 7 = .ok (.isub, 1) := by decide +kernel
theorem dX4_putBackBeyondQuota_8 : decode cX4_putBackBeyondQuota 8 = .ok (.istore_n 3, 1) := by decide +kernel
theorem dX4_putBackBeyondQuota_9 : decode cX4_putBackBeyondQuota 9 = .ok (.iload_n 3, 1) := by decide +kernel
theorem dX4_putBackBeyondQuota_10 : decode cX4_putBackBeyondQuota 10 = .ok (.ifCond .lt 50, 3) := by decide +kernel
theorem dX4_putBackBeyondQuota_13 : decode cX4_putBackBeyondQuota 13 = .ok (.aload_n 0, 1) := by decide +kernel
theorem dX4_putBackBeyondQuota_14 : decode cX4_putBackBeyondQuota 14 = .ok (.getfield 24, 3) := by decide +kernel
theorem dX4_putBackBeyondQuota_17 : decode cX4_putBackBeyondQuota 17 = .ok (.iload_n 1, 1) := by decide +kernel
theorem dX4_putBackBeyondQuota_18 : decode cX4_putBackBeyondQuota 18 = .ok (.iaload, 1) := by decide +kernel
theorem dX4_putBackBeyondQuota_19 : decode cX4_putBackBeyondQuota 19 = .ok (.aload_n 0, 1) := by decide +kernel
theorem dX4_putBackBeyondQuota_20 : decode cX4_putBackBeyondQuota 20 = .ok (.getfield 18, 3) := by decide +kernel
theorem dX4_putBackBeyondQuota_23 : decode cX4_putBackBeyondQuota 23 = .ok (.iload_n 1, 1) := by decide +kernel
theorem dX4_putBackBeyondQuota_24 : decode cX4_putBackBeyondQuota 24 = .ok (.iaload, 1) := by decide +kernel
theorem dX4_putBackBeyondQuota_25 : decode cX4_putBackBeyondQuota 25 = .ok (.if_icmp .le 35, 3) := by decide +kernel
theorem dX4_putBackBeyondQuota_28 : decode cX4_putBackBeyondQuota 28 = .ok (.aload_n 0, 1) := by decide +kernel
theorem dX4_putBackBeyondQuota_29 : decode cX4_putBackBeyondQuota 29 = .ok (.getfield 27, 3) := by decide +kernel
theorem dX4_putBackBeyondQuota_32 : decode cX4_putBackBeyondQuota 32 = .ok (.iload_n 3, 1) := by decide +kernel
theorem dX4_putBackBeyondQuota_33 : decode cX4_putBackBeyondQuota 33 = .ok (.iaload, 1) := by decide +kernel
theorem dX4_putBackBeyondQuota_34 : decode cX4_putBackBeyondQuota 34 = .ok (.iload_n 1, 1) := by decide +kernel
theorem dX4_putBackBeyondQuota_35 : decode cX4_putBackBeyondQuota 35 = .ok (.if_icmp .ne 19, 3) := by decide +kernel
theorem dX4_putBackBeyondQuota_38 : decode cX4_putBackBeyondQuota 38 = .ok (.aload_n 0, 1) := by decide +kernel
theorem dX4_putBackBeyondQuota_39 : decode cX4_putBackBeyondQuota 39 = .ok (.iload_n 3, 1) := by decide +kernel
theorem dX4_putBackBeyondQuota_40 : decode cX4_putBackBeyondQuota 40 = .ok (.invokevirtual 53, 3) := by decide +kernel
theorem dX4_putBackBeyondQuota_43 : decode cX4_putBackBeyondQuota 43 = .ok (.ifCond .eq 11, 3) := by decide +kernel
theorem dX4_putBackBeyondQuota_46 : decode cX4_putBackBeyondQuota 46 = .ok (.aload_n 0, 1) := by decide +kernel
theorem dX4_putBackBeyondQuota_47 : decode cX4_putBackBeyondQuota 47 = .ok (.iload_n 3, 1) := by decide +kernel
theorem dX4_putBackBeyondQuota_48 : decode cX4_putBackBeyondQuota 48 = .ok (.invokevirtual 59, 3) := by decide +kernel
theorem dX4_putBackBeyondQuota_51 : decode cX4_putBackBeyondQuota 51 = .ok (.iinc 2 1, 3) := by decide +kernel
theorem dX4_putBackBeyondQuota_54 : decode cX4_putBackBeyondQuota 54 = .ok (.iinc 3 (-1), 3) := by decide +kernel
theorem dX4_putBackBeyondQuota_57 : decode cX4_putBackBeyondQuota 57 = .ok (.goto (-48), 3) := by decide +kernel
theorem dX4_putBackBeyondQuota_60 : decode cX4_putBackBeyondQuota 60 = .ok (.iload_n 2, 1) := by decide +kernel
theorem dX4_putBackBeyondQuota_61 : decode cX4_putBackBeyondQuota 61 = .ok (.ireturn, 1) := by decide +kernel
end
section
theorem dX5_init_0 : decode cX5_init 0 = .ok (.aload_n 0, 1) := by decide +kernel
theorem dX5_init_1 : decode cX5_init 1 = .ok (.invokespecial 1, 3) := by decide +kernel
theorem dX5_init_4 : decode cX5_init 4 = .ok (.aload_n 0, 1) := by decide +kernel
theorem dX5_init_5 : decode cX5_init 5 = .ok (.new 7, 3) := by decide +kernel
theorem dX5_init_8 : decode cX5_init 8 = .ok (.dup, 1) := by decide +kernel
theorem dX5_init_9 : decode cX5_init 9 = .ok (.invokespecial 9, 3) := by decide +kernel
theorem dX5_init_12 : decode cX5_init 12 = .ok (.putfield 10, 3) := by decide +kernel
theorem dX5_init_15 : decode cX5_init 15 = .ok (.aload_n 0, 1) := by decide +kernel
theorem dX5_init_16 : decode cX5_init 16 = .ok (.new 16, 3) := by decide +kernel
theorem dX5_init_19 : decode cX5_init 19 = .ok (.dup, 1) := by decide +kernel
theorem dX5_init_20 : decode cX5_init 20 = .ok (.invokespecial 18, 3) := by decide +kernel
theorem dX5_init_23 : decode cX5_init 23 = .ok (.putfield 19, 3) := by decide +kernel
theorem dX5_init_26 : decode cX5_init 26 = .ok (.aload_n 0, 1) := by decide +kernel
theorem dX5_init_27 : decode cX5_init 27 = .ok (.new 23, 3) := by decide +kernel
theorem dX5_init_30 : decode cX5_init 30 = .ok (.dup, 1) := by decide +kernel
theorem dX5_init_31 : decode cX5_init 31 = .ok (.aload_n 0, 1) := by decide +kernel
theorem dX5_init_32 : decode cX5_init 32 = .ok (.getfield 10, 3) := by decide +kernel
theorem dX5_init_35 : decode cX5_init 35 = .ok (.invokespecial 25, 3) := by decide +kernel
theorem dX5_init_38 : decode cX5_init 38 = .ok (.putfield 28, 3) := by decide +kernel
theorem dX5_init_41 : decode cX5_init 41 = .ok (.aload_n 0, 1) := by decide +kernel
theorem dX5_init_42 : decode cX5_init 42 = .ok (.new 32, 3) := by decide +kernel
theorem dX5_init_45 : decode cX5_init 45 = .ok (.dup, 1) := by decide +kernel
theorem dX5_init_46 : decode cX5_init 46 = .ok (.aload_n 0, 1) := by decide +kernel
theorem dX5_init_47 : decode cX5_init 47 = .ok (.getfield 10, 3) := by decide +kernel
theorem dX5_init_50 : decode cX5_init 50 = .ok (.aload_n 0, 1) := by decide +kernel
theorem dX5_init_51 : decode cX5_init 51 = .ok (.getfield 28, 3) := by decide +kernel
theorem dX5_init_54 : decode cX5_init 54 = .ok (.aload_n 0, 1) := by decide +kernel
theorem dX5_init_55 : decode cX5_init 55 = .ok (.getfield 19, 3) := by decide +kernel
theorem dX5_init_58 : decode cX5_init 58 = .ok (.invokespecial 34, 3) := by decide +kernel
theorem dX5_init_61 : decode cX5_init 61 = .ok (.putfield 37, 3) := by decide +kernel
theorem dX5_init_64 : decode cX5_init 64 = .ok (.aload_n 0, 1) := by decide +kernel
theorem dX5_init_65 : decode cX5_init 65 = .ok (.new 41, 3) := by decide +kernel
theorem dX5_init_68 : decode cX5_init 68 = .ok (.dup, 1) := by decide +kernel
theorem dX5_init_69 : decode cX5_init 69 = .ok (.aload_n 0, 1) := by decide +kernel
theorem dX5_init_70 : decode cX5_init 70 = .ok (.getfield 10, 3) := by decide +kernel
theorem dX5_init_73 : decode cX5_init 73 = .ok (.invokespecial 43, 3) := by decide +kernel
theorem dX5_init_76 : decode cX5_init 76 = .ok (.putfield 44, 3) := by decide +kernel
theorem dX5_init_79 : decode cX5_init 79 = .ok (.return_, 1) := by decide +kernel
theorem dX5_addResource_0 : decode cX5_addResource 0 = .ok (.iload_n 1, 1) := by decide +kernel
theorem dX5_addResource_1 : decode cX5_addResource 1 = .ok (.iconst 0, 1) := by decide +kernel
theorem dX5_addResource_2 : decode cX5_addResource 2 = .ok (.iconst 4, 1) := by decide +kernel
theorem dX5_addResource_3 : decode cX5_addResource 3 = .ok (.invokestatic 48, 3) := by decide +kernel
theorem dX5_addResource_6 : decode cX5_addResource 6 = .ok (.ifCond .ne 13, 3) := by decide +kernel
theorem dX5_addResource_9 : decode cX5_addResource 9 = .ok (.new 52, 3) := by decide +kernel
theorem dX5_addResource_12 : decode cX5_addResource 12 = .ok (.dup, 1) := by decide +kernel
theorem dX5_addResource_13 : decode cX5_addResource 13 = .ok (.ldc 54, 2) := by decide +kernel
theorem dX5_addResource_15 : decode cX5_addResource 15 = .ok (.invokespecial 56, 3) := by decide +kernel
theorem dX5_addResource_18 : decode cX5_addResource 18 = .ok (.athrow, 1) := by decide +kernel
theorem dX5_addResource_19 : decode cX5_addResource 19 = .ok (.aload_n 0, 1) := by decide +kernel
theorem dX5_addResource_20 : decode cX5_addResource 20 = .ok (.getfield 10, 3) := by decide +kernel
theorem dX5_addResource_23 : decode cX5_addResource 23 = .ok (.getfield 59, 3) := by decide +kernel
theorem dX5_addResource_26 : decode cX5_addResource 26 = .ok (.bipush 12, 2) := by decide +kernel
theorem dX5_addResource_28 : decode cX5_addResource 28 = .ok (.if_icmp .lt 13, 3) := by decide +kernel
theorem dX5_addResource_31 : decode cX5_addResource 31 = .ok (.new 63, 3) := by decide +kernel
theorem dX5_addResource_34 : decode cX5_addResource 34 = .ok (.dup, 1) := by decide +kernel
theorem dX5_addResource_35 : decode cX5_addResource 35 = .ok (.ldc 65, 2) := by decide +kernel
theorem dX5_addResource_37 : decode cX5_addResource 37 = .ok (.invokespecial 67, 3) := by decide +kernel
theorem dX5_addResource_40 : decode cX5_addResource 40 = .ok (.athrow, 1) := by decide +kernel
theorem dX5_addResource_41 : decode cX5_addResource 41 = .ok (.aload_n 0, 1) := by decide +kernel
theorem dX5_addResource_42 : decode cX5_addResource 42 = .ok (.getfield 19, 3) := by decide +kernel
theorem dX5_addResource_45 : decode cX5_addResource 45 = .ok (.invokevirtual 68, 3) := by decide +kernel
theorem dX5_addResource_48 : decode cX5_addResource 48 = .ok (.aload_n 0, 1) := by decide +kernel
theorem dX5_addResource_49 : decode cX5_addResource 49 = .ok (.getfield 10, 3) := by decide +kernel
theorem dX5_addResource_52 : decode cX5_addResource 52 = .ok (.iload_n 1, 1) := by decide +kernel
theorem dX5_addResource_53 : decode cX5_addResource 53 = .ok (.invokevirtual 71, 3) := by decide +kernel
theorem dX5_addResource_56 : decode cX5_addResource 56 = .ok (.istore_n 2, 1) := by decide +kernel
theorem dX5_addResource_57 : decode cX5_addResource 57 = .ok (.aload_n 0, 1) := by decide +kernel
theorem dX5_addResource_58 : decode cX5_addResource 58 = .ok (.getfield 37, 3) := by decide +kernel
theorem dX5_addResource_61 : decode cX5_addResource 61 = .ok (.invokevirtual 75, 3) := by decide +kernel
theorem dX5_addResource_64 : decode cX5_addResource 64 = .ok (.pop, 1) := by decide +kernel
theorem dX5_addResource_65 : decode cX5_addResource 65 = .ok (.iload_n 2, 1) := by decide +kernel
theorem dX5_addResource_66 : decode cX5_addResource 66 = .ok (.ireturn, 1) := by decide +kernel
theorem dX5_setGroup_0 : decode cX5_setGroup 0 = .ok (.aload_n 0, 1) := by decide +kernel
theorem dX5_setGroup_1 : decode cX5_setGroup 1 = .ok (.iload_n 1, 1) := by decide +kernel
theorem dX5_setGroup_2 : decode cX5_setGroup 2 = .ok (.invokevirtual 90, 3) := by decide +kernel
theorem dX5_setGroup_5 : decode cX5_setGroup 5 = .ok (.iload_n 2, 1) := by decide +kernel
theorem dX5_setGroup_6 : decode cX5_setGroup 6 = .ok (.iconst 0, 1) := by decide +kernel
theorem dX5_setGroup_7 : decode cX5_setGroup 7 = .ok (.bipush 40, 2) := by decide +kernel
theorem dX5_setGroup_9 : decode cX5_setGroup 9 = .ok (.invokestatic 48, 3) := by decide +kernel
theorem dX5_setGroup_12 : decode cX5_setGroup 12 = .ok (.ifCond .ne 13, 3) := by decide +kernel
theorem dX5_setGroup_15 : decode cX5_setGroup 15 = .ok (.new 52, 3) := by decide +kernel
theorem dX5_setGroup_18 : decode cX5_setGroup 18 = .ok (.dup, 1) := by decide +kernel
theorem dX5_setGroup_19 : decode cX5_setGroup 19 = .ok (.ldc 93, 2) := by decide +kernel
theorem dX5_setGroup_21 : decode cX5_setGroup 21 = .ok (.invokespecial 56, 3) := by decide +kernel
theorem dX5_setGroup_24 : decode cX5_setGroup 24 = .ok (.athrow, 1) := by decide +kernel
theorem dX5_setGroup_25 : decode cX5_setGroup 25 = .ok (.iload_n 3, 1) := by decide +kernel
theorem dX5_setGroup_26 : decode cX5_setGroup 26 = .ok (.iconst 1, 1) := by decide +kernel
theorem dX5_setGroup_27 : decode cX5_setGroup 27 = .ok (.bipush 10, 2) := by decide +kernel
theorem dX5_setGroup_29 : decode cX5_setGroup 29 = .ok (.invokestatic 48, 3) := by decide +kernel
theorem dX5_setGroup_32 : decode cX5_setGroup 32 = .ok (.ifCond .ne 13, 3) := by decide +kernel
theorem dX5_setGroup_35 : decode cX5_setGroup 35 = .ok (.new 52, 3) := by decide +kernel
theorem dX5_setGroup_38 : decode cX5_setGroup 38 = .ok (.dup, 1) := by decide +kernel
theorem dX5_setGroup_39 : decode cX5_setGroup 39 = .ok (.ldc 95, 2) := by decide +kernel
theorem dX5_setGroup_41 : decode cX5_setGroup 41 = .ok (.invokespecial 56, 3) := by decide +kernel
theorem dX5_setGroup_44 : decode cX5_setGroup 44 = .ok (.athrow, 1) := by decide +kernel
theorem dX5_setGroup_45 : decode cX5_setGroup 45 = .ok (.aload_n 0, 1) := by decide +kernel
theorem dX5_setGroup_46 : decode cX5_setGroup 46 = .ok (.getfield 19, 3) := by decide +kernel
theorem dX5_setGroup_49 : decode cX5_setGroup 49 = .ok (.invokevirtual 68, 3) := by decide +kernel
theorem dX5_setGroup_52 : decode cX5_setGroup 52 = .ok (.aload_n 0, 1) := by decide +kernel
theorem dX5_setGroup_53 : decode cX5_setGroup 53 = .ok (.getfield 10, 3) := by decide +kernel
theorem dX5_setGroup_56 : decode cX5_setGroup 56 = .ok (.getfield 97, 3) := by decide +kernel
theorem dX5_setGroup_59 : decode cX5_setGroup 59 = .ok (.iload_n 1, 1) := by decide +kernel
theorem dX5_setGroup_60 : decode cX5_setGroup 60 = .ok (.iload_n 2, 1) := by decide +kernel
theorem dX5_setGroup_61 : decode cX5_setGroup 61 = .ok (.iastore, 1) := by decide +kernel
theorem dX5_setGroup_62 : decode cX5_setGroup 62 = .ok (.aload_n 0, 1) := by decide +kernel
theorem dX5_setGroup_63 : decode cX5_setGroup 63 = .ok (.getfield 10, 3) := by decide +kernel
theorem dX5_setGroup_66 : decode cX5_setGroup 66 = .ok (.getfield 100, 3) := by decide +kernel
theorem dX5_setGroup_69 : decode cX5_setGroup 69 = .ok (.iload_n 1, 1) := by decide +kernel
theorem dX5_setGroup_70 : decode cX5_setGroup 70 = .ok (.iload_n 3, 1) := by decide +kernel
theorem dX5_setGroup_71 : decode cX5_setGroup 71 = .ok (.iastore, 1) := by decide +kernel
theorem dX5_setGroup_72 : decode cX5_setGroup 72 = .ok (.aload_n 0, 1) := by decide +kernel
theorem dX5_setGroup_73 : decode cX5_setGroup 73 = .ok (.getfield 10, 3) := by decide +kernel
theorem dX5_setGroup_76 : decode cX5_setGroup 76 = .ok (.iload_n 1, 1) := by decide +kernel
theorem dX5_setGroup_77 : decode cX5_setGroup 77 = .ok (.invokevirtual 103, 3) := by decide +kernel
theorem dX5_setGroup_80 : decode cX5_setGroup 80 = .ok (.istore 4, 2) := by decide +kernel
theorem dX5_setGroup_82 : decode cX5_setGroup 82 = .ok (.aload_n 0, 1) := by decide +kernel
theorem dX5_setGroup_83 : decode cX5_setGroup 83 = .ok (.getfield 37, 3) := by decide +kernel
theorem dX5_setGroup_86 : decode cX5_setGroup 86 = .ok (.invokevirtual 75, 3) := by decide +kernel
theorem dX5_setGroup_89 : decode cX5_setGroup 89 = .ok (.pop, 1) := by decide +kernel
theorem dX5_setGroup_90 : decode cX5_setGroup 90 = .ok (.iload 4, 2) := by decide +kernel
theorem dX5_setGroup_92 : decode cX5_setGroup 92 = .ok (.ireturn, 1) := by decide +kernel
theorem dX5_setLimits_0 : decode cX5_setLimits 0 = .ok (.iload_n 1, 1) := by decide +kernel
theorem dX5_setLimits_1 : decode cX5_setLimits 1 = .ok (.iconst 0, 1) := by decide +kernel
theorem dX5_setLimits_2 : decode cX5_setLimits 2 = .ok (.iconst 5, 1) := by decide +kernel
theorem dX5_setLimits_3 : decode cX5_setLimits 3 = .ok (.invokestatic 48, 3) := by decide +kernel
theorem dX5_setLimits_6 : decode cX5_setLimits 6 = .ok (.ifCond .ne 13, 3) := by decide +kernel
theorem dX5_setLimits_9 : decode cX5_setLimits 9 = .ok (.new 52, 3) := by decide +kernel
theorem dX5_setLimits_12 : decode cX5_setLimits 12 = .ok (.dup, 1) := by decide +kernel
theorem dX5_setLimits_13 : decode cX5_setLimits 13 = .ok (.ldc 106, 2) := by decide +kernel
theorem dX5_setLimits_15 : decode cX5_setLimits 15 = .ok (.invokespecial 56, 3) := by decide +kernel
theorem dX5_setLimits_18 : decode cX5_setLimits 18 = .ok (.athrow, 1) := by decide +kernel
theorem dX5_setLimits_19 : decode cX5_setLimits 19 = .ok (.iload_n 2, 1) := by decide +kernel
theorem dX5_setLimits_20 : decode cX5_setLimits 20 = .ok (.iconst 0, 1) := by decide +kernel
theorem dX5_setLimits_21 : decode cX5_setLimits 21 = .ok (.bipush 20, 2) := by decide +kernel
theorem dX5_setLimits_23 : decode cX5_setLimits 23 = .ok (.invokestatic 48, 3) := by decide +kernel
theorem dX5_setLimits_26 : decode cX5_setLimits 26 = .ok (.ifCond .ne 13, 3) := by decide +kernel
theorem dX5_setLimits_29 : decode cX5_setLimits 29 = .ok (.new 52, 3) := by decide +kernel
theorem dX5_setLimits_32 : decode cX5_setLimits 32 = .ok (.dup, 1) := by decide +kernel
theorem dX5_setLimits_33 : decode cX5_setLimits 33 = .ok (.ldc 108, 2) := by decide +kernel
theorem dX5_setLimits_35 : decode cX5_setLimits 35 = .ok (.invokespecial 56, 3) := by decide +kernel
theorem dX5_setLimits_38 : decode cX5_setLimits 38 = .ok (.athrow, 1) := by decide +kernel
theorem dX5_setLimits_39 : decode cX5_setLimits 39 = .ok (.aload_n 0, 1) := by decide +kernel
theorem dX5_setLimits_40 : decode cX5_setLimits 40 = .ok (.getfield 19, 3) := by decide +kernel
theorem dX5_setLimits_43 : decode cX5_setLimits 43 = .ok (.invokevirtual 68, 3) := by decide +kernel
theorem dX5_setLimits_46 : decode cX5_setLimits 46 = .ok (.aload_n 0, 1) := by decide +kernel
theorem dX5_setLimits_47 : decode cX5_setLimits 47 = .ok (.getfield 10, 3) := by decide +kernel
theorem dX5_setLimits_50 : decode cX5_setLimits 50 = .ok (.iload_n 1, 1) := by decide +kernel
theorem dX5_setLimits_51 : decode cX5_setLimits 51 = .ok (.putfield 110, 3) := by decide +kernel
theorem dX5_setLimits_54 : decode cX5_setLimits 54 = .ok (.aload_n 0, 1) := by decide +kernel
theorem dX5_setLimits_55 : decode cX5_setLimits 55 = .ok (.getfield 10, 3) := by decide +kernel
theorem dX5_setLimits_58 : decode cX5_setLimits 58 = .ok (.iload_n 2, 1) := by decide +kernel
theorem dX5_setLimits_59 : decode cX5_setLimits 59 = .ok (.putfield 113, 3) := by decide +kernel
theorem dX5_setLimits_62 : decode cX5_setLimits 62 = .ok (.aload_n 0, 1) := by decide +kernel
theorem dX5_setLimits_63 : decode cX5_setLimits 63 = .ok (.getfield 37, 3) := by decide +kernel
theorem dX5_setLimits_66 : decode cX5_setLimits 66 = .ok (.invokevirtual 75, 3) := by decide +kernel
theorem dX5_setLimits_69 : decode cX5_setLimits 69 = .ok (.ireturn, 1) := by decide +kernel
theorem dX5_arrive_0 : decode cX5_arrive 0 = .ok (.aload_n 0, 1) := by decide +kernel
theorem dX5_arrive_1 : decode cX5_arrive 1 = .ok (.iload_n 1, 1) := by decide +kernel
theorem dX5_arrive_2 : decode cX5_arrive 2 = .ok (.invokevirtual 90, 3) := by decide +kernel
theorem dX5_arrive_5 : decode cX5_arrive 5 = .ok (.aload_n 0, 1) := by decide +kernel
theorem dX5_arrive_6 : decode cX5_arrive 6 = .ok (.iload_n 2, 1) := by decide +kernel
theorem dX5_arrive_7 : decode cX5_arrive 7 = .ok (.invokevirtual 116, 3) := by decide +kernel
theorem dX5_arrive_10 : decode cX5_arrive 10 = .ok (.aload_n 0, 1) := by decide +kernel
theorem dX5_arrive_11 : decode cX5_arrive 11 = .ok (.getfield 10, 3) := by decide +kernel
theorem dX5_arrive_14 : decode cX5_arrive 14 = .ok (.getfield 119, 3) := by decide +kernel
theorem dX5_arrive_17 : decode cX5_arrive 17 = .ok (.bipush 40, 2) := by decide +kernel
theorem dX5_arrive_19 : decode cX5_arrive 19 = .ok (.if_icmp .lt 13, 3) := by decide +kernel
theorem dX5_arrive_22 : decode cX5_arrive 22 = .ok (.new 63, 3) := by decide +kernel
theorem dX5_arrive_25 : decode cX5_arrive 25 = .ok (.dup, 1) := by decide +kernel
theorem dX5_arrive_26 : decode cX5_arrive 26 = .ok (.ldc 122, 2) := by decide +kernel
theorem dX5_arrive_28 : decode cX5_arrive 28 = .ok (.invokespecial 67, 3) := by decide +kernel
theorem dX5_arrive_31 : decode cX5_arrive 31 = .ok (.athrow, 1) := by decide +kernel
theorem dX5_arrive_32 : decode cX5_arrive 32 = .ok (.aload_n 0, 1) := by decide +kernel
theorem dX5_arrive_33 : decode cX5_arrive 33 = .ok (.getfield 19, 3) := by decide +kernel
theorem dX5_arrive_36 : decode cX5_arrive 36 = .ok (.invokevirtual 68, 3) := by decide +kernel
theorem dX5_arrive_39 : decode cX5_arrive 39 = .ok (.aload_n 0, 1) := by decide +kernel
theorem dX5_arrive_40 : decode cX5_arrive 40 = .ok (.getfield 10, 3) := by decide +kernel
theorem dX5_arrive_43 : decode cX5_arrive 43 = .ok (.iload_n 1, 1) := by decide +kernel
theorem dX5_arrive_44 : decode cX5_arrive 44 = .ok (.iload_n 2, 1) := by decide +kernel
theorem dX5_arrive_45 : decode cX5_arrive 45 = .ok (.invokevirtual 124, 3) := by decide +kernel
theorem dX5_arrive_48 : decode cX5_arrive 48 = .ok (.istore_n 3, 1) := by decide +kernel
theorem dX5_arrive_49 : decode cX5_arrive 49 = .ok (.aload_n 0, 1) := by decide +kernel
theorem dX5_arrive_50 : decode cX5_arrive 50 = .ok (.getfield 37, 3) := by decide +kernel
theorem dX5_arrive_53 : decode cX5_arrive 53 = .ok (.iload_n 3, 1) := by decide +kernel
theorem dX5_arrive_54 : decode cX5_arrive 54 = .ok (.invokevirtual 128, 3) := by decide +kernel
theorem dX5_arrive_57 : decode cX5_arrive 57 = .ok (.pop, 1) := by decide +kernel
theorem dX5_arrive_58 : decode cX5_arrive 58 = .ok (.iload_n 3, 1) := by decide +kernel
theorem dX5_arrive_59 : decode cX5_arrive 59 = .ok (.ireturn, 1) := by decide +kernel
theorem dX5_depart_0 : decode cX5_depart 0 = .ok (.aload_n 0, 1) := by decide +kernel
theorem dX5_depart_1 : decode cX5_depart 1 = .ok (.iload_n 1, 1) := by decide +kernel
theorem dX5_depart_2 : decode cX5_depart 2 = .ok (.invokevirtual 132, 3) := by decide +kernel
theorem dX5_depart_5 : decode cX5_depart 5 = .ok (.aload_n 0, 1) := by decide +kernel
theorem dX5_depart_6 : decode cX5_depart 6 = .ok (.getfield 19, 3) := by decide +kernel
theorem dX5_depart_9 : decode cX5_depart 9 = .ok (.invokevirtual 68, 3) := by decide +kernel
theorem dX5_depart_12 : decode cX5_depart 12 = .ok (.aload_n 0, 1) := by decide +kernel
theorem dX5_depart_13 : decode cX5_depart 13 = .ok (.getfield 10, 3) := by decide +kernel
theorem dX5_depart_16 : decode cX5_depart 16 = .ok (.iload_n 1, 1) := by decide +kernel
theorem dX5_depart_17 : decode cX5_depart 17 = .ok (.invokevirtual 135, 3) := by decide +kernel
theorem dX5_depart_20 : decode cX5_depart 20 = .ok (.aload_n 0, 1) := by decide +kernel
theorem dX5_depart_21 : decode cX5_depart 21 = .ok (.getfield 37, 3) := by decide +kernel
theorem dX5_depart_24 : decode cX5_depart 24 = .ok (.invokevirtual 75, 3) := by decide +kernel
theorem dX5_depart_27 : decode cX5_depart 27 = .ok (.ireturn, 1) := by decide +kernel
theorem dX5_setAccepts_0 : decode cX5_setAccepts 0 = .ok (.aload_n 0, 1) := by decide +kernel
theorem dX5_setAccepts_1 : decode cX5_setAccepts 1 = .ok (.iload_n 1, 1) := by decide +kernel
theorem dX5_setAccepts_2 : decode cX5_setAccepts 2 = .ok (.invokevirtual 132, 3) := by decide +kernel
theorem dX5_setAccepts_5 : decode cX5_setAccepts 5 = .ok (.aload_n 0, 1) := by decide +kernel
theorem dX5_setAccepts_6 : decode cX5_setAccepts 6 = .ok (.iload_n 2, 1) := by decide +kernel
theorem dX5_setAccepts_7 : decode cX5_setAccepts 7 = .ok (.invokevirtual 116, 3) := by decide +kernel
theorem dX5_setAccepts_10 : decode cX5_setAccepts 10 = .ok (.aload_n 0, 1) := by decide +kernel
theorem dX5_setAccepts_11 : decode cX5_setAccepts 11 = .ok (.getfield 19, 3) := by decide +kernel
theorem dX5_setAccepts_14 : decode cX5_setAccepts 14 = .ok (.invokevirtual 68, 3) := by decide +kernel
theorem dX5_setAccepts_17 : decode cX5_setAccepts 17 = .ok (.aload_n 0, 1) := by decide +kernel
theorem dX5_setAccepts_18 : decode cX5_setAccepts 18 = .ok (.getfield 10, 3) := by decide +kernel
theorem dX5_setAccepts_21 : decode cX5_setAccepts 21 = .ok (.iload_n 1, 1) := by decide +kernel
theorem dX5_setAccepts_22 : decode cX5_setAccepts 22 = .ok (.iload_n 2, 1) := by decide +kernel
theorem dX5_setAccepts_23 : decode cX5_setAccepts 23 = .ok (.invokevirtual 138, 3) := by decide +kernel
theorem dX5_setAccepts_26 : decode cX5_setAccepts 26 = .ok (.aload_n 0, 1) := by decide +kernel
theorem dX5_setAccepts_27 : decode cX5_setAccepts 27 = .ok (.getfield 37, 3) := by decide +kernel
theorem dX5_setAccepts_30 : decode cX5_setAccepts 30 = .ok (.invokevirtual 75, 3) := by decide +kernel
theorem dX5_setAccepts_33 : decode cX5_setAccepts 33 = .ok (.pop, 1) := by decide +kernel
theorem dX5_setAccepts_34 : decode cX5_setAccepts 34 = .ok (.aload_n 0, 1) := by decide +kernel
theorem dX5_setAccepts_35 : decode cX5_setAccepts 35 = .ok (.getfield 10, 3) := by decide +kernel
theorem dX5_setAccepts_38 : decode cX5_setAccepts 38 = .ok (.iload_n 1, 1) := by decide +kernel
theorem dX5_setAccepts_39 : decode cX5_setAccepts 39 = .ok (.invokevirtual 142, 3) := by decide +kernel
theorem dX5_setAccepts_42 : decode cX5_setAccepts 42 = .ok (.ireturn, 1) := by decide +kernel
theorem dX5_resourceCount_0 : decode cX5_resourceCount 0 = .ok (.aload_n 0, 1) := by decide +kernel
theorem dX5_resourceCount_1 : decode cX5_resourceCount 1 = .ok (.getfield 10, 3) := by decide +kernel
theorem dX5_resourceCount_4 : decode cX5_resourceCount 4 = .ok (.getfield 59, 3) := by decide +kernel
theorem dX5_resourceCount_7 : decode cX5_resourceCount 7 = .ok (.ireturn, 1) := by decide +kernel
theorem dX5_arrivedCount_0 : decode cX5_arrivedCount 0 = .ok (.aload_n 0, 1) := by decide +kernel
theorem dX5_arrivedCount_1 : decode cX5_arrivedCount 1 = .ok (.getfield 10, 3) := by decide +kernel
theorem dX5_arrivedCount_4 : decode cX5_arrivedCount 4 = .ok (.getfield 119, 3) := by decide +kernel
theorem dX5_arrivedCount_7 : decode cX5_arrivedCount 7 = .ok (.ireturn, 1) := by decide +kernel
theorem dX5_state_0 : decode cX5_state 0 = .ok (.aload_n 0, 1) := by decide +kernel
theorem dX5_state_1 : decode cX5_state 1 = .ok (.iload_n 1, 1) := by decide +kernel
theorem dX5_state_2 : decode cX5_state 2 = .ok (.invokevirtual 157, 3) := by decide +kernel
theorem dX5_state_5 : decode cX5_state 5 = .ok (.aload_n 0, 1) := by decide +kernel
theorem dX5_state_6 : decode cX5_state 6 = .ok (.getfield 10, 3) := by decide +kernel
theorem dX5_state_9 : decode cX5_state 9 = .ok (.iload_n 1, 1) := by decide +kernel
theorem dX5_state_10 : decode cX5_state 10 = .ok (.invokevirtual 160, 3) := by decide +kernel
theorem dX5_state_13 : decode cX5_state 13 = .ok (.ireturn, 1) := by decide +kernel
theorem dX5_resourceOf_0 : decode cX5_resourceOf 0 = .ok (.aload_n 0, 1) := by decide +kernel
theorem dX5_resourceOf_1 : decode cX5_resourceOf 1 = .ok (.iload_n 1, 1) := by decide +kernel
theorem dX5_resourceOf_2 : decode cX5_resourceOf 2 = .ok (.invokevirtual 157, 3) := by decide +kernel
theorem dX5_resourceOf_5 : decode cX5_resourceOf 5 = .ok (.aload_n 0, 1) := by decide +kernel
theorem dX5_resourceOf_6 : decode cX5_resourceOf 6 = .ok (.getfield 10, 3) := by decide +kernel
theorem dX5_resourceOf_9 : decode cX5_resourceOf 9 = .ok (.iload_n 1, 1) := by decide +kernel
theorem dX5_resourceOf_10 : decode cX5_resourceOf 10 = .ok (.invokevirtual 142, 3) := by decide +kernel
theorem dX5_resourceOf_13 : decode cX5_resourceOf 13 = .ok (.ifCond .ne 13, 3) := by decide +kernel
theorem dX5_resourceOf_16 : decode cX5_resourceOf 16 = .ok (.new 163, 3) := by decide +kernel
theorem dX5_resourceOf_19 : decode cX5_resourceOf 19 = .ok (.dup, 1) := by decide +kernel
theorem dX5_resourceOf_20 : decode cX5_resourceOf 20 = .ok (.ldc 165, 2) := by decide +kernel
theorem dX5_resourceOf_22 : decode cX5_resourceOf 22 = .ok (.invokespecial 167, 3) := by decide +kernel
theorem dX5_resourceOf_25 : decode cX5_resourceOf 25 = .ok (.athrow, 1) := by decide +kernel
theorem dX5_resourceOf_26 : decode cX5_resourceOf 26 = .ok (.aload_n 0, 1) := by decide +kernel
theorem dX5_resourceOf_27 : decode cX5_resourceOf 27 = .ok (.getfield 10, 3) := by decide +kernel
theorem dX5_resourceOf_30 : decode cX5_resourceOf 30 = .ok (.getfield 168, 3) := by decide +kernel
theorem dX5_resourceOf_33 : decode cX5_resourceOf 33 = .ok (.iload_n 1, 1) := by decide +kernel
theorem dX5_resourceOf_34 : decode cX5_resourceOf 34 = .ok (.iaload, 1) := by decide +kernel
theorem dX5_resourceOf_35 : decode cX5_resourceOf 35 = .ok (.ireturn, 1) := by decide +kernel
theorem dX5_movesOf_0 : decode cX5_movesOf 0 = .ok (.aload_n 0, 1) := by decide +kernel
theorem dX5_movesOf_1 : decode cX5_movesOf 1 = .ok (.iload_n 1, 1) := by decide +kernel
theorem dX5_movesOf_2 : decode cX5_movesOf 2 = .ok (.invokevirtual 157, 3) := by decide +kernel
theorem dX5_movesOf_5 : decode cX5_movesOf 5 = .ok (.aload_n 0, 1) := by decide +kernel
theorem dX5_movesOf_6 : decode cX5_movesOf 6 = .ok (.getfield 10, 3) := by decide +kernel
theorem dX5_movesOf_9 : decode cX5_movesOf 9 = .ok (.getfield 171, 3) := by decide +kernel
theorem dX5_movesOf_12 : decode cX5_movesOf 12 = .ok (.iload_n 1, 1) := by decide +kernel
theorem dX5_movesOf_13 : decode cX5_movesOf 13 = .ok (.iaload, 1) := by decide +kernel
theorem dX5_movesOf_14 : decode cX5_movesOf 14 = .ok (.ireturn, 1) := by decide +kernel
theorem dX5_moveCount_0 : decode cX5_moveCount 0 = .ok (.aload_n 0, 1) := by decide +kernel
theorem dX5_moveCount_1 : decode cX5_moveCount 1 = .ok (.getfield 19, 3) := by decide +kernel
theorem dX5_moveCount_4 : decode cX5_moveCount 4 = .ok (.getfield 174, 3) := by decide +kernel
theorem dX5_moveCount_7 : decode cX5_moveCount 7 = .ok (.ireturn, 1) := by decide +kernel
theorem dX5_movedRequest_0 : decode cX5_movedRequest 0 = .ok (.aload_n 0, 1) := by decide +kernel
theorem dX5_movedRequest_1 : decode cX5_movedRequest 1 = .ok (.iload_n 1, 1) := by decide +kernel
theorem dX5_movedRequest_2 : decode cX5_movedRequest 2 = .ok (.invokevirtual 177, 3) := by decide +kernel
theorem dX5_movedRequest_5 : decode cX5_movedRequest 5 = .ok (.aload_n 0, 1) := by decide +kernel
theorem dX5_movedRequest_6 : decode cX5_movedRequest 6 = .ok (.getfield 19, 3) := by decide +kernel
theorem dX5_movedRequest_9 : decode cX5_movedRequest 9 = .ok (.getfield 180, 3) := by decide +kernel
theorem dX5_movedRequest_12 : decode cX5_movedRequest 12 = .ok (.iload_n 1, 1) := by decide +kernel
theorem dX5_movedRequest_13 : decode cX5_movedRequest 13 = .ok (.iaload, 1) := by decide +kernel
theorem dX5_movedRequest_14 : decode cX5_movedRequest 14 = .ok (.ireturn, 1) := by decide +kernel
theorem dX5_movedTo_0 : decode cX5_movedTo 0 = .ok (.aload_n 0, 1) := by decide +kernel
theorem dX5_movedTo_1 : decode cX5_movedTo 1 = .ok (.iload_n 1, 1) := by decide +kernel
theorem dX5_movedTo_2 : decode cX5_movedTo 2 = .ok (.invokevirtual 177, 3) := by decide +kernel
theorem dX5_movedTo_5 : decode cX5_movedTo 5 = .ok (.aload_n 0, 1) := by decide +kernel
theorem dX5_movedTo_6 : decode cX5_movedTo 6 = .ok (.getfield 19, 3) := by decide +kernel
theorem dX5_movedTo_9 : decode cX5_movedTo 9 = .ok (.getfield 183, 3) := by decide +kernel
theorem dX5_movedTo_12 : decode cX5_movedTo 12 = .ok (.iload_n 1, 1) := by decide +kernel
theorem dX5_movedTo_13 : decode cX5_movedTo 13 = .ok (.iaload, 1) := by decide +kernel
theorem dX5_movedTo_14 : decode cX5_movedTo 14 = .ok (.ireturn, 1) := by decide +kernel
theorem dX5_requireGroup_0 : decode cX5_requireGroup 0 = .ok (.iload_n 1, 1) := by decide +kernel
theorem dX5_requireGroup_1 : decode cX5_requireGroup 1 = .ok (.iconst 0, 1) := by decide +kernel
theorem dX5_requireGroup_2 : decode cX5_requireGroup 2 = .ok (.iconst 3, 1) := by decide +kernel
theorem dX5_requireGroup_3 : decode cX5_requireGroup 3 = .ok (.invokestatic 48, 3) := by decide +kernel
theorem dX5_requireGroup_6 : decode cX5_requireGroup 6 = .ok (.ifCond .ne 13, 3) := by decide +kernel
theorem dX5_requireGroup_9 : decode cX5_requireGroup 9 = .ok (.new 208, 3) := by decide +kernel
theorem dX5_requireGroup_12 : decode cX5_requireGroup 12 = .ok (.dup, 1) := by decide +kernel
theorem dX5_requireGroup_13 : decode cX5_requireGroup 13 = .ok (.ldc 213, 2) := by decide +kernel
theorem dX5_requireGroup_15 : decode cX5_requireGroup 15 = .ok (.invokespecial 212, 3) := by decide +kernel
theorem dX5_requireGroup_18 : decode cX5_requireGroup 18 = .ok (.athrow, 1) := by decide +kernel
theorem dX5_requireGroup_19 : decode cX5_requireGroup 19 = .ok (.return_, 1) := by decide +kernel
theorem dX5_requireRequest_0 : decode cX5_requireRequest 0 = .ok (.iload_n 1, 1) := by decide +kernel
theorem dX5_requireRequest_1 : decode cX5_requireRequest 1 = .ok (.iconst 0, 1) := by decide +kernel
theorem dX5_requireRequest_2 : decode cX5_requireRequest 2 = .ok (.aload_n 0, 1) := by decide +kernel
theorem dX5_requireRequest_3 : decode cX5_requireRequest 3 = .ok (.getfield 10, 3) := by decide +kernel
theorem dX5_requireRequest_6 : decode cX5_requireRequest 6 = .ok (.getfield 119, 3) := by decide +kernel
theorem dX5_requireRequest_9 : decode cX5_requireRequest 9 = .ok (.iconst 1, 1) := by decide +kernel
theorem dX5_requireRequest_10 : decode cX5_requireRequest 10 = .ok (.isub, 1) := by decide +kernel
theorem dX5_requireRequest_11 : decode cX5_requireRequest 11 = .ok (.invokestatic 48, 3) := by decide +kernel
theorem dX5_requireRequest_14 : decode cX5_requireRequest 14 = .ok (.ifCond .ne 13, 3) := by decide +kernel
theorem dX5_requireRequest_17 : decode cX5_requireRequest 17 = .ok (.new 208, 3) := by decide +kernel
theorem dX5_requireRequest_20 : decode cX5_requireRequest 20 = .ok (.dup, 1) := by decide +kernel
theorem dX5_requireRequest_21 : decode cX5_requireRequest 21 = .ok (.ldc 215, 2) := by decide +kernel
theorem dX5_requireRequest_23 : decode cX5_requireRequest 23 = .ok (.invokespecial 212, 3) := by decide +kernel
theorem dX5_requireRequest_26 : decode cX5_requireRequest 26 = .ok (.athrow, 1) := by decide +kernel
theorem dX5_requireRequest_27 : decode cX5_requireRequest 27 = .ok (.return_, 1) := by decide +kernel
theorem dX5_requirePresent_0 : decode cX5_requirePresent 0 = .ok (.aload_n 0, 1) := by decide +kernel
theorem dX5_requirePresent_1 : decode cX5_requirePresent 1 = .ok (.iload_n 1, 1) := by decide +kernel
theorem dX5_requirePresent_2 : decode cX5_requirePresent 2 = .ok (.invokevirtual 157, 3) := by decide +kernel
theorem dX5_requirePresent_5 : decode cX5_requirePresent 5 = .ok (.aload_n 0, 1) := by decide +kernel
theorem dX5_requirePresent_6 : decode cX5_requirePresent 6 = .ok (.getfield 10, 3) := by decide +kernel
theorem dX5_requirePresent_9 : decode cX5_requirePresent 9 = .ok (.iload_n 1, 1) := by decide +kernel
theorem dX5_requirePresent_10 : decode cX5_requirePresent 10 = .ok (.invokevirtual 197, 3) := by decide +kernel
theorem dX5_requirePresent_13 : decode cX5_requirePresent 13 = .ok (.ifCond .eq 13, 3) := by decide +kernel
theorem dX5_requirePresent_16 : decode cX5_requirePresent 16 = .ok (.new 163, 3) := by decide +kernel
theorem dX5_requirePresent_19 : decode cX5_requirePresent 19 = .ok (.dup, 1) := by decide +kernel
theorem dX5_requirePresent_20 : decode cX5_requirePresent 20 = .ok (.ldc 217, 2) := by decide +kernel
theorem dX5_requirePresent_22 : decode cX5_requirePresent 22 = .ok (.invokespecial 167, 3) := by decide +kernel
theorem dX5_requirePresent_25 : decode cX5_requirePresent 25 = .ok (.athrow, 1) := by decide +kernel
theorem dX5_requirePresent_26 : decode cX5_requirePresent 26 = .ok (.return_, 1) := by decide +kernel
theorem dX5_requireMask_0 : decode cX5_requireMask 0 = .ok (.iload_n 1, 1) := by decide +kernel
theorem dX5_requireMask_1 : decode cX5_requireMask 1 = .ok (.ifCond .lt 17, 3) := by decide +kernel
theorem dX5_requireMask_4 : decode cX5_requireMask 4 = .ok (.iload_n 1, 1) := by decide +kernel
theorem dX5_requireMask_5 : decode cX5_requireMask 5 = .ok (.aload_n 0, 1) := by decide +kernel
theorem dX5_requireMask_6 : decode cX5_requireMask 6 = .ok (.getfield 10, 3) := by decide +kernel
theorem dX5_requireMask_9 : decode cX5_requireMask 9 = .ok (.invokevirtual 219, 3) := by decide +kernel
theorem dX5_requireMask_12 : decode cX5_requireMask 12 = .ok (.iconst (-1), 1) := by decide +kernel
theorem dX5_requireMask_13 : decode cX5_requireMask 13 = .ok (.ixor, 1) := by decide +kernel
theorem dX5_requireMask_14 : decode cX5_requireMask 14 = .ok (.iand, 1) := by decide +kernel
theorem dX5_requireMask_15 : decode cX5_requireMask 15 = .ok (.ifCond .eq 13, 3) := by decide +kernel
theorem dX5_requireMask_18 : decode cX5_requireMask 18 = .ok (.new 52, 3) := by decide +kernel
theorem dX5_requireMask_21 : decode cX5_requireMask 21 = .ok (.dup, 1) := by decide +kernel
theorem dX5_requireMask_22 : decode cX5_requireMask 22 = .ok (.ldc 222, 2) := by decide +kernel
theorem dX5_requireMask_24 : decode cX5_requireMask 24 = .ok (.invokespecial 56, 3) := by decide +kernel
theorem dX5_requireMask_27 : decode cX5_requireMask 27 = .ok (.athrow, 1) := by decide +kernel
theorem dX5_requireMask_28 : decode cX5_requireMask 28 = .ok (.return_, 1) := by decide +kernel
theorem dX5_requireLogged_0 : decode cX5_requireLogged 0 = .ok (.iload_n 1, 1) := by decide +kernel
theorem dX5_requireLogged_1 : decode cX5_requireLogged 1 = .ok (.iconst 0, 1) := by decide +kernel
theorem dX5_requireLogged_2 : decode cX5_requireLogged 2 = .ok (.aload_n 0, 1) := by decide +kernel
theorem dX5_requireLogged_3 : decode cX5_requireLogged 3 = .ok (.getfield 19, 3) := by decide +kernel
theorem dX5_requireLogged_6 : decode cX5_requireLogged 6 = .ok (.getfield 174, 3) := by decide +kernel
theorem dX5_requireLogged_9 : decode cX5_requireLogged 9 = .ok (.iconst 1, 1) := by decide +kernel
theorem dX5_requireLogged_10 : decode cX5_requireLogged 10 = .ok (.isub, 1) := by decide +kernel
theorem dX5_requireLogged_11 : decode cX5_requireLogged 11 = .ok (.invokestatic 48, 3) := by decide +kernel
theorem dX5_requireLogged_14 : decode cX5_requireLogged 14 = .ok (.ifCond .ne 13, 3) := by decide +kernel
theorem dX5_requireLogged_17 : decode cX5_requireLogged 17 = .ok (.new 208, 3) := by decide +kernel
theorem dX5_requireLogged_20 : decode cX5_requireLogged 20 = .ok (.dup, 1) := by decide +kernel
theorem dX5_requireLogged_21 : decode cX5_requireLogged 21 = .ok (.ldc 224, 2) := by decide +kernel
theorem dX5_requireLogged_23 : decode cX5_requireLogged 23 = .ok (.invokespecial 212, 3) := by decide +kernel
theorem dX5_requireLogged_26 : decode cX5_requireLogged 26 = .ok (.athrow, 1) := by decide +kernel
theorem dX5_requireLogged_27 : decode cX5_requireLogged 27 = .ok (.return_, 1) := by decide +kernel
theorem dX5_isWithin_0 : decode cX5_isWithin 0 = .ok (.iload_n 0, 1) := by decide +kernel
theorem dX5_isWithin_1 : decode cX5_isWithin 1 = .ok (.iload_n 1, 1) := by decide +kernel
theorem dX5_isWithin_2 : decode cX5_isWithin 2 = .ok (.if_icmp .lt 12, 3) := by decide +kernel
theorem dX5_isWithin_5 : decode cX5_isWithin 5 = .ok (.iload_n 0, 1) := by decide +kernel
theorem dX5_isWithin_6 : decode cX5_isWithin 6 = .ok (.iload_n 2, 1) := by decide +kernel
theorem dX5_isWithin_7 : decode cX5_isWithin 7 = .ok (.if_icmp .gt 7, 3) := by decide +kernel
theorem dX5_isWithin_10 : decode cX5_isWithin 10 = .ok (.iconst 1, 1) := by decide +kernel
theorem dX5_isWithin_11 : decode cX5_isWithin 11 = .ok (.goto 4, 3) := by decide +kernel
theorem dX5_isWithin_14 : decode cX5_isWithin 14 = .ok (.iconst 0, 1) := by decide +kernel
theorem dX5_isWithin_15 : decode cX5_isWithin 15 = .ok (.ireturn, 1) := by decide +kernel
theorem dX5_hasBit_0 : decode cX5_hasBit 0 = .ok (.iload_n 0, 1) := by decide +kernel
theorem dX5_hasBit_1 : decode cX5_hasBit 1 = .ok (.iload_n 1, 1) := by decide +kernel
theorem dX5_hasBit_2 : decode cX5_hasBit 2 = .ok (.ishr, 1) := by decide +kernel
theorem dX5_hasBit_3 : decode cX5_hasBit 3 = .ok (.iconst 1, 1) := by decide +kernel
theorem dX5_hasBit_4 : decode cX5_hasBit 4 = .ok (.iand, 1) := by decide +kernel
theorem dX5_hasBit_5 : decode cX5_hasBit 5 = .ok (.ifCond .eq 7, 3) := by decide +kernel
theorem dX5_hasBit_8 : decode cX5_hasBit 8 = .ok (.iconst 1, 1) := by decide +kernel
theorem dX5_hasBit_9 : decode cX5_hasBit 9 = .ok (.goto 4, 3) := by decide +kernel
theorem dX5_hasBit_12 : decode cX5_hasBit 12 = .ok (.iconst 0, 1) := by decide +kernel
theorem dX5_hasBit_13 : decode cX5_hasBit 13 = .ok (.ireturn, 1) := by decide +kernel
theorem dX5_lowestResource_0 : decode cX5_lowestResource 0 = .ok (.iconst 0, 1) := by decide +kernel
theorem dX5_lowestResource_1 : decode cX5_lowestResource 1 = .ok (.istore_n 1, 1) := by decide +kernel
theorem dX5_lowestResource_2 : decode cX5_lowestResource 2 = .ok (.iload_n 1, 1) := by decide +kernel
theorem dX5_lowestResource_3 : decode cX5_lowestResource 3 = .ok (.bipush 12, 2) := by decide +kernel
theorem dX5_lowestResource_5 : decode cX5_lowestResource 5 = .ok (.if_icmp .ge 19, 3) := by decide +kernel
theorem dX5_lowestResource_8 : decode cX5_lowestResource 8 = .ok (.iload_n 0, 1) := by decide +kernel
theorem dX5_lowestResource_9 : decode cX5_lowestResource 9 = .ok (.iload_n 1, 1) := by decide +kernel
theorem dX5_lowestResource_10 : decode cX5_lowestResource 10 = .ok (.invokestatic 226, 3) := by decide +kernel
theorem dX5_lowestResource_13 : decode cX5_lowestResource 13 = .ok (.ifCond .eq 5, 3) := by decide +kernel
theorem dX5_lowestResource_16 : decode cX5_lowestResource 16 = .ok (.iload_n 1, 1) := by decide +kernel
theorem dX5_lowestResource_17 : decode cX5_lowestResource 17 = .ok (.ireturn, 1) := by decide +kernel
theorem dX5_lowestResource_18 : decode cX5_lowestResource 18 = .ok (.iinc 1 1, 3) := by decide +kernel
theorem dX5_lowestResource_21 : decode cX5_lowestResource 21 = .ok (.goto (-19), 3) := by decide +kernel
theorem dX5_lowestResource_24 : decode cX5_lowestResource 24 = .ok (.iconst (-1), 1) := by decide +kernel
theorem dX5_lowestResource_25 : decode cX5_lowestResource 25 = .ok (.ireturn, 1) := by decide +kernel
end
section
/-! THE JUDGEMENT JW: from this point of the method (world, pc, locals, stack) the machine comes to Q. Rows turn it instruction by instruction; heaps, written places and locals' arrays are hidden in it. -/
abbrev jG : Type := va_G × (Nat → ClassId)
def jT (G : jG) : List (ClassId × FieldType) := [(G.2 0, .int), (G.2 1, .boolean)]
abbrev JX : Type := Program × Launch × Env × Room × State × MethodId × Array Value × List Frame × Method × Code × (State → Prop) × (Nat → Prop)
def jl0 : Nat → List (Option Value) → List (Nat × Value)
  | _, [] => []
  | k, some v :: t => (k, v) :: jl0 (k + 1) t
  | k, none :: t => jl0 (k + 1) t
theorem jl0_mem : ∀ (L : List (Option Value)) (k : Nat) (q : Nat × Value), q ∈ jl0 k L ↔ ∃ j, L[j]? = some (some q.2) ∧ q.1 = k + j
  | [], k, q => by simp [jl0]
  | some v :: t, k, q => by
    simp only [jl0, List.mem_cons, jl0_mem t (k + 1) q]
    constructor
    · rintro (rfl | ⟨j, h1, h2⟩)
      · exact ⟨0, rfl, rfl⟩
      · exact ⟨j + 1, by simpa using h1, by omega⟩
    · rintro ⟨j, h1, h2⟩
      cases j with
      | zero =>
        left
        simp at h1
        obtain ⟨a, b⟩ := q
        simp_all
      | succ j => right; exact ⟨j, by simpa using h1, by omega⟩
  | none :: t, k, q => by
    simp only [jl0, jl0_mem t (k + 1) q]
    constructor
    · rintro ⟨j, h1, h2⟩
      exact ⟨j + 1, by simpa using h1, by omega⟩
    · rintro ⟨j, h1, h2⟩
      cases j with
      | zero => simp at h1
      | succ j => exact ⟨j, by simpa using h1, by omega⟩
def JW (G : jG) (X : JX) (k n : Nat) (w : va_W) (pc : Nat) (L : List (Option Value)) (st : List Value) : Prop :=
  match X with
  | (p, l, e, R, s, m, args, below, meth, c, Q, A) => ∀ (H : Heap) (locs : List Loc) (ls : Array Slot), va_P G.1 vwCl w H → va_D A w → va_S A s.heap H locs → lv_has ls L.length (jl0 0 L) → W p l e R s m args below meth c H locs k n Q (F0 m pc ls st)
/-- what stays the same in a method's body -/
def JC (G : jG) (X : JX) (rm : Room) (cc : ByteArray) (own : String) (nL : Nat) : Prop :=
  match X with
  | (p, _l, _e, R, s, m, args, _below, meth, c, _Q, A) => p.tables.exec = Jvm.exec ∧ c.code = cc ∧ c.maxLocals = nL ∧ s.vm.findClass own = some m.cls ∧ (∀ w ∈ jAll, w.before args s = true) ∧ (∀ w ∈ jNest, va_Nw w s) ∧ va_K G.1 vwCl (jT G) s ∧ meth.locks = false ∧ (∀ q : Nat, s.heap.size ≤ q → A q) ∧ R = rm
/-- an int by its number; a boolean; rows of them -/
def iI (z : Int) : Int32 := Int32.ofInt z
def jb (b : Bool) : Int32 := if b then iI 1 else iI 0
def jiI (f : Nat → Int) : Nat → Int32 := fun j => iI (f j)
def jbF (f : Nat → Bool) : Nat → Int32 := fun j => jb (f j)
def updf {α : Type} (f : Nat → α) (k : Nat) (v : α) : Nat → α := fun j => if j = k then v else f j
abbrev jr (a : Int) : Prop := -2147483648 ≤ a ∧ a < 2147483648
theorem iI_add (a b : Int) : iI a + iI b = iI (a + b) := (Int32.ofInt_add a b).symm
theorem iI_sub (a b : Int) : iI a - iI b = iI (a - b) := (Int32.ofInt_sub a b).symm
theorem iI_mul (a b : Int) : iI a * iI b = iI (a * b) := (Int32.ofInt_mul a b).symm
theorem iI_toInt {a : Int} (h : jr a) : (iI a).toInt = a := Int32.toInt_ofInt_of_le (by have := h.1; omega) (by have := h.2; omega)
theorem iI_lt {a b : Int} (ha : jr a) (hb : jr b) : iI a < iI b ↔ a < b := by rw [Int32.lt_iff_toInt_lt, iI_toInt ha, iI_toInt hb]
theorem iI_le {a b : Int} (ha : jr a) (hb : jr b) : iI a ≤ iI b ↔ a ≤ b := by rw [Int32.le_iff_toInt_le, iI_toInt ha, iI_toInt hb]
theorem iI_eq {a b : Int} (ha : jr a) (hb : jr b) : iI a = iI b ↔ a = b := by
  constructor
  · intro h
    have h2 := congrArg Int32.toInt h
    rwa [iI_toInt ha, iI_toInt hb] at h2
  · intro h; rw [h]
theorem iI_0 : (0 : Int32) = iI 0 := rfl
theorem iI_self (x : Int32) : iI x.toInt = x := Int32.ofInt_toInt x
theorem jr_self (x : Int32) : jr x.toInt := ⟨by have := Int32.le_toInt x; omega, by have := Int32.toInt_lt x; omega⟩
theorem iI_in {k n : Nat} (h : k < n) (hn : n < 1000000) : vp_in (iI (k : Int)) n := by
  rw [vp_in_iff, iI_toInt ⟨by omega, by omega⟩]
  omega
theorem iI_clamp {k : Nat} (h : k < 1000000) : (iI (k : Int)).toNatClampNeg = k := by
  show (iI (k : Int)).toInt.toNat = k
  rw [iI_toInt ⟨by omega, by omega⟩]
  omega
theorem jiI_upd (f : Nat → Int) (k : Nat) (v : Int) : upd (jiI f) k (iI v) = jiI (updf f k v) := by
  funext j
  simp only [upd, jiI, updf]
  split <;> rfl
theorem raw_upd (f : Nat → Int32) (k : Nat) (v : Int32) : upd f k v = updf f k v := by
  funext j
  simp only [upd, updf]
theorem jbF_upd (f : Nat → Bool) (k : Nat) (v : Bool) : upd (jbF f) k (vp_nar .boolean (jb v)) = jbF (updf f k v) := by
  have e : vp_nar .boolean (jb v) = jb v := by cases v <;> rfl
  rw [e]
  funext j
  simp only [upd, jbF, updf]
  split <;> rfl
theorem updL_upd (f : Nat → Int64) (k : Nat) (v : Int64) : vp_updL f k v = updf f k v := by
  funext j
  simp only [vp_updL, updf]
def jc1 : Option Value → Bool
  | none => true
  | some v => v.category == 1
theorem jl_store1 {ls : Array Slot} {n i : Nat} {L : List (Option Value)} {v : Value} (hi : i < L.length) (hc : ∀ a, 0 < i → L[i - 1]? = some a → jc1 a = true)
    (h : lv_has ls n ((i, v) :: (jl0 0 L).filter (fun q => !(q.1 == i) && !(q.1 + 1 == i && q.2.category == 2)))) : lv_has ls n (jl0 0 (L.set i (some v))) := by
  refine ⟨h.1, h.2.1, fun q hq => h.2.2 q ?_⟩
  obtain ⟨j, h1, h2⟩ := (jl0_mem _ _ _).mp hq
  rw [Nat.zero_add] at h2
  by_cases hij : j = i
  · subst hij
    rw [List.getElem?_set_self hi] at h1
    simp only [Option.some.injEq] at h1
    obtain ⟨a, b⟩ := q
    simp only at h1 h2
    subst h1; subst h2
    exact List.mem_cons_self
  · rw [List.getElem?_set_ne (Ne.symm hij)] at h1
    refine List.mem_cons_of_mem _ (List.mem_filter.mpr ⟨(jl0_mem _ _ _).mpr ⟨j, h1, by omega⟩, ?_⟩)
    simp only [h2, Bool.and_eq_true, Bool.not_eq_true', beq_eq_false_iff_ne, ne_eq, hij, not_false_eq_true, true_and, Bool.and_eq_false_imp, beq_iff_eq]
    intro h3 h4
    have h5 := hc (some q.2) (by omega) (by rw [← h3]; simpa using h1)
    simp [jc1, h4] at h5
theorem jl_store2 {ls : Array Slot} {n i : Nat} {L : List (Option Value)} {v : Value} (hi : i + 1 < L.length) (hc : ∀ a, 0 < i → L[i - 1]? = some a → jc1 a = true)
    (h : lv_has ls n ((i, v) :: (jl0 0 L).filter (fun q => !(q.1 == i) && (!(q.1 == i + 1) && !(q.1 + 1 == i && q.2.category == 2))))) : lv_has ls n (jl0 0 ((L.set i (some v)).set (i + 1) none)) := by
  refine ⟨h.1, h.2.1, fun q hq => h.2.2 q ?_⟩
  obtain ⟨j, h1, h2⟩ := (jl0_mem _ _ _).mp hq
  rw [Nat.zero_add] at h2
  by_cases hij1 : j = i + 1
  · subst hij1
    rw [List.getElem?_set_self (by rw [List.length_set]; exact hi)] at h1
    cases h1
  · rw [List.getElem?_set_ne (Ne.symm hij1)] at h1
    by_cases hij : j = i
    · subst hij
      rw [List.getElem?_set_self (by omega)] at h1
      simp only [Option.some.injEq] at h1
      obtain ⟨a, b⟩ := q
      simp only at h1 h2
      subst h1; subst h2
      exact List.mem_cons_self
    · rw [List.getElem?_set_ne (Ne.symm hij)] at h1
      refine List.mem_cons_of_mem _ (List.mem_filter.mpr ⟨(jl0_mem _ _ _).mpr ⟨j, h1, by omega⟩, ?_⟩)
      simp only [h2, Bool.and_eq_true, Bool.not_eq_true', beq_eq_false_iff_ne, ne_eq, hij, hij1, not_false_eq_true, true_and, Bool.and_eq_false_imp, beq_iff_eq]
      intro h3 h4
      have h5 := hc (some q.2) (by omega) (by rw [← h3]; simpa using h1)
      simp [jc1, h4] at h5
section JR
variable {G : jG} {X : JX} {k n pc : Nat} {w : va_W} {L : List (Option Value)} {rest : List Value} {rm : Room} {cc : ByteArray} {own : String} {nL : Nat}
theorem jw_iconst {z : Int} (C : JC G X rm cc own nL) (d : decode cc pc = .ok (.iconst z, 1))  (kk : JW G X k n w (pc + 1) L (.int (iI z) :: rest)) : JW G X k n w (pc) L (rest) := by
  obtain ⟨p, l, e, R, s, m, args, below, meth, c, Q, A⟩ := X
  obtain ⟨hx, hb, hml, hown, hts, hnw, hK, hlk, hA, hR⟩ := C
  intro H locs ls hP hD hS hl
  refine lv_iconst (v := iI z) hx hb d rfl ?_
  exact kk H locs ls hP hD hS hl
theorem jw_bipush {z : Int} (C : JC G X rm cc own nL) (d : decode cc pc = .ok (.bipush z, 2)) (hz : (Int8.ofInt z).toInt32 = iI z) (kk : JW G X k n w (pc + 2) L (.int (iI z) :: rest)) : JW G X k n w (pc) L (rest) := by
  obtain ⟨p, l, e, R, s, m, args, below, meth, c, Q, A⟩ := X
  obtain ⟨hx, hb, hml, hown, hts, hnw, hK, hlk, hA, hR⟩ := C
  intro H locs ls hP hD hS hl
  refine lv_bipush (v := iI z) hx hb d hz ?_
  exact kk H locs ls hP hD hS hl
theorem jw_sipush {z : Int} (C : JC G X rm cc own nL) (d : decode cc pc = .ok (.sipush z, 3)) (hz : (Int16.ofInt z).toInt32 = iI z) (kk : JW G X k n w (pc + 3) L (.int (iI z) :: rest)) : JW G X k n w (pc) L (rest) := by
  obtain ⟨p, l, e, R, s, m, args, below, meth, c, Q, A⟩ := X
  obtain ⟨hx, hb, hml, hown, hts, hnw, hK, hlk, hA, hR⟩ := C
  intro H locs ls hP hD hS hl
  refine lv_sipush (v := iI z) hx hb d hz ?_
  exact kk H locs ls hP hD hS hl
theorem jw_lconst {z : Fin 2} (C : JC G X rm cc own nL) (d : decode cc pc = .ok (.lconst z, 1))  (kk : JW G X k n w (pc + 1) L (.long (Int64.ofNat (z : Nat)) :: rest)) : JW G X k n w (pc) L (rest) := by
  obtain ⟨p, l, e, R, s, m, args, below, meth, c, Q, A⟩ := X
  obtain ⟨hx, hb, hml, hown, hts, hnw, hK, hlk, hA, hR⟩ := C
  intro H locs ls hP hD hS hl
  refine lv_lconst hx hb d rfl ?_
  exact kk H locs ls hP hD hS hl
theorem jw_dconst0  (C : JC G X rm cc own nL) (d : decode cc pc = .ok (.dconst 0, 1))  (kk : JW G X k n w (pc + 1) L (.double FP.dconst0 :: rest)) : JW G X k n w (pc) L (rest) := by
  obtain ⟨p, l, e, R, s, m, args, below, meth, c, Q, A⟩ := X
  obtain ⟨hx, hb, hml, hown, hts, hnw, hK, hlk, hA, hR⟩ := C
  intro H locs ls hP hD hS hl
  refine lv_dconst0 hx hb d ?_
  exact kk H locs ls hP hD hS hl
theorem jw_dconst1  (C : JC G X rm cc own nL) (d : decode cc pc = .ok (.dconst 1, 1))  (kk : JW G X k n w (pc + 1) L (.double FP.dconst1 :: rest)) : JW G X k n w (pc) L (rest) := by
  obtain ⟨p, l, e, R, s, m, args, below, meth, c, Q, A⟩ := X
  obtain ⟨hx, hb, hml, hown, hts, hnw, hK, hlk, hA, hR⟩ := C
  intro H locs ls hP hD hS hl
  refine lv_dconst1 hx hb d ?_
  exact kk H locs ls hP hD hS hl
theorem jw_iadd {a b : Int} (C : JC G X rm cc own nL) (d : decode cc pc = .ok (.iadd, 1))  (kk : JW G X k n w (pc + 1) L (.int (iI (a + b)) :: rest)) : JW G X k n w (pc) L (.int (iI b) :: .int (iI a) :: rest) := by
  obtain ⟨p, l, e, R, s, m, args, below, meth, c, Q, A⟩ := X
  obtain ⟨hx, hb, hml, hown, hts, hnw, hK, hlk, hA, hR⟩ := C
  intro H locs ls hP hD hS hl
  refine lv_iadd hx hb d ?_
  rw [iI_add]
  exact kk H locs ls hP hD hS hl
theorem jw_isub {a b : Int} (C : JC G X rm cc own nL) (d : decode cc pc = .ok (.isub, 1))  (kk : JW G X k n w (pc + 1) L (.int (iI (a - b)) :: rest)) : JW G X k n w (pc) L (.int (iI b) :: .int (iI a) :: rest) := by
  obtain ⟨p, l, e, R, s, m, args, below, meth, c, Q, A⟩ := X
  obtain ⟨hx, hb, hml, hown, hts, hnw, hK, hlk, hA, hR⟩ := C
  intro H locs ls hP hD hS hl
  refine lv_isub hx hb d ?_
  rw [iI_sub]
  exact kk H locs ls hP hD hS hl
theorem jw_imul {a b : Int} (C : JC G X rm cc own nL) (d : decode cc pc = .ok (.imul, 1))  (kk : JW G X k n w (pc + 1) L (.int (iI (a * b)) :: rest)) : JW G X k n w (pc) L (.int (iI b) :: .int (iI a) :: rest) := by
  obtain ⟨p, l, e, R, s, m, args, below, meth, c, Q, A⟩ := X
  obtain ⟨hx, hb, hml, hown, hts, hnw, hK, hlk, hA, hR⟩ := C
  intro H locs ls hP hD hS hl
  refine lv_imul hx hb d ?_
  rw [iI_mul]
  exact kk H locs ls hP hD hS hl
theorem jw_iand {x y : Int32} (C : JC G X rm cc own nL) (d : decode cc pc = .ok (.iand, 1))  (kk : JW G X k n w (pc + 1) L (.int (x &&& y) :: rest)) : JW G X k n w (pc) L (.int y :: .int x :: rest) := by
  obtain ⟨p, l, e, R, s, m, args, below, meth, c, Q, A⟩ := X
  obtain ⟨hx, hb, hml, hown, hts, hnw, hK, hlk, hA, hR⟩ := C
  intro H locs ls hP hD hS hl
  refine lv_iand hx hb d ?_
  exact kk H locs ls hP hD hS hl
theorem jw_ior {x y : Int32} (C : JC G X rm cc own nL) (d : decode cc pc = .ok (.ior, 1))  (kk : JW G X k n w (pc + 1) L (.int (x ||| y) :: rest)) : JW G X k n w (pc) L (.int y :: .int x :: rest) := by
  obtain ⟨p, l, e, R, s, m, args, below, meth, c, Q, A⟩ := X
  obtain ⟨hx, hb, hml, hown, hts, hnw, hK, hlk, hA, hR⟩ := C
  intro H locs ls hP hD hS hl
  refine lv_ior hx hb d ?_
  exact kk H locs ls hP hD hS hl
theorem jw_ixor {x y : Int32} (C : JC G X rm cc own nL) (d : decode cc pc = .ok (.ixor, 1))  (kk : JW G X k n w (pc + 1) L (.int (x ^^^ y) :: rest)) : JW G X k n w (pc) L (.int y :: .int x :: rest) := by
  obtain ⟨p, l, e, R, s, m, args, below, meth, c, Q, A⟩ := X
  obtain ⟨hx, hb, hml, hown, hts, hnw, hK, hlk, hA, hR⟩ := C
  intro H locs ls hP hD hS hl
  refine lv_ixor hx hb d ?_
  exact kk H locs ls hP hD hS hl
theorem jw_ishl {x y : Int32} (C : JC G X rm cc own nL) (d : decode cc pc = .ok (.ishl, 1))  (kk : JW G X k n w (pc + 1) L (.int (x <<< (y &&& 31)) :: rest)) : JW G X k n w (pc) L (.int y :: .int x :: rest) := by
  obtain ⟨p, l, e, R, s, m, args, below, meth, c, Q, A⟩ := X
  obtain ⟨hx, hb, hml, hown, hts, hnw, hK, hlk, hA, hR⟩ := C
  intro H locs ls hP hD hS hl
  refine lv_ishl hx hb d ?_
  exact kk H locs ls hP hD hS hl
theorem jw_ishr {x y : Int32} (C : JC G X rm cc own nL) (d : decode cc pc = .ok (.ishr, 1))  (kk : JW G X k n w (pc + 1) L (.int (x >>> (y &&& 31)) :: rest)) : JW G X k n w (pc) L (.int y :: .int x :: rest) := by
  obtain ⟨p, l, e, R, s, m, args, below, meth, c, Q, A⟩ := X
  obtain ⟨hx, hb, hml, hown, hts, hnw, hK, hlk, hA, hR⟩ := C
  intro H locs ls hP hD hS hl
  refine lv_ishr hx hb d ?_
  exact kk H locs ls hP hD hS hl
theorem jw_isub_r {x y : Int32} (C : JC G X rm cc own nL) (d : decode cc pc = .ok (.isub, 1))  (kk : JW G X k n w (pc + 1) L (.int (x - y) :: rest)) : JW G X k n w (pc) L (.int y :: .int x :: rest) := by
  obtain ⟨p, l, e, R, s, m, args, below, meth, c, Q, A⟩ := X
  obtain ⟨hx, hb, hml, hown, hts, hnw, hK, hlk, hA, hR⟩ := C
  intro H locs ls hP hD hS hl
  refine lv_isub hx hb d ?_
  exact kk H locs ls hP hD hS hl
theorem jw_iadd_r {x y : Int32} (C : JC G X rm cc own nL) (d : decode cc pc = .ok (.iadd, 1))  (kk : JW G X k n w (pc + 1) L (.int (x + y) :: rest)) : JW G X k n w (pc) L (.int y :: .int x :: rest) := by
  obtain ⟨p, l, e, R, s, m, args, below, meth, c, Q, A⟩ := X
  obtain ⟨hx, hb, hml, hown, hts, hnw, hK, hlk, hA, hR⟩ := C
  intro H locs ls hP hD hS hl
  refine lv_iadd hx hb d ?_
  exact kk H locs ls hP hD hS hl
theorem jw_imul_r {x y : Int32} (C : JC G X rm cc own nL) (d : decode cc pc = .ok (.imul, 1))  (kk : JW G X k n w (pc + 1) L (.int (x * y) :: rest)) : JW G X k n w (pc) L (.int y :: .int x :: rest) := by
  obtain ⟨p, l, e, R, s, m, args, below, meth, c, Q, A⟩ := X
  obtain ⟨hx, hb, hml, hown, hts, hnw, hK, hlk, hA, hR⟩ := C
  intro H locs ls hP hD hS hl
  refine lv_imul hx hb d ?_
  exact kk H locs ls hP hD hS hl
theorem jw_ladd {x y : Int64} (C : JC G X rm cc own nL) (d : decode cc pc = .ok (.ladd, 1))  (kk : JW G X k n w (pc + 1) L (.long (x + y) :: rest)) : JW G X k n w (pc) L (.long y :: .long x :: rest) := by
  obtain ⟨p, l, e, R, s, m, args, below, meth, c, Q, A⟩ := X
  obtain ⟨hx, hb, hml, hown, hts, hnw, hK, hlk, hA, hR⟩ := C
  intro H locs ls hP hD hS hl
  refine lv_ladd hx hb d ?_
  exact kk H locs ls hP hD hS hl
theorem jw_lmul {x y : Int64} (C : JC G X rm cc own nL) (d : decode cc pc = .ok (.lmul, 1))  (kk : JW G X k n w (pc + 1) L (.long (x * y) :: rest)) : JW G X k n w (pc) L (.long y :: .long x :: rest) := by
  obtain ⟨p, l, e, R, s, m, args, below, meth, c, Q, A⟩ := X
  obtain ⟨hx, hb, hml, hown, hts, hnw, hK, hlk, hA, hR⟩ := C
  intro H locs ls hP hD hS hl
  refine lv_lmul hx hb d ?_
  exact kk H locs ls hP hD hS hl
theorem jw_lsub {x y : Int64} (C : JC G X rm cc own nL) (d : decode cc pc = .ok (.lsub, 1))  (kk : JW G X k n w (pc + 1) L (.long (x - y) :: rest)) : JW G X k n w (pc) L (.long y :: .long x :: rest) := by
  obtain ⟨p, l, e, R, s, m, args, below, meth, c, Q, A⟩ := X
  obtain ⟨hx, hb, hml, hown, hts, hnw, hK, hlk, hA, hR⟩ := C
  intro H locs ls hP hD hS hl
  refine lv_lsub hx hb d ?_
  exact kk H locs ls hP hD hS hl
theorem jw_i2l {x : Int32} (C : JC G X rm cc own nL) (d : decode cc pc = .ok (.i2l, 1))  (kk : JW G X k n w (pc + 1) L (.long x.toInt64 :: rest)) : JW G X k n w (pc) L (.int x :: rest) := by
  obtain ⟨p, l, e, R, s, m, args, below, meth, c, Q, A⟩ := X
  obtain ⟨hx, hb, hml, hown, hts, hnw, hK, hlk, hA, hR⟩ := C
  intro H locs ls hP hD hS hl
  refine lv_i2l hx hb d rfl ?_
  exact kk H locs ls hP hD hS hl
theorem jw_i2d {x : Int32} (C : JC G X rm cc own nL) (d : decode cc pc = .ok (.i2d, 1))  (kk : JW G X k n w (pc + 1) L (.double (FP.i2d x) :: rest)) : JW G X k n w (pc) L (.int x :: rest) := by
  obtain ⟨p, l, e, R, s, m, args, below, meth, c, Q, A⟩ := X
  obtain ⟨hx, hb, hml, hown, hts, hnw, hK, hlk, hA, hR⟩ := C
  intro H locs ls hP hD hS hl
  refine lv_i2d hx hb d ?_
  exact kk H locs ls hP hD hS hl
theorem jw_dadd {x y : UInt64} (C : JC G X rm cc own nL) (d : decode cc pc = .ok (.dadd, 1)) (hne : vf_n64 (FP.dadd x y)) (kk : JW G X k n w (pc + 1) L (.double (FP.dadd x y) :: rest)) : JW G X k n w (pc) L (.double y :: .double x :: rest) := by
  obtain ⟨p, l, e, R, s, m, args, below, meth, c, Q, A⟩ := X
  obtain ⟨hx, hb, hml, hown, hts, hnw, hK, hlk, hA, hR⟩ := C
  intro H locs ls hP hD hS hl
  refine lv_dadd hx hb d hne ?_
  exact kk H locs ls hP hD hS hl
theorem jw_dmul {x y : UInt64} (C : JC G X rm cc own nL) (d : decode cc pc = .ok (.dmul, 1)) (hne : vf_n64 (FP.dmul x y)) (kk : JW G X k n w (pc + 1) L (.double (FP.dmul x y) :: rest)) : JW G X k n w (pc) L (.double y :: .double x :: rest) := by
  obtain ⟨p, l, e, R, s, m, args, below, meth, c, Q, A⟩ := X
  obtain ⟨hx, hb, hml, hown, hts, hnw, hK, hlk, hA, hR⟩ := C
  intro H locs ls hP hD hS hl
  refine lv_dmul hx hb d hne ?_
  exact kk H locs ls hP hD hS hl
theorem jw_ddiv {x y : UInt64} (C : JC G X rm cc own nL) (d : decode cc pc = .ok (.ddiv, 1)) (hne : vf_n64 (FP.ddiv x y)) (kk : JW G X k n w (pc + 1) L (.double (FP.ddiv x y) :: rest)) : JW G X k n w (pc) L (.double y :: .double x :: rest) := by
  obtain ⟨p, l, e, R, s, m, args, below, meth, c, Q, A⟩ := X
  obtain ⟨hx, hb, hml, hown, hts, hnw, hK, hlk, hA, hR⟩ := C
  intro H locs ls hP hD hS hl
  refine lv_ddiv hx hb d hne ?_
  exact kk H locs ls hP hD hS hl
theorem jw_dcmp {x y : UInt64} {op : CmpOp} (C : JC G X rm cc own nL) (d : decode cc pc = .ok (.dcmp op, 1))  (kk : JW G X k n w (pc + 1) L (.int (Op.cmpValue (FP.dcmp x y) op) :: rest)) : JW G X k n w (pc) L (.double y :: .double x :: rest) := by
  obtain ⟨p, l, e, R, s, m, args, below, meth, c, Q, A⟩ := X
  obtain ⟨hx, hb, hml, hown, hts, hnw, hK, hlk, hA, hR⟩ := C
  intro H locs ls hP hD hS hl
  refine lv_dcmp hx hb d ?_
  exact kk H locs ls hP hD hS hl
theorem jw_lcmp {x y : Int64} (C : JC G X rm cc own nL) (d : decode cc pc = .ok (.lcmp, 1))  (kk : JW G X k n w (pc + 1) L (.int (lg_cmp x y) :: rest)) : JW G X k n w (pc) L (.long y :: .long x :: rest) := by
  obtain ⟨p, l, e, R, s, m, args, below, meth, c, Q, A⟩ := X
  obtain ⟨hx, hb, hml, hown, hts, hnw, hK, hlk, hA, hR⟩ := C
  intro H locs ls hP hD hS hl
  refine W.lcmp hx hb d ?_
  exact kk H locs ls hP hD hS hl
theorem jw_dup {v : Value} (C : JC G X rm cc own nL) (d : decode cc pc = .ok (.dup, 1)) (hv : v.category = 1) (kk : JW G X k n w (pc + 1) L (v :: v :: rest)) : JW G X k n w (pc) L (v :: rest) := by
  obtain ⟨p, l, e, R, s, m, args, below, meth, c, Q, A⟩ := X
  obtain ⟨hx, hb, hml, hown, hts, hnw, hK, hlk, hA, hR⟩ := C
  intro H locs ls hP hD hS hl
  refine lv_dup hx hb d hv ?_
  exact kk H locs ls hP hD hS hl
theorem jw_pop {v : Value} (C : JC G X rm cc own nL) (d : decode cc pc = .ok (.pop, 1)) (hv : v.category = 1) (kk : JW G X k n w (pc + 1) L (rest)) : JW G X k n w (pc) L (v :: rest) := by
  obtain ⟨p, l, e, R, s, m, args, below, meth, c, Q, A⟩ := X
  obtain ⟨hx, hb, hml, hown, hts, hnw, hK, hlk, hA, hR⟩ := C
  intro H locs ls hP hD hS hl
  refine lv_pop hx hb d hv ?_
  exact kk H locs ls hP hD hS hl
theorem jw_dup2 {v u : Value} (C : JC G X rm cc own nL) (d : decode cc pc = .ok (.dup2, 1)) (hv : v.category = 1) (hu : u.category = 1) (kk : JW G X k n w (pc + 1) L (v :: u :: v :: u :: rest)) : JW G X k n w (pc) L (v :: u :: rest) := by
  obtain ⟨p, l, e, R, s, m, args, below, meth, c, Q, A⟩ := X
  obtain ⟨hx, hb, hml, hown, hts, hnw, hK, hlk, hA, hR⟩ := C
  intro H locs ls hP hD hS hl
  refine lv_dup2_11 hx hb d hv hu ?_
  exact kk H locs ls hP hD hS hl
theorem jw_dup_x1 {v u : Value} (C : JC G X rm cc own nL) (d : decode cc pc = .ok (.dup_x1, 1)) (hv : v.category = 1) (hu : u.category = 1) (kk : JW G X k n w (pc + 1) L (v :: u :: v :: rest)) : JW G X k n w (pc) L (v :: u :: rest) := by
  obtain ⟨p, l, e, R, s, m, args, below, meth, c, Q, A⟩ := X
  obtain ⟨hx, hb, hml, hown, hts, hnw, hK, hlk, hA, hR⟩ := C
  intro H locs ls hP hD hS hl
  refine lv_dup_x1 hx hb d hv hu ?_
  exact kk H locs ls hP hD hS hl
theorem jw_ldc2d {idx : Nat} {v : UInt64} (C : JC G X rm cc own nL) (hw : Cond.constantDouble own idx v ∈ jAll) (d : decode cc pc = .ok (.ldc2_w idx, 3)) (kk : JW G X k n w (pc + 3) L (.double v :: rest)) : JW G X k n w (pc) L (rest) := by
  obtain ⟨p, l, e, R, s, m, args, below, meth, c, Q, A⟩ := X
  obtain ⟨hx, hb, hml, hown, hts, hnw, hK, hlk, hA, hR⟩ := C
  intro H locs ls hP hD hS hl
  refine lv_ldc2d hx hb hown (hts _ hw) d ?_
  exact kk H locs ls hP hD hS hl
theorem jw_ldc2l {idx : Nat} {v : Int64} (C : JC G X rm cc own nL) (hw : Cond.constantLong own idx v ∈ jAll) (d : decode cc pc = .ok (.ldc2_w idx, 3)) (kk : JW G X k n w (pc + 3) L (.long v :: rest)) : JW G X k n w (pc) L (rest) := by
  obtain ⟨p, l, e, R, s, m, args, below, meth, c, Q, A⟩ := X
  obtain ⟨hx, hb, hml, hown, hts, hnw, hK, hlk, hA, hR⟩ := C
  intro H locs ls hP hD hS hl
  refine lv_ldc2 hx hb hown (hts _ hw) d ?_
  exact kk H locs ls hP hD hS hl
theorem jw_goto {off : Int} {tgt : Nat} (C : JC G X rm cc own nL) (d : decode cc pc = .ok (.goto off, 3)) (ht : (pc : Int) + off = (tgt : Int)) (kk : JW G X k n w (tgt) L (rest)) : JW G X k n w (pc) L (rest) := by
  obtain ⟨p, l, e, R, s, m, args, below, meth, c, Q, A⟩ := X
  obtain ⟨hx, hb, hml, hown, hts, hnw, hK, hlk, hA, hR⟩ := C
  intro H locs ls hP hD hS hl
  refine lv_goto hx hb d ht ?_
  exact kk H locs ls hP hD hS hl
theorem jw_icmp_lt {a b : Int} {off : Int} {tgt : Nat} (C : JC G X rm cc own nL) (d : decode cc pc = .ok (.if_icmp .lt off, 3)) (ht : (pc : Int) + off = (tgt : Int)) (ra : jr a) (rb : jr b) (kt : a < b → JW G X k n w (tgt) L (rest)) (kf : ¬ (a < b) → JW G X k n w (pc + 3) L (rest)) : JW G X k n w (pc) L (.int (iI b) :: .int (iI a) :: rest) := by
  obtain ⟨p, l, e, R, s, m, args, below, meth, c, Q, A⟩ := X
  obtain ⟨hx, hb, hml, hown, hts, hnw, hK, hlk, hA, hR⟩ := C
  intro H locs ls hP hD hS hl
  refine lv_icmp_lt hx hb d ht (fun h => ?_) (fun h => ?_)
  · exact kt ((iI_lt ra rb).mp h) H locs ls hP hD hS hl
  · exact kf (fun e => h ((iI_lt ra rb).mpr e)) H locs ls hP hD hS hl
theorem jw_if_lt {a : Int} {off : Int} {tgt : Nat} (C : JC G X rm cc own nL) (d : decode cc pc = .ok (.ifCond .lt off, 3)) (ht : (pc : Int) + off = (tgt : Int)) (ra : jr a) (kt : a < 0 → JW G X k n w (tgt) L (rest)) (kf : ¬ (a < 0) → JW G X k n w (pc + 3) L (rest)) : JW G X k n w (pc) L (.int (iI a) :: rest) := by
  obtain ⟨p, l, e, R, s, m, args, below, meth, c, Q, A⟩ := X
  obtain ⟨hx, hb, hml, hown, hts, hnw, hK, hlk, hA, hR⟩ := C
  intro H locs ls hP hD hS hl
  refine lv_if_lt hx hb d ht (fun h => ?_) (fun h => ?_)
  · exact kt ((iI_lt ra ⟨by decide, by decide⟩).mp h) H locs ls hP hD hS hl
  · exact kf (fun e => h ((iI_lt ra ⟨by decide, by decide⟩).mpr e)) H locs ls hP hD hS hl
theorem jw_if_lt_r {x : Int32} {off : Int} {tgt : Nat} (C : JC G X rm cc own nL) (d : decode cc pc = .ok (.ifCond .lt off, 3)) (ht : (pc : Int) + off = (tgt : Int)) (kt : x < 0 → JW G X k n w (tgt) L (rest)) (kf : ¬ (x < 0) → JW G X k n w (pc + 3) L (rest)) : JW G X k n w (pc) L (.int x :: rest) := by
  obtain ⟨p, l, e, R, s, m, args, below, meth, c, Q, A⟩ := X
  obtain ⟨hx, hb, hml, hown, hts, hnw, hK, hlk, hA, hR⟩ := C
  intro H locs ls hP hD hS hl
  refine lv_if_lt hx hb d ht (fun h => ?_) (fun h => ?_)
  · exact kt h H locs ls hP hD hS hl
  · exact kf h H locs ls hP hD hS hl
theorem jw_icmp_lt_r {x y : Int32} {off : Int} {tgt : Nat} (C : JC G X rm cc own nL) (d : decode cc pc = .ok (.if_icmp .lt off, 3)) (ht : (pc : Int) + off = (tgt : Int)) (kt : x < y → JW G X k n w (tgt) L (rest)) (kf : ¬ (x < y) → JW G X k n w (pc + 3) L (rest)) : JW G X k n w (pc) L (.int y :: .int x :: rest) := by
  obtain ⟨p, l, e, R, s, m, args, below, meth, c, Q, A⟩ := X
  obtain ⟨hx, hb, hml, hown, hts, hnw, hK, hlk, hA, hR⟩ := C
  intro H locs ls hP hD hS hl
  refine lv_icmp_lt hx hb d ht (fun h => ?_) (fun h => ?_)
  · exact kt h H locs ls hP hD hS hl
  · exact kf h H locs ls hP hD hS hl
theorem jw_icmp_ge {a b : Int} {off : Int} {tgt : Nat} (C : JC G X rm cc own nL) (d : decode cc pc = .ok (.if_icmp .ge off, 3)) (ht : (pc : Int) + off = (tgt : Int)) (ra : jr a) (rb : jr b) (kt : b ≤ a → JW G X k n w (tgt) L (rest)) (kf : ¬ (b ≤ a) → JW G X k n w (pc + 3) L (rest)) : JW G X k n w (pc) L (.int (iI b) :: .int (iI a) :: rest) := by
  obtain ⟨p, l, e, R, s, m, args, below, meth, c, Q, A⟩ := X
  obtain ⟨hx, hb, hml, hown, hts, hnw, hK, hlk, hA, hR⟩ := C
  intro H locs ls hP hD hS hl
  refine lv_icmp_ge hx hb d ht (fun h => ?_) (fun h => ?_)
  · exact kt ((iI_le rb ra).mp h) H locs ls hP hD hS hl
  · exact kf (fun e => h ((iI_le rb ra).mpr e)) H locs ls hP hD hS hl
theorem jw_if_ge {a : Int} {off : Int} {tgt : Nat} (C : JC G X rm cc own nL) (d : decode cc pc = .ok (.ifCond .ge off, 3)) (ht : (pc : Int) + off = (tgt : Int)) (ra : jr a) (kt : 0 ≤ a → JW G X k n w (tgt) L (rest)) (kf : ¬ (0 ≤ a) → JW G X k n w (pc + 3) L (rest)) : JW G X k n w (pc) L (.int (iI a) :: rest) := by
  obtain ⟨p, l, e, R, s, m, args, below, meth, c, Q, A⟩ := X
  obtain ⟨hx, hb, hml, hown, hts, hnw, hK, hlk, hA, hR⟩ := C
  intro H locs ls hP hD hS hl
  refine lv_if_ge hx hb d ht (fun h => ?_) (fun h => ?_)
  · exact kt ((iI_le ⟨by decide, by decide⟩ ra).mp h) H locs ls hP hD hS hl
  · exact kf (fun e => h ((iI_le ⟨by decide, by decide⟩ ra).mpr e)) H locs ls hP hD hS hl
theorem jw_if_ge_r {x : Int32} {off : Int} {tgt : Nat} (C : JC G X rm cc own nL) (d : decode cc pc = .ok (.ifCond .ge off, 3)) (ht : (pc : Int) + off = (tgt : Int)) (kt : 0 ≤ x → JW G X k n w (tgt) L (rest)) (kf : ¬ (0 ≤ x) → JW G X k n w (pc + 3) L (rest)) : JW G X k n w (pc) L (.int x :: rest) := by
  obtain ⟨p, l, e, R, s, m, args, below, meth, c, Q, A⟩ := X
  obtain ⟨hx, hb, hml, hown, hts, hnw, hK, hlk, hA, hR⟩ := C
  intro H locs ls hP hD hS hl
  refine lv_if_ge hx hb d ht (fun h => ?_) (fun h => ?_)
  · exact kt h H locs ls hP hD hS hl
  · exact kf h H locs ls hP hD hS hl
theorem jw_icmp_ge_r {x y : Int32} {off : Int} {tgt : Nat} (C : JC G X rm cc own nL) (d : decode cc pc = .ok (.if_icmp .ge off, 3)) (ht : (pc : Int) + off = (tgt : Int)) (kt : y ≤ x → JW G X k n w (tgt) L (rest)) (kf : ¬ (y ≤ x) → JW G X k n w (pc + 3) L (rest)) : JW G X k n w (pc) L (.int y :: .int x :: rest) := by
  obtain ⟨p, l, e, R, s, m, args, below, meth, c, Q, A⟩ := X
  obtain ⟨hx, hb, hml, hown, hts, hnw, hK, hlk, hA, hR⟩ := C
  intro H locs ls hP hD hS hl
  refine lv_icmp_ge hx hb d ht (fun h => ?_) (fun h => ?_)
  · exact kt h H locs ls hP hD hS hl
  · exact kf h H locs ls hP hD hS hl
theorem jw_icmp_gt {a b : Int} {off : Int} {tgt : Nat} (C : JC G X rm cc own nL) (d : decode cc pc = .ok (.if_icmp .gt off, 3)) (ht : (pc : Int) + off = (tgt : Int)) (ra : jr a) (rb : jr b) (kt : b < a → JW G X k n w (tgt) L (rest)) (kf : ¬ (b < a) → JW G X k n w (pc + 3) L (rest)) : JW G X k n w (pc) L (.int (iI b) :: .int (iI a) :: rest) := by
  obtain ⟨p, l, e, R, s, m, args, below, meth, c, Q, A⟩ := X
  obtain ⟨hx, hb, hml, hown, hts, hnw, hK, hlk, hA, hR⟩ := C
  intro H locs ls hP hD hS hl
  refine lv_icmp_gt hx hb d ht (fun h => ?_) (fun h => ?_)
  · exact kt ((iI_lt rb ra).mp h) H locs ls hP hD hS hl
  · exact kf (fun e => h ((iI_lt rb ra).mpr e)) H locs ls hP hD hS hl
theorem jw_if_gt {a : Int} {off : Int} {tgt : Nat} (C : JC G X rm cc own nL) (d : decode cc pc = .ok (.ifCond .gt off, 3)) (ht : (pc : Int) + off = (tgt : Int)) (ra : jr a) (kt : 0 < a → JW G X k n w (tgt) L (rest)) (kf : ¬ (0 < a) → JW G X k n w (pc + 3) L (rest)) : JW G X k n w (pc) L (.int (iI a) :: rest) := by
  obtain ⟨p, l, e, R, s, m, args, below, meth, c, Q, A⟩ := X
  obtain ⟨hx, hb, hml, hown, hts, hnw, hK, hlk, hA, hR⟩ := C
  intro H locs ls hP hD hS hl
  refine lv_if_gt hx hb d ht (fun h => ?_) (fun h => ?_)
  · exact kt ((iI_lt ⟨by decide, by decide⟩ ra).mp h) H locs ls hP hD hS hl
  · exact kf (fun e => h ((iI_lt ⟨by decide, by decide⟩ ra).mpr e)) H locs ls hP hD hS hl
theorem jw_if_gt_r {x : Int32} {off : Int} {tgt : Nat} (C : JC G X rm cc own nL) (d : decode cc pc = .ok (.ifCond .gt off, 3)) (ht : (pc : Int) + off = (tgt : Int)) (kt : 0 < x → JW G X k n w (tgt) L (rest)) (kf : ¬ (0 < x) → JW G X k n w (pc + 3) L (rest)) : JW G X k n w (pc) L (.int x :: rest) := by
  obtain ⟨p, l, e, R, s, m, args, below, meth, c, Q, A⟩ := X
  obtain ⟨hx, hb, hml, hown, hts, hnw, hK, hlk, hA, hR⟩ := C
  intro H locs ls hP hD hS hl
  refine lv_if_gt hx hb d ht (fun h => ?_) (fun h => ?_)
  · exact kt h H locs ls hP hD hS hl
  · exact kf h H locs ls hP hD hS hl
theorem jw_icmp_gt_r {x y : Int32} {off : Int} {tgt : Nat} (C : JC G X rm cc own nL) (d : decode cc pc = .ok (.if_icmp .gt off, 3)) (ht : (pc : Int) + off = (tgt : Int)) (kt : y < x → JW G X k n w (tgt) L (rest)) (kf : ¬ (y < x) → JW G X k n w (pc + 3) L (rest)) : JW G X k n w (pc) L (.int y :: .int x :: rest) := by
  obtain ⟨p, l, e, R, s, m, args, below, meth, c, Q, A⟩ := X
  obtain ⟨hx, hb, hml, hown, hts, hnw, hK, hlk, hA, hR⟩ := C
  intro H locs ls hP hD hS hl
  refine lv_icmp_gt hx hb d ht (fun h => ?_) (fun h => ?_)
  · exact kt h H locs ls hP hD hS hl
  · exact kf h H locs ls hP hD hS hl
theorem jw_icmp_le {a b : Int} {off : Int} {tgt : Nat} (C : JC G X rm cc own nL) (d : decode cc pc = .ok (.if_icmp .le off, 3)) (ht : (pc : Int) + off = (tgt : Int)) (ra : jr a) (rb : jr b) (kt : a ≤ b → JW G X k n w (tgt) L (rest)) (kf : ¬ (a ≤ b) → JW G X k n w (pc + 3) L (rest)) : JW G X k n w (pc) L (.int (iI b) :: .int (iI a) :: rest) := by
  obtain ⟨p, l, e, R, s, m, args, below, meth, c, Q, A⟩ := X
  obtain ⟨hx, hb, hml, hown, hts, hnw, hK, hlk, hA, hR⟩ := C
  intro H locs ls hP hD hS hl
  refine lv_icmp_le hx hb d ht (fun h => ?_) (fun h => ?_)
  · exact kt ((iI_le ra rb).mp h) H locs ls hP hD hS hl
  · exact kf (fun e => h ((iI_le ra rb).mpr e)) H locs ls hP hD hS hl
theorem jw_if_le {a : Int} {off : Int} {tgt : Nat} (C : JC G X rm cc own nL) (d : decode cc pc = .ok (.ifCond .le off, 3)) (ht : (pc : Int) + off = (tgt : Int)) (ra : jr a) (kt : a ≤ 0 → JW G X k n w (tgt) L (rest)) (kf : ¬ (a ≤ 0) → JW G X k n w (pc + 3) L (rest)) : JW G X k n w (pc) L (.int (iI a) :: rest) := by
  obtain ⟨p, l, e, R, s, m, args, below, meth, c, Q, A⟩ := X
  obtain ⟨hx, hb, hml, hown, hts, hnw, hK, hlk, hA, hR⟩ := C
  intro H locs ls hP hD hS hl
  refine lv_if_le hx hb d ht (fun h => ?_) (fun h => ?_)
  · exact kt ((iI_le ra ⟨by decide, by decide⟩).mp h) H locs ls hP hD hS hl
  · exact kf (fun e => h ((iI_le ra ⟨by decide, by decide⟩).mpr e)) H locs ls hP hD hS hl
theorem jw_if_le_r {x : Int32} {off : Int} {tgt : Nat} (C : JC G X rm cc own nL) (d : decode cc pc = .ok (.ifCond .le off, 3)) (ht : (pc : Int) + off = (tgt : Int)) (kt : x ≤ 0 → JW G X k n w (tgt) L (rest)) (kf : ¬ (x ≤ 0) → JW G X k n w (pc + 3) L (rest)) : JW G X k n w (pc) L (.int x :: rest) := by
  obtain ⟨p, l, e, R, s, m, args, below, meth, c, Q, A⟩ := X
  obtain ⟨hx, hb, hml, hown, hts, hnw, hK, hlk, hA, hR⟩ := C
  intro H locs ls hP hD hS hl
  refine lv_if_le hx hb d ht (fun h => ?_) (fun h => ?_)
  · exact kt h H locs ls hP hD hS hl
  · exact kf h H locs ls hP hD hS hl
theorem jw_icmp_le_r {x y : Int32} {off : Int} {tgt : Nat} (C : JC G X rm cc own nL) (d : decode cc pc = .ok (.if_icmp .le off, 3)) (ht : (pc : Int) + off = (tgt : Int)) (kt : x ≤ y → JW G X k n w (tgt) L (rest)) (kf : ¬ (x ≤ y) → JW G X k n w (pc + 3) L (rest)) : JW G X k n w (pc) L (.int y :: .int x :: rest) := by
  obtain ⟨p, l, e, R, s, m, args, below, meth, c, Q, A⟩ := X
  obtain ⟨hx, hb, hml, hown, hts, hnw, hK, hlk, hA, hR⟩ := C
  intro H locs ls hP hD hS hl
  refine lv_icmp_le hx hb d ht (fun h => ?_) (fun h => ?_)
  · exact kt h H locs ls hP hD hS hl
  · exact kf h H locs ls hP hD hS hl
theorem jw_icmp_eq {a b : Int} {off : Int} {tgt : Nat} (C : JC G X rm cc own nL) (d : decode cc pc = .ok (.if_icmp .eq off, 3)) (ht : (pc : Int) + off = (tgt : Int)) (ra : jr a) (rb : jr b) (kt : a = b → JW G X k n w (tgt) L (rest)) (kf : ¬ (a = b) → JW G X k n w (pc + 3) L (rest)) : JW G X k n w (pc) L (.int (iI b) :: .int (iI a) :: rest) := by
  obtain ⟨p, l, e, R, s, m, args, below, meth, c, Q, A⟩ := X
  obtain ⟨hx, hb, hml, hown, hts, hnw, hK, hlk, hA, hR⟩ := C
  intro H locs ls hP hD hS hl
  refine lv_icmp_eq hx hb d ht (fun h => ?_) (fun h => ?_)
  · exact kt ((iI_eq ra rb).mp h) H locs ls hP hD hS hl
  · exact kf (fun e => h ((iI_eq ra rb).mpr e)) H locs ls hP hD hS hl
theorem jw_if_eq {a : Int} {off : Int} {tgt : Nat} (C : JC G X rm cc own nL) (d : decode cc pc = .ok (.ifCond .eq off, 3)) (ht : (pc : Int) + off = (tgt : Int)) (ra : jr a) (kt : a = 0 → JW G X k n w (tgt) L (rest)) (kf : ¬ (a = 0) → JW G X k n w (pc + 3) L (rest)) : JW G X k n w (pc) L (.int (iI a) :: rest) := by
  obtain ⟨p, l, e, R, s, m, args, below, meth, c, Q, A⟩ := X
  obtain ⟨hx, hb, hml, hown, hts, hnw, hK, hlk, hA, hR⟩ := C
  intro H locs ls hP hD hS hl
  refine lv_if_eq hx hb d ht (fun h => ?_) (fun h => ?_)
  · exact kt ((iI_eq ra ⟨by decide, by decide⟩).mp h) H locs ls hP hD hS hl
  · exact kf (fun e => h ((iI_eq ra ⟨by decide, by decide⟩).mpr e)) H locs ls hP hD hS hl
theorem jw_if_eq_r {x : Int32} {off : Int} {tgt : Nat} (C : JC G X rm cc own nL) (d : decode cc pc = .ok (.ifCond .eq off, 3)) (ht : (pc : Int) + off = (tgt : Int)) (kt : x = 0 → JW G X k n w (tgt) L (rest)) (kf : ¬ (x = 0) → JW G X k n w (pc + 3) L (rest)) : JW G X k n w (pc) L (.int x :: rest) := by
  obtain ⟨p, l, e, R, s, m, args, below, meth, c, Q, A⟩ := X
  obtain ⟨hx, hb, hml, hown, hts, hnw, hK, hlk, hA, hR⟩ := C
  intro H locs ls hP hD hS hl
  refine lv_if_eq hx hb d ht (fun h => ?_) (fun h => ?_)
  · exact kt h H locs ls hP hD hS hl
  · exact kf h H locs ls hP hD hS hl
theorem jw_icmp_eq_r {x y : Int32} {off : Int} {tgt : Nat} (C : JC G X rm cc own nL) (d : decode cc pc = .ok (.if_icmp .eq off, 3)) (ht : (pc : Int) + off = (tgt : Int)) (kt : x = y → JW G X k n w (tgt) L (rest)) (kf : ¬ (x = y) → JW G X k n w (pc + 3) L (rest)) : JW G X k n w (pc) L (.int y :: .int x :: rest) := by
  obtain ⟨p, l, e, R, s, m, args, below, meth, c, Q, A⟩ := X
  obtain ⟨hx, hb, hml, hown, hts, hnw, hK, hlk, hA, hR⟩ := C
  intro H locs ls hP hD hS hl
  refine lv_icmp_eq hx hb d ht (fun h => ?_) (fun h => ?_)
  · exact kt h H locs ls hP hD hS hl
  · exact kf h H locs ls hP hD hS hl
theorem jw_icmp_ne {a b : Int} {off : Int} {tgt : Nat} (C : JC G X rm cc own nL) (d : decode cc pc = .ok (.if_icmp .ne off, 3)) (ht : (pc : Int) + off = (tgt : Int)) (ra : jr a) (rb : jr b) (kt : ¬ a = b → JW G X k n w (tgt) L (rest)) (kf : a = b → JW G X k n w (pc + 3) L (rest)) : JW G X k n w (pc) L (.int (iI b) :: .int (iI a) :: rest) := by
  obtain ⟨p, l, e, R, s, m, args, below, meth, c, Q, A⟩ := X
  obtain ⟨hx, hb, hml, hown, hts, hnw, hK, hlk, hA, hR⟩ := C
  intro H locs ls hP hD hS hl
  refine lv_icmp_ne hx hb d ht (fun h => ?_) (fun h => ?_)
  · exact kt (fun e => absurd ((iI_eq ra rb).mpr e) (by first | exact h | (intro h2; exact h h2))) H locs ls hP hD hS hl
  · exact kf ((iI_eq ra rb).mp (by first | exact h | exact Decidable.not_not.mp h)) H locs ls hP hD hS hl
theorem jw_if_ne {a : Int} {off : Int} {tgt : Nat} (C : JC G X rm cc own nL) (d : decode cc pc = .ok (.ifCond .ne off, 3)) (ht : (pc : Int) + off = (tgt : Int)) (ra : jr a) (kt : ¬ a = 0 → JW G X k n w (tgt) L (rest)) (kf : a = 0 → JW G X k n w (pc + 3) L (rest)) : JW G X k n w (pc) L (.int (iI a) :: rest) := by
  obtain ⟨p, l, e, R, s, m, args, below, meth, c, Q, A⟩ := X
  obtain ⟨hx, hb, hml, hown, hts, hnw, hK, hlk, hA, hR⟩ := C
  intro H locs ls hP hD hS hl
  refine lv_if_ne hx hb d ht (fun h => ?_) (fun h => ?_)
  · exact kt (fun e => absurd ((iI_eq ra ⟨by decide, by decide⟩).mpr e) (by first | exact h | (intro h2; exact h h2))) H locs ls hP hD hS hl
  · exact kf ((iI_eq ra ⟨by decide, by decide⟩).mp (by first | exact h | exact Decidable.not_not.mp h)) H locs ls hP hD hS hl
theorem jw_if_ne_r {x : Int32} {off : Int} {tgt : Nat} (C : JC G X rm cc own nL) (d : decode cc pc = .ok (.ifCond .ne off, 3)) (ht : (pc : Int) + off = (tgt : Int)) (kt : ¬ x = 0 → JW G X k n w (tgt) L (rest)) (kf : x = 0 → JW G X k n w (pc + 3) L (rest)) : JW G X k n w (pc) L (.int x :: rest) := by
  obtain ⟨p, l, e, R, s, m, args, below, meth, c, Q, A⟩ := X
  obtain ⟨hx, hb, hml, hown, hts, hnw, hK, hlk, hA, hR⟩ := C
  intro H locs ls hP hD hS hl
  refine lv_if_ne hx hb d ht (fun h => ?_) (fun h => ?_)
  · exact kt (by first | exact h | (intro h2; exact h h2)) H locs ls hP hD hS hl
  · exact kf (by first | exact h | exact Decidable.not_not.mp h) H locs ls hP hD hS hl
theorem jw_icmp_ne_r {x y : Int32} {off : Int} {tgt : Nat} (C : JC G X rm cc own nL) (d : decode cc pc = .ok (.if_icmp .ne off, 3)) (ht : (pc : Int) + off = (tgt : Int)) (kt : ¬ x = y → JW G X k n w (tgt) L (rest)) (kf : x = y → JW G X k n w (pc + 3) L (rest)) : JW G X k n w (pc) L (.int y :: .int x :: rest) := by
  obtain ⟨p, l, e, R, s, m, args, below, meth, c, Q, A⟩ := X
  obtain ⟨hx, hb, hml, hown, hts, hnw, hK, hlk, hA, hR⟩ := C
  intro H locs ls hP hD hS hl
  refine lv_icmp_ne hx hb d ht (fun h => ?_) (fun h => ?_)
  · exact kt (by first | exact h | (intro h2; exact h h2)) H locs ls hP hD hS hl
  · exact kf (by first | exact h | exact Decidable.not_not.mp h) H locs ls hP hD hS hl
theorem jb_ne {b : Bool} : jb b = 0 ↔ b = false := by cases b <;> decide
theorem jw_if_eq_b {b : Bool} {off : Int} {tgt : Nat} (C : JC G X rm cc own nL) (d : decode cc pc = .ok (.ifCond .eq off, 3)) (ht : (pc : Int) + off = (tgt : Int)) (kt : b = false → JW G X k n w (tgt) L (rest)) (kf : b = true → JW G X k n w (pc + 3) L (rest)) : JW G X k n w (pc) L (.int (jb b) :: rest) := by
  obtain ⟨p, l, e, R, s, m, args, below, meth, c, Q, A⟩ := X
  obtain ⟨hx, hb, hml, hown, hts, hnw, hK, hlk, hA, hR⟩ := C
  intro H locs ls hP hD hS hl
  refine lv_if_eq hx hb d ht (fun h => ?_) (fun h => ?_)
  · exact kt (by cases b <;> first | rfl | exact absurd h (by decide)) H locs ls hP hD hS hl
  · exact kf (by cases b <;> first | rfl | exact absurd h (by decide)) H locs ls hP hD hS hl
theorem jw_if_ne_b {b : Bool} {off : Int} {tgt : Nat} (C : JC G X rm cc own nL) (d : decode cc pc = .ok (.ifCond .ne off, 3)) (ht : (pc : Int) + off = (tgt : Int)) (kt : b = true → JW G X k n w (tgt) L (rest)) (kf : b = false → JW G X k n w (pc + 3) L (rest)) : JW G X k n w (pc) L (.int (jb b) :: rest) := by
  obtain ⟨p, l, e, R, s, m, args, below, meth, c, Q, A⟩ := X
  obtain ⟨hx, hb, hml, hown, hts, hnw, hK, hlk, hA, hR⟩ := C
  intro H locs ls hP hD hS hl
  refine lv_if_ne hx hb d ht (fun h => ?_) (fun h => ?_)
  · exact kt (by cases b <;> first | rfl | exact absurd h (by decide)) H locs ls hP hD hS hl
  · exact kf (by cases b <;> first | rfl | exact absurd h (by decide)) H locs ls hP hD hS hl
theorem jw_iload_0 {x : Int32} {t : List (Option Value)} (C : JC G X rm cc own nL) (d : decode cc pc = .ok (.iload_n 0, 1)) (kk : JW G X k n w (pc + 1) (some (.int x) :: t) (.int x :: rest)) : JW G X k n w (pc) (some (.int x) :: t) (rest) := by
  obtain ⟨p, l, e, R, s, m, args, below, meth, c, Q, A⟩ := X
  obtain ⟨hx, hb, hml, hown, hts, hnw, hK, hlk, hA, hR⟩ := C
  intro H locs ls hP hD hS hl
  refine lv_iload_n hx hb d rfl (hl.2.2 (0, .int x) ((jl0_mem _ _ _).mpr ⟨0, rfl, by omega⟩)) ?_
  exact kk H locs ls hP hD hS hl
theorem jw_iload_1 {a0 : Option Value} {x : Int32} {t : List (Option Value)} (C : JC G X rm cc own nL) (d : decode cc pc = .ok (.iload_n 1, 1)) (kk : JW G X k n w (pc + 1) (a0 :: some (.int x) :: t) (.int x :: rest)) : JW G X k n w (pc) (a0 :: some (.int x) :: t) (rest) := by
  obtain ⟨p, l, e, R, s, m, args, below, meth, c, Q, A⟩ := X
  obtain ⟨hx, hb, hml, hown, hts, hnw, hK, hlk, hA, hR⟩ := C
  intro H locs ls hP hD hS hl
  refine lv_iload_n hx hb d rfl (hl.2.2 (1, .int x) ((jl0_mem _ _ _).mpr ⟨1, rfl, by omega⟩)) ?_
  exact kk H locs ls hP hD hS hl
theorem jw_iload_2 {a0 a1 : Option Value} {x : Int32} {t : List (Option Value)} (C : JC G X rm cc own nL) (d : decode cc pc = .ok (.iload_n 2, 1)) (kk : JW G X k n w (pc + 1) (a0 :: a1 :: some (.int x) :: t) (.int x :: rest)) : JW G X k n w (pc) (a0 :: a1 :: some (.int x) :: t) (rest) := by
  obtain ⟨p, l, e, R, s, m, args, below, meth, c, Q, A⟩ := X
  obtain ⟨hx, hb, hml, hown, hts, hnw, hK, hlk, hA, hR⟩ := C
  intro H locs ls hP hD hS hl
  refine lv_iload_n hx hb d rfl (hl.2.2 (2, .int x) ((jl0_mem _ _ _).mpr ⟨2, rfl, by omega⟩)) ?_
  exact kk H locs ls hP hD hS hl
theorem jw_iload_3 {a0 a1 a2 : Option Value} {x : Int32} {t : List (Option Value)} (C : JC G X rm cc own nL) (d : decode cc pc = .ok (.iload_n 3, 1)) (kk : JW G X k n w (pc + 1) (a0 :: a1 :: a2 :: some (.int x) :: t) (.int x :: rest)) : JW G X k n w (pc) (a0 :: a1 :: a2 :: some (.int x) :: t) (rest) := by
  obtain ⟨p, l, e, R, s, m, args, below, meth, c, Q, A⟩ := X
  obtain ⟨hx, hb, hml, hown, hts, hnw, hK, hlk, hA, hR⟩ := C
  intro H locs ls hP hD hS hl
  refine lv_iload_n hx hb d rfl (hl.2.2 (3, .int x) ((jl0_mem _ _ _).mpr ⟨3, rfl, by omega⟩)) ?_
  exact kk H locs ls hP hD hS hl
theorem jw_iload_4 {a0 a1 a2 a3 : Option Value} {x : Int32} {t : List (Option Value)} (C : JC G X rm cc own nL) (d : decode cc pc = .ok (.iload 4, 2)) (kk : JW G X k n w (pc + 2) (a0 :: a1 :: a2 :: a3 :: some (.int x) :: t) (.int x :: rest)) : JW G X k n w (pc) (a0 :: a1 :: a2 :: a3 :: some (.int x) :: t) (rest) := by
  obtain ⟨p, l, e, R, s, m, args, below, meth, c, Q, A⟩ := X
  obtain ⟨hx, hb, hml, hown, hts, hnw, hK, hlk, hA, hR⟩ := C
  intro H locs ls hP hD hS hl
  refine lv_iload hx hb d (hl.2.2 (4, .int x) ((jl0_mem _ _ _).mpr ⟨4, rfl, by omega⟩)) ?_
  exact kk H locs ls hP hD hS hl
theorem jw_iload_5 {a0 a1 a2 a3 a4 : Option Value} {x : Int32} {t : List (Option Value)} (C : JC G X rm cc own nL) (d : decode cc pc = .ok (.iload 5, 2)) (kk : JW G X k n w (pc + 2) (a0 :: a1 :: a2 :: a3 :: a4 :: some (.int x) :: t) (.int x :: rest)) : JW G X k n w (pc) (a0 :: a1 :: a2 :: a3 :: a4 :: some (.int x) :: t) (rest) := by
  obtain ⟨p, l, e, R, s, m, args, below, meth, c, Q, A⟩ := X
  obtain ⟨hx, hb, hml, hown, hts, hnw, hK, hlk, hA, hR⟩ := C
  intro H locs ls hP hD hS hl
  refine lv_iload hx hb d (hl.2.2 (5, .int x) ((jl0_mem _ _ _).mpr ⟨5, rfl, by omega⟩)) ?_
  exact kk H locs ls hP hD hS hl
theorem jw_iload_6 {a0 a1 a2 a3 a4 a5 : Option Value} {x : Int32} {t : List (Option Value)} (C : JC G X rm cc own nL) (d : decode cc pc = .ok (.iload 6, 2)) (kk : JW G X k n w (pc + 2) (a0 :: a1 :: a2 :: a3 :: a4 :: a5 :: some (.int x) :: t) (.int x :: rest)) : JW G X k n w (pc) (a0 :: a1 :: a2 :: a3 :: a4 :: a5 :: some (.int x) :: t) (rest) := by
  obtain ⟨p, l, e, R, s, m, args, below, meth, c, Q, A⟩ := X
  obtain ⟨hx, hb, hml, hown, hts, hnw, hK, hlk, hA, hR⟩ := C
  intro H locs ls hP hD hS hl
  refine lv_iload hx hb d (hl.2.2 (6, .int x) ((jl0_mem _ _ _).mpr ⟨6, rfl, by omega⟩)) ?_
  exact kk H locs ls hP hD hS hl
theorem jw_iload_7 {a0 a1 a2 a3 a4 a5 a6 : Option Value} {x : Int32} {t : List (Option Value)} (C : JC G X rm cc own nL) (d : decode cc pc = .ok (.iload 7, 2)) (kk : JW G X k n w (pc + 2) (a0 :: a1 :: a2 :: a3 :: a4 :: a5 :: a6 :: some (.int x) :: t) (.int x :: rest)) : JW G X k n w (pc) (a0 :: a1 :: a2 :: a3 :: a4 :: a5 :: a6 :: some (.int x) :: t) (rest) := by
  obtain ⟨p, l, e, R, s, m, args, below, meth, c, Q, A⟩ := X
  obtain ⟨hx, hb, hml, hown, hts, hnw, hK, hlk, hA, hR⟩ := C
  intro H locs ls hP hD hS hl
  refine lv_iload hx hb d (hl.2.2 (7, .int x) ((jl0_mem _ _ _).mpr ⟨7, rfl, by omega⟩)) ?_
  exact kk H locs ls hP hD hS hl
theorem jw_iload_8 {a0 a1 a2 a3 a4 a5 a6 a7 : Option Value} {x : Int32} {t : List (Option Value)} (C : JC G X rm cc own nL) (d : decode cc pc = .ok (.iload 8, 2)) (kk : JW G X k n w (pc + 2) (a0 :: a1 :: a2 :: a3 :: a4 :: a5 :: a6 :: a7 :: some (.int x) :: t) (.int x :: rest)) : JW G X k n w (pc) (a0 :: a1 :: a2 :: a3 :: a4 :: a5 :: a6 :: a7 :: some (.int x) :: t) (rest) := by
  obtain ⟨p, l, e, R, s, m, args, below, meth, c, Q, A⟩ := X
  obtain ⟨hx, hb, hml, hown, hts, hnw, hK, hlk, hA, hR⟩ := C
  intro H locs ls hP hD hS hl
  refine lv_iload hx hb d (hl.2.2 (8, .int x) ((jl0_mem _ _ _).mpr ⟨8, rfl, by omega⟩)) ?_
  exact kk H locs ls hP hD hS hl
theorem jw_iload_9 {a0 a1 a2 a3 a4 a5 a6 a7 a8 : Option Value} {x : Int32} {t : List (Option Value)} (C : JC G X rm cc own nL) (d : decode cc pc = .ok (.iload 9, 2)) (kk : JW G X k n w (pc + 2) (a0 :: a1 :: a2 :: a3 :: a4 :: a5 :: a6 :: a7 :: a8 :: some (.int x) :: t) (.int x :: rest)) : JW G X k n w (pc) (a0 :: a1 :: a2 :: a3 :: a4 :: a5 :: a6 :: a7 :: a8 :: some (.int x) :: t) (rest) := by
  obtain ⟨p, l, e, R, s, m, args, below, meth, c, Q, A⟩ := X
  obtain ⟨hx, hb, hml, hown, hts, hnw, hK, hlk, hA, hR⟩ := C
  intro H locs ls hP hD hS hl
  refine lv_iload hx hb d (hl.2.2 (9, .int x) ((jl0_mem _ _ _).mpr ⟨9, rfl, by omega⟩)) ?_
  exact kk H locs ls hP hD hS hl
theorem jw_iload_10 {a0 a1 a2 a3 a4 a5 a6 a7 a8 a9 : Option Value} {x : Int32} {t : List (Option Value)} (C : JC G X rm cc own nL) (d : decode cc pc = .ok (.iload 10, 2)) (kk : JW G X k n w (pc + 2) (a0 :: a1 :: a2 :: a3 :: a4 :: a5 :: a6 :: a7 :: a8 :: a9 :: some (.int x) :: t) (.int x :: rest)) : JW G X k n w (pc) (a0 :: a1 :: a2 :: a3 :: a4 :: a5 :: a6 :: a7 :: a8 :: a9 :: some (.int x) :: t) (rest) := by
  obtain ⟨p, l, e, R, s, m, args, below, meth, c, Q, A⟩ := X
  obtain ⟨hx, hb, hml, hown, hts, hnw, hK, hlk, hA, hR⟩ := C
  intro H locs ls hP hD hS hl
  refine lv_iload hx hb d (hl.2.2 (10, .int x) ((jl0_mem _ _ _).mpr ⟨10, rfl, by omega⟩)) ?_
  exact kk H locs ls hP hD hS hl
theorem jw_iload_11 {a0 a1 a2 a3 a4 a5 a6 a7 a8 a9 a10 : Option Value} {x : Int32} {t : List (Option Value)} (C : JC G X rm cc own nL) (d : decode cc pc = .ok (.iload 11, 2)) (kk : JW G X k n w (pc + 2) (a0 :: a1 :: a2 :: a3 :: a4 :: a5 :: a6 :: a7 :: a8 :: a9 :: a10 :: some (.int x) :: t) (.int x :: rest)) : JW G X k n w (pc) (a0 :: a1 :: a2 :: a3 :: a4 :: a5 :: a6 :: a7 :: a8 :: a9 :: a10 :: some (.int x) :: t) (rest) := by
  obtain ⟨p, l, e, R, s, m, args, below, meth, c, Q, A⟩ := X
  obtain ⟨hx, hb, hml, hown, hts, hnw, hK, hlk, hA, hR⟩ := C
  intro H locs ls hP hD hS hl
  refine lv_iload hx hb d (hl.2.2 (11, .int x) ((jl0_mem _ _ _).mpr ⟨11, rfl, by omega⟩)) ?_
  exact kk H locs ls hP hD hS hl
theorem jw_iload_12 {a0 a1 a2 a3 a4 a5 a6 a7 a8 a9 a10 a11 : Option Value} {x : Int32} {t : List (Option Value)} (C : JC G X rm cc own nL) (d : decode cc pc = .ok (.iload 12, 2)) (kk : JW G X k n w (pc + 2) (a0 :: a1 :: a2 :: a3 :: a4 :: a5 :: a6 :: a7 :: a8 :: a9 :: a10 :: a11 :: some (.int x) :: t) (.int x :: rest)) : JW G X k n w (pc) (a0 :: a1 :: a2 :: a3 :: a4 :: a5 :: a6 :: a7 :: a8 :: a9 :: a10 :: a11 :: some (.int x) :: t) (rest) := by
  obtain ⟨p, l, e, R, s, m, args, below, meth, c, Q, A⟩ := X
  obtain ⟨hx, hb, hml, hown, hts, hnw, hK, hlk, hA, hR⟩ := C
  intro H locs ls hP hD hS hl
  refine lv_iload hx hb d (hl.2.2 (12, .int x) ((jl0_mem _ _ _).mpr ⟨12, rfl, by omega⟩)) ?_
  exact kk H locs ls hP hD hS hl
theorem jw_iload_13 {a0 a1 a2 a3 a4 a5 a6 a7 a8 a9 a10 a11 a12 : Option Value} {x : Int32} {t : List (Option Value)} (C : JC G X rm cc own nL) (d : decode cc pc = .ok (.iload 13, 2)) (kk : JW G X k n w (pc + 2) (a0 :: a1 :: a2 :: a3 :: a4 :: a5 :: a6 :: a7 :: a8 :: a9 :: a10 :: a11 :: a12 :: some (.int x) :: t) (.int x :: rest)) : JW G X k n w (pc) (a0 :: a1 :: a2 :: a3 :: a4 :: a5 :: a6 :: a7 :: a8 :: a9 :: a10 :: a11 :: a12 :: some (.int x) :: t) (rest) := by
  obtain ⟨p, l, e, R, s, m, args, below, meth, c, Q, A⟩ := X
  obtain ⟨hx, hb, hml, hown, hts, hnw, hK, hlk, hA, hR⟩ := C
  intro H locs ls hP hD hS hl
  refine lv_iload hx hb d (hl.2.2 (13, .int x) ((jl0_mem _ _ _).mpr ⟨13, rfl, by omega⟩)) ?_
  exact kk H locs ls hP hD hS hl
theorem jw_iload_14 {a0 a1 a2 a3 a4 a5 a6 a7 a8 a9 a10 a11 a12 a13 : Option Value} {x : Int32} {t : List (Option Value)} (C : JC G X rm cc own nL) (d : decode cc pc = .ok (.iload 14, 2)) (kk : JW G X k n w (pc + 2) (a0 :: a1 :: a2 :: a3 :: a4 :: a5 :: a6 :: a7 :: a8 :: a9 :: a10 :: a11 :: a12 :: a13 :: some (.int x) :: t) (.int x :: rest)) : JW G X k n w (pc) (a0 :: a1 :: a2 :: a3 :: a4 :: a5 :: a6 :: a7 :: a8 :: a9 :: a10 :: a11 :: a12 :: a13 :: some (.int x) :: t) (rest) := by
  obtain ⟨p, l, e, R, s, m, args, below, meth, c, Q, A⟩ := X
  obtain ⟨hx, hb, hml, hown, hts, hnw, hK, hlk, hA, hR⟩ := C
  intro H locs ls hP hD hS hl
  refine lv_iload hx hb d (hl.2.2 (14, .int x) ((jl0_mem _ _ _).mpr ⟨14, rfl, by omega⟩)) ?_
  exact kk H locs ls hP hD hS hl
theorem jw_iload_15 {a0 a1 a2 a3 a4 a5 a6 a7 a8 a9 a10 a11 a12 a13 a14 : Option Value} {x : Int32} {t : List (Option Value)} (C : JC G X rm cc own nL) (d : decode cc pc = .ok (.iload 15, 2)) (kk : JW G X k n w (pc + 2) (a0 :: a1 :: a2 :: a3 :: a4 :: a5 :: a6 :: a7 :: a8 :: a9 :: a10 :: a11 :: a12 :: a13 :: a14 :: some (.int x) :: t) (.int x :: rest)) : JW G X k n w (pc) (a0 :: a1 :: a2 :: a3 :: a4 :: a5 :: a6 :: a7 :: a8 :: a9 :: a10 :: a11 :: a12 :: a13 :: a14 :: some (.int x) :: t) (rest) := by
  obtain ⟨p, l, e, R, s, m, args, below, meth, c, Q, A⟩ := X
  obtain ⟨hx, hb, hml, hown, hts, hnw, hK, hlk, hA, hR⟩ := C
  intro H locs ls hP hD hS hl
  refine lv_iload hx hb d (hl.2.2 (15, .int x) ((jl0_mem _ _ _).mpr ⟨15, rfl, by omega⟩)) ?_
  exact kk H locs ls hP hD hS hl
theorem jw_iload_16 {a0 a1 a2 a3 a4 a5 a6 a7 a8 a9 a10 a11 a12 a13 a14 a15 : Option Value} {x : Int32} {t : List (Option Value)} (C : JC G X rm cc own nL) (d : decode cc pc = .ok (.iload 16, 2)) (kk : JW G X k n w (pc + 2) (a0 :: a1 :: a2 :: a3 :: a4 :: a5 :: a6 :: a7 :: a8 :: a9 :: a10 :: a11 :: a12 :: a13 :: a14 :: a15 :: some (.int x) :: t) (.int x :: rest)) : JW G X k n w (pc) (a0 :: a1 :: a2 :: a3 :: a4 :: a5 :: a6 :: a7 :: a8 :: a9 :: a10 :: a11 :: a12 :: a13 :: a14 :: a15 :: some (.int x) :: t) (rest) := by
  obtain ⟨p, l, e, R, s, m, args, below, meth, c, Q, A⟩ := X
  obtain ⟨hx, hb, hml, hown, hts, hnw, hK, hlk, hA, hR⟩ := C
  intro H locs ls hP hD hS hl
  refine lv_iload hx hb d (hl.2.2 (16, .int x) ((jl0_mem _ _ _).mpr ⟨16, rfl, by omega⟩)) ?_
  exact kk H locs ls hP hD hS hl
theorem jw_iload_17 {a0 a1 a2 a3 a4 a5 a6 a7 a8 a9 a10 a11 a12 a13 a14 a15 a16 : Option Value} {x : Int32} {t : List (Option Value)} (C : JC G X rm cc own nL) (d : decode cc pc = .ok (.iload 17, 2)) (kk : JW G X k n w (pc + 2) (a0 :: a1 :: a2 :: a3 :: a4 :: a5 :: a6 :: a7 :: a8 :: a9 :: a10 :: a11 :: a12 :: a13 :: a14 :: a15 :: a16 :: some (.int x) :: t) (.int x :: rest)) : JW G X k n w (pc) (a0 :: a1 :: a2 :: a3 :: a4 :: a5 :: a6 :: a7 :: a8 :: a9 :: a10 :: a11 :: a12 :: a13 :: a14 :: a15 :: a16 :: some (.int x) :: t) (rest) := by
  obtain ⟨p, l, e, R, s, m, args, below, meth, c, Q, A⟩ := X
  obtain ⟨hx, hb, hml, hown, hts, hnw, hK, hlk, hA, hR⟩ := C
  intro H locs ls hP hD hS hl
  refine lv_iload hx hb d (hl.2.2 (17, .int x) ((jl0_mem _ _ _).mpr ⟨17, rfl, by omega⟩)) ?_
  exact kk H locs ls hP hD hS hl
theorem jw_iload_18 {a0 a1 a2 a3 a4 a5 a6 a7 a8 a9 a10 a11 a12 a13 a14 a15 a16 a17 : Option Value} {x : Int32} {t : List (Option Value)} (C : JC G X rm cc own nL) (d : decode cc pc = .ok (.iload 18, 2)) (kk : JW G X k n w (pc + 2) (a0 :: a1 :: a2 :: a3 :: a4 :: a5 :: a6 :: a7 :: a8 :: a9 :: a10 :: a11 :: a12 :: a13 :: a14 :: a15 :: a16 :: a17 :: some (.int x) :: t) (.int x :: rest)) : JW G X k n w (pc) (a0 :: a1 :: a2 :: a3 :: a4 :: a5 :: a6 :: a7 :: a8 :: a9 :: a10 :: a11 :: a12 :: a13 :: a14 :: a15 :: a16 :: a17 :: some (.int x) :: t) (rest) := by
  obtain ⟨p, l, e, R, s, m, args, below, meth, c, Q, A⟩ := X
  obtain ⟨hx, hb, hml, hown, hts, hnw, hK, hlk, hA, hR⟩ := C
  intro H locs ls hP hD hS hl
  refine lv_iload hx hb d (hl.2.2 (18, .int x) ((jl0_mem _ _ _).mpr ⟨18, rfl, by omega⟩)) ?_
  exact kk H locs ls hP hD hS hl
theorem jw_iload_19 {a0 a1 a2 a3 a4 a5 a6 a7 a8 a9 a10 a11 a12 a13 a14 a15 a16 a17 a18 : Option Value} {x : Int32} {t : List (Option Value)} (C : JC G X rm cc own nL) (d : decode cc pc = .ok (.iload 19, 2)) (kk : JW G X k n w (pc + 2) (a0 :: a1 :: a2 :: a3 :: a4 :: a5 :: a6 :: a7 :: a8 :: a9 :: a10 :: a11 :: a12 :: a13 :: a14 :: a15 :: a16 :: a17 :: a18 :: some (.int x) :: t) (.int x :: rest)) : JW G X k n w (pc) (a0 :: a1 :: a2 :: a3 :: a4 :: a5 :: a6 :: a7 :: a8 :: a9 :: a10 :: a11 :: a12 :: a13 :: a14 :: a15 :: a16 :: a17 :: a18 :: some (.int x) :: t) (rest) := by
  obtain ⟨p, l, e, R, s, m, args, below, meth, c, Q, A⟩ := X
  obtain ⟨hx, hb, hml, hown, hts, hnw, hK, hlk, hA, hR⟩ := C
  intro H locs ls hP hD hS hl
  refine lv_iload hx hb d (hl.2.2 (19, .int x) ((jl0_mem _ _ _).mpr ⟨19, rfl, by omega⟩)) ?_
  exact kk H locs ls hP hD hS hl
theorem jw_iload_20 {a0 a1 a2 a3 a4 a5 a6 a7 a8 a9 a10 a11 a12 a13 a14 a15 a16 a17 a18 a19 : Option Value} {x : Int32} {t : List (Option Value)} (C : JC G X rm cc own nL) (d : decode cc pc = .ok (.iload 20, 2)) (kk : JW G X k n w (pc + 2) (a0 :: a1 :: a2 :: a3 :: a4 :: a5 :: a6 :: a7 :: a8 :: a9 :: a10 :: a11 :: a12 :: a13 :: a14 :: a15 :: a16 :: a17 :: a18 :: a19 :: some (.int x) :: t) (.int x :: rest)) : JW G X k n w (pc) (a0 :: a1 :: a2 :: a3 :: a4 :: a5 :: a6 :: a7 :: a8 :: a9 :: a10 :: a11 :: a12 :: a13 :: a14 :: a15 :: a16 :: a17 :: a18 :: a19 :: some (.int x) :: t) (rest) := by
  obtain ⟨p, l, e, R, s, m, args, below, meth, c, Q, A⟩ := X
  obtain ⟨hx, hb, hml, hown, hts, hnw, hK, hlk, hA, hR⟩ := C
  intro H locs ls hP hD hS hl
  refine lv_iload hx hb d (hl.2.2 (20, .int x) ((jl0_mem _ _ _).mpr ⟨20, rfl, by omega⟩)) ?_
  exact kk H locs ls hP hD hS hl
theorem jw_iload_21 {a0 a1 a2 a3 a4 a5 a6 a7 a8 a9 a10 a11 a12 a13 a14 a15 a16 a17 a18 a19 a20 : Option Value} {x : Int32} {t : List (Option Value)} (C : JC G X rm cc own nL) (d : decode cc pc = .ok (.iload 21, 2)) (kk : JW G X k n w (pc + 2) (a0 :: a1 :: a2 :: a3 :: a4 :: a5 :: a6 :: a7 :: a8 :: a9 :: a10 :: a11 :: a12 :: a13 :: a14 :: a15 :: a16 :: a17 :: a18 :: a19 :: a20 :: some (.int x) :: t) (.int x :: rest)) : JW G X k n w (pc) (a0 :: a1 :: a2 :: a3 :: a4 :: a5 :: a6 :: a7 :: a8 :: a9 :: a10 :: a11 :: a12 :: a13 :: a14 :: a15 :: a16 :: a17 :: a18 :: a19 :: a20 :: some (.int x) :: t) (rest) := by
  obtain ⟨p, l, e, R, s, m, args, below, meth, c, Q, A⟩ := X
  obtain ⟨hx, hb, hml, hown, hts, hnw, hK, hlk, hA, hR⟩ := C
  intro H locs ls hP hD hS hl
  refine lv_iload hx hb d (hl.2.2 (21, .int x) ((jl0_mem _ _ _).mpr ⟨21, rfl, by omega⟩)) ?_
  exact kk H locs ls hP hD hS hl
theorem jw_iload_22 {a0 a1 a2 a3 a4 a5 a6 a7 a8 a9 a10 a11 a12 a13 a14 a15 a16 a17 a18 a19 a20 a21 : Option Value} {x : Int32} {t : List (Option Value)} (C : JC G X rm cc own nL) (d : decode cc pc = .ok (.iload 22, 2)) (kk : JW G X k n w (pc + 2) (a0 :: a1 :: a2 :: a3 :: a4 :: a5 :: a6 :: a7 :: a8 :: a9 :: a10 :: a11 :: a12 :: a13 :: a14 :: a15 :: a16 :: a17 :: a18 :: a19 :: a20 :: a21 :: some (.int x) :: t) (.int x :: rest)) : JW G X k n w (pc) (a0 :: a1 :: a2 :: a3 :: a4 :: a5 :: a6 :: a7 :: a8 :: a9 :: a10 :: a11 :: a12 :: a13 :: a14 :: a15 :: a16 :: a17 :: a18 :: a19 :: a20 :: a21 :: some (.int x) :: t) (rest) := by
  obtain ⟨p, l, e, R, s, m, args, below, meth, c, Q, A⟩ := X
  obtain ⟨hx, hb, hml, hown, hts, hnw, hK, hlk, hA, hR⟩ := C
  intro H locs ls hP hD hS hl
  refine lv_iload hx hb d (hl.2.2 (22, .int x) ((jl0_mem _ _ _).mpr ⟨22, rfl, by omega⟩)) ?_
  exact kk H locs ls hP hD hS hl
theorem jw_iload_23 {a0 a1 a2 a3 a4 a5 a6 a7 a8 a9 a10 a11 a12 a13 a14 a15 a16 a17 a18 a19 a20 a21 a22 : Option Value} {x : Int32} {t : List (Option Value)} (C : JC G X rm cc own nL) (d : decode cc pc = .ok (.iload 23, 2)) (kk : JW G X k n w (pc + 2) (a0 :: a1 :: a2 :: a3 :: a4 :: a5 :: a6 :: a7 :: a8 :: a9 :: a10 :: a11 :: a12 :: a13 :: a14 :: a15 :: a16 :: a17 :: a18 :: a19 :: a20 :: a21 :: a22 :: some (.int x) :: t) (.int x :: rest)) : JW G X k n w (pc) (a0 :: a1 :: a2 :: a3 :: a4 :: a5 :: a6 :: a7 :: a8 :: a9 :: a10 :: a11 :: a12 :: a13 :: a14 :: a15 :: a16 :: a17 :: a18 :: a19 :: a20 :: a21 :: a22 :: some (.int x) :: t) (rest) := by
  obtain ⟨p, l, e, R, s, m, args, below, meth, c, Q, A⟩ := X
  obtain ⟨hx, hb, hml, hown, hts, hnw, hK, hlk, hA, hR⟩ := C
  intro H locs ls hP hD hS hl
  refine lv_iload hx hb d (hl.2.2 (23, .int x) ((jl0_mem _ _ _).mpr ⟨23, rfl, by omega⟩)) ?_
  exact kk H locs ls hP hD hS hl
theorem jw_iload_24 {a0 a1 a2 a3 a4 a5 a6 a7 a8 a9 a10 a11 a12 a13 a14 a15 a16 a17 a18 a19 a20 a21 a22 a23 : Option Value} {x : Int32} {t : List (Option Value)} (C : JC G X rm cc own nL) (d : decode cc pc = .ok (.iload 24, 2)) (kk : JW G X k n w (pc + 2) (a0 :: a1 :: a2 :: a3 :: a4 :: a5 :: a6 :: a7 :: a8 :: a9 :: a10 :: a11 :: a12 :: a13 :: a14 :: a15 :: a16 :: a17 :: a18 :: a19 :: a20 :: a21 :: a22 :: a23 :: some (.int x) :: t) (.int x :: rest)) : JW G X k n w (pc) (a0 :: a1 :: a2 :: a3 :: a4 :: a5 :: a6 :: a7 :: a8 :: a9 :: a10 :: a11 :: a12 :: a13 :: a14 :: a15 :: a16 :: a17 :: a18 :: a19 :: a20 :: a21 :: a22 :: a23 :: some (.int x) :: t) (rest) := by
  obtain ⟨p, l, e, R, s, m, args, below, meth, c, Q, A⟩ := X
  obtain ⟨hx, hb, hml, hown, hts, hnw, hK, hlk, hA, hR⟩ := C
  intro H locs ls hP hD hS hl
  refine lv_iload hx hb d (hl.2.2 (24, .int x) ((jl0_mem _ _ _).mpr ⟨24, rfl, by omega⟩)) ?_
  exact kk H locs ls hP hD hS hl
theorem jw_iload_25 {a0 a1 a2 a3 a4 a5 a6 a7 a8 a9 a10 a11 a12 a13 a14 a15 a16 a17 a18 a19 a20 a21 a22 a23 a24 : Option Value} {x : Int32} {t : List (Option Value)} (C : JC G X rm cc own nL) (d : decode cc pc = .ok (.iload 25, 2)) (kk : JW G X k n w (pc + 2) (a0 :: a1 :: a2 :: a3 :: a4 :: a5 :: a6 :: a7 :: a8 :: a9 :: a10 :: a11 :: a12 :: a13 :: a14 :: a15 :: a16 :: a17 :: a18 :: a19 :: a20 :: a21 :: a22 :: a23 :: a24 :: some (.int x) :: t) (.int x :: rest)) : JW G X k n w (pc) (a0 :: a1 :: a2 :: a3 :: a4 :: a5 :: a6 :: a7 :: a8 :: a9 :: a10 :: a11 :: a12 :: a13 :: a14 :: a15 :: a16 :: a17 :: a18 :: a19 :: a20 :: a21 :: a22 :: a23 :: a24 :: some (.int x) :: t) (rest) := by
  obtain ⟨p, l, e, R, s, m, args, below, meth, c, Q, A⟩ := X
  obtain ⟨hx, hb, hml, hown, hts, hnw, hK, hlk, hA, hR⟩ := C
  intro H locs ls hP hD hS hl
  refine lv_iload hx hb d (hl.2.2 (25, .int x) ((jl0_mem _ _ _).mpr ⟨25, rfl, by omega⟩)) ?_
  exact kk H locs ls hP hD hS hl
theorem jw_iload_26 {a0 a1 a2 a3 a4 a5 a6 a7 a8 a9 a10 a11 a12 a13 a14 a15 a16 a17 a18 a19 a20 a21 a22 a23 a24 a25 : Option Value} {x : Int32} {t : List (Option Value)} (C : JC G X rm cc own nL) (d : decode cc pc = .ok (.iload 26, 2)) (kk : JW G X k n w (pc + 2) (a0 :: a1 :: a2 :: a3 :: a4 :: a5 :: a6 :: a7 :: a8 :: a9 :: a10 :: a11 :: a12 :: a13 :: a14 :: a15 :: a16 :: a17 :: a18 :: a19 :: a20 :: a21 :: a22 :: a23 :: a24 :: a25 :: some (.int x) :: t) (.int x :: rest)) : JW G X k n w (pc) (a0 :: a1 :: a2 :: a3 :: a4 :: a5 :: a6 :: a7 :: a8 :: a9 :: a10 :: a11 :: a12 :: a13 :: a14 :: a15 :: a16 :: a17 :: a18 :: a19 :: a20 :: a21 :: a22 :: a23 :: a24 :: a25 :: some (.int x) :: t) (rest) := by
  obtain ⟨p, l, e, R, s, m, args, below, meth, c, Q, A⟩ := X
  obtain ⟨hx, hb, hml, hown, hts, hnw, hK, hlk, hA, hR⟩ := C
  intro H locs ls hP hD hS hl
  refine lv_iload hx hb d (hl.2.2 (26, .int x) ((jl0_mem _ _ _).mpr ⟨26, rfl, by omega⟩)) ?_
  exact kk H locs ls hP hD hS hl
theorem jw_iload_27 {a0 a1 a2 a3 a4 a5 a6 a7 a8 a9 a10 a11 a12 a13 a14 a15 a16 a17 a18 a19 a20 a21 a22 a23 a24 a25 a26 : Option Value} {x : Int32} {t : List (Option Value)} (C : JC G X rm cc own nL) (d : decode cc pc = .ok (.iload 27, 2)) (kk : JW G X k n w (pc + 2) (a0 :: a1 :: a2 :: a3 :: a4 :: a5 :: a6 :: a7 :: a8 :: a9 :: a10 :: a11 :: a12 :: a13 :: a14 :: a15 :: a16 :: a17 :: a18 :: a19 :: a20 :: a21 :: a22 :: a23 :: a24 :: a25 :: a26 :: some (.int x) :: t) (.int x :: rest)) : JW G X k n w (pc) (a0 :: a1 :: a2 :: a3 :: a4 :: a5 :: a6 :: a7 :: a8 :: a9 :: a10 :: a11 :: a12 :: a13 :: a14 :: a15 :: a16 :: a17 :: a18 :: a19 :: a20 :: a21 :: a22 :: a23 :: a24 :: a25 :: a26 :: some (.int x) :: t) (rest) := by
  obtain ⟨p, l, e, R, s, m, args, below, meth, c, Q, A⟩ := X
  obtain ⟨hx, hb, hml, hown, hts, hnw, hK, hlk, hA, hR⟩ := C
  intro H locs ls hP hD hS hl
  refine lv_iload hx hb d (hl.2.2 (27, .int x) ((jl0_mem _ _ _).mpr ⟨27, rfl, by omega⟩)) ?_
  exact kk H locs ls hP hD hS hl
theorem jw_istore_0 {b0 : Option Value} {x : Int32} {t : List (Option Value)} (C : JC G X rm cc own nL) (d : decode cc pc = .ok (.istore_n 0, 1)) (kk : JW G X k n w (pc + 1) (some (.int x) :: t) (rest)) : JW G X k n w (pc) (b0 :: t) (.int x :: rest) := by
  obtain ⟨p, l, e, R, s, m, args, below, meth, c, Q, A⟩ := X
  obtain ⟨hx, hb, hml, hown, hts, hnw, hK, hlk, hA, hR⟩ := C
  intro H locs ls hP hD hS hl
  refine lv_istore_n hx hb d rfl hl (by simp only [List.length_cons]; omega) rfl (fun ls2 h2 => ?_)
  exact kk H locs ls2 hP hD hS (by have h3 := jl_store1 (L := b0 :: t) (v := .int x) (by simp only [List.length_cons]; omega) (fun a h _ => absurd h (Nat.lt_irrefl 0)) h2; exact h3)
theorem jw_istore_1 {a0 b0 : Option Value} {x : Int32} {t : List (Option Value)} (C : JC G X rm cc own nL) (d : decode cc pc = .ok (.istore_n 1, 1)) (hc : jc1 a0 = true) (kk : JW G X k n w (pc + 1) (a0 :: some (.int x) :: t) (rest)) : JW G X k n w (pc) (a0 :: b0 :: t) (.int x :: rest) := by
  obtain ⟨p, l, e, R, s, m, args, below, meth, c, Q, A⟩ := X
  obtain ⟨hx, hb, hml, hown, hts, hnw, hK, hlk, hA, hR⟩ := C
  intro H locs ls hP hD hS hl
  refine lv_istore_n hx hb d rfl hl (by simp only [List.length_cons]; omega) rfl (fun ls2 h2 => ?_)
  exact kk H locs ls2 hP hD hS (by have h3 := jl_store1 (L := a0 :: b0 :: t) (v := .int x) (by simp only [List.length_cons]; omega) (fun a _ h => by cases h; exact hc) h2; exact h3)
theorem jw_istore_2 {a0 a1 b0 : Option Value} {x : Int32} {t : List (Option Value)} (C : JC G X rm cc own nL) (d : decode cc pc = .ok (.istore_n 2, 1)) (hc : jc1 a1 = true) (kk : JW G X k n w (pc + 1) (a0 :: a1 :: some (.int x) :: t) (rest)) : JW G X k n w (pc) (a0 :: a1 :: b0 :: t) (.int x :: rest) := by
  obtain ⟨p, l, e, R, s, m, args, below, meth, c, Q, A⟩ := X
  obtain ⟨hx, hb, hml, hown, hts, hnw, hK, hlk, hA, hR⟩ := C
  intro H locs ls hP hD hS hl
  refine lv_istore_n hx hb d rfl hl (by simp only [List.length_cons]; omega) rfl (fun ls2 h2 => ?_)
  exact kk H locs ls2 hP hD hS (by have h3 := jl_store1 (L := a0 :: a1 :: b0 :: t) (v := .int x) (by simp only [List.length_cons]; omega) (fun a _ h => by cases h; exact hc) h2; exact h3)
theorem jw_istore_3 {a0 a1 a2 b0 : Option Value} {x : Int32} {t : List (Option Value)} (C : JC G X rm cc own nL) (d : decode cc pc = .ok (.istore_n 3, 1)) (hc : jc1 a2 = true) (kk : JW G X k n w (pc + 1) (a0 :: a1 :: a2 :: some (.int x) :: t) (rest)) : JW G X k n w (pc) (a0 :: a1 :: a2 :: b0 :: t) (.int x :: rest) := by
  obtain ⟨p, l, e, R, s, m, args, below, meth, c, Q, A⟩ := X
  obtain ⟨hx, hb, hml, hown, hts, hnw, hK, hlk, hA, hR⟩ := C
  intro H locs ls hP hD hS hl
  refine lv_istore_n hx hb d rfl hl (by simp only [List.length_cons]; omega) rfl (fun ls2 h2 => ?_)
  exact kk H locs ls2 hP hD hS (by have h3 := jl_store1 (L := a0 :: a1 :: a2 :: b0 :: t) (v := .int x) (by simp only [List.length_cons]; omega) (fun a _ h => by cases h; exact hc) h2; exact h3)
theorem jw_istore_4 {a0 a1 a2 a3 b0 : Option Value} {x : Int32} {t : List (Option Value)} (C : JC G X rm cc own nL) (d : decode cc pc = .ok (.istore 4, 2)) (hc : jc1 a3 = true) (kk : JW G X k n w (pc + 2) (a0 :: a1 :: a2 :: a3 :: some (.int x) :: t) (rest)) : JW G X k n w (pc) (a0 :: a1 :: a2 :: a3 :: b0 :: t) (.int x :: rest) := by
  obtain ⟨p, l, e, R, s, m, args, below, meth, c, Q, A⟩ := X
  obtain ⟨hx, hb, hml, hown, hts, hnw, hK, hlk, hA, hR⟩ := C
  intro H locs ls hP hD hS hl
  refine lv_istore hx hb d hl (by simp only [List.length_cons]; omega) rfl (fun ls2 h2 => ?_)
  exact kk H locs ls2 hP hD hS (by have h3 := jl_store1 (L := a0 :: a1 :: a2 :: a3 :: b0 :: t) (v := .int x) (by simp only [List.length_cons]; omega) (fun a _ h => by cases h; exact hc) h2; exact h3)
theorem jw_istore_5 {a0 a1 a2 a3 a4 b0 : Option Value} {x : Int32} {t : List (Option Value)} (C : JC G X rm cc own nL) (d : decode cc pc = .ok (.istore 5, 2)) (hc : jc1 a4 = true) (kk : JW G X k n w (pc + 2) (a0 :: a1 :: a2 :: a3 :: a4 :: some (.int x) :: t) (rest)) : JW G X k n w (pc) (a0 :: a1 :: a2 :: a3 :: a4 :: b0 :: t) (.int x :: rest) := by
  obtain ⟨p, l, e, R, s, m, args, below, meth, c, Q, A⟩ := X
  obtain ⟨hx, hb, hml, hown, hts, hnw, hK, hlk, hA, hR⟩ := C
  intro H locs ls hP hD hS hl
  refine lv_istore hx hb d hl (by simp only [List.length_cons]; omega) rfl (fun ls2 h2 => ?_)
  exact kk H locs ls2 hP hD hS (by have h3 := jl_store1 (L := a0 :: a1 :: a2 :: a3 :: a4 :: b0 :: t) (v := .int x) (by simp only [List.length_cons]; omega) (fun a _ h => by cases h; exact hc) h2; exact h3)
theorem jw_istore_6 {a0 a1 a2 a3 a4 a5 b0 : Option Value} {x : Int32} {t : List (Option Value)} (C : JC G X rm cc own nL) (d : decode cc pc = .ok (.istore 6, 2)) (hc : jc1 a5 = true) (kk : JW G X k n w (pc + 2) (a0 :: a1 :: a2 :: a3 :: a4 :: a5 :: some (.int x) :: t) (rest)) : JW G X k n w (pc) (a0 :: a1 :: a2 :: a3 :: a4 :: a5 :: b0 :: t) (.int x :: rest) := by
  obtain ⟨p, l, e, R, s, m, args, below, meth, c, Q, A⟩ := X
  obtain ⟨hx, hb, hml, hown, hts, hnw, hK, hlk, hA, hR⟩ := C
  intro H locs ls hP hD hS hl
  refine lv_istore hx hb d hl (by simp only [List.length_cons]; omega) rfl (fun ls2 h2 => ?_)
  exact kk H locs ls2 hP hD hS (by have h3 := jl_store1 (L := a0 :: a1 :: a2 :: a3 :: a4 :: a5 :: b0 :: t) (v := .int x) (by simp only [List.length_cons]; omega) (fun a _ h => by cases h; exact hc) h2; exact h3)
theorem jw_istore_7 {a0 a1 a2 a3 a4 a5 a6 b0 : Option Value} {x : Int32} {t : List (Option Value)} (C : JC G X rm cc own nL) (d : decode cc pc = .ok (.istore 7, 2)) (hc : jc1 a6 = true) (kk : JW G X k n w (pc + 2) (a0 :: a1 :: a2 :: a3 :: a4 :: a5 :: a6 :: some (.int x) :: t) (rest)) : JW G X k n w (pc) (a0 :: a1 :: a2 :: a3 :: a4 :: a5 :: a6 :: b0 :: t) (.int x :: rest) := by
  obtain ⟨p, l, e, R, s, m, args, below, meth, c, Q, A⟩ := X
  obtain ⟨hx, hb, hml, hown, hts, hnw, hK, hlk, hA, hR⟩ := C
  intro H locs ls hP hD hS hl
  refine lv_istore hx hb d hl (by simp only [List.length_cons]; omega) rfl (fun ls2 h2 => ?_)
  exact kk H locs ls2 hP hD hS (by have h3 := jl_store1 (L := a0 :: a1 :: a2 :: a3 :: a4 :: a5 :: a6 :: b0 :: t) (v := .int x) (by simp only [List.length_cons]; omega) (fun a _ h => by cases h; exact hc) h2; exact h3)
theorem jw_istore_8 {a0 a1 a2 a3 a4 a5 a6 a7 b0 : Option Value} {x : Int32} {t : List (Option Value)} (C : JC G X rm cc own nL) (d : decode cc pc = .ok (.istore 8, 2)) (hc : jc1 a7 = true) (kk : JW G X k n w (pc + 2) (a0 :: a1 :: a2 :: a3 :: a4 :: a5 :: a6 :: a7 :: some (.int x) :: t) (rest)) : JW G X k n w (pc) (a0 :: a1 :: a2 :: a3 :: a4 :: a5 :: a6 :: a7 :: b0 :: t) (.int x :: rest) := by
  obtain ⟨p, l, e, R, s, m, args, below, meth, c, Q, A⟩ := X
  obtain ⟨hx, hb, hml, hown, hts, hnw, hK, hlk, hA, hR⟩ := C
  intro H locs ls hP hD hS hl
  refine lv_istore hx hb d hl (by simp only [List.length_cons]; omega) rfl (fun ls2 h2 => ?_)
  exact kk H locs ls2 hP hD hS (by have h3 := jl_store1 (L := a0 :: a1 :: a2 :: a3 :: a4 :: a5 :: a6 :: a7 :: b0 :: t) (v := .int x) (by simp only [List.length_cons]; omega) (fun a _ h => by cases h; exact hc) h2; exact h3)
theorem jw_istore_9 {a0 a1 a2 a3 a4 a5 a6 a7 a8 b0 : Option Value} {x : Int32} {t : List (Option Value)} (C : JC G X rm cc own nL) (d : decode cc pc = .ok (.istore 9, 2)) (hc : jc1 a8 = true) (kk : JW G X k n w (pc + 2) (a0 :: a1 :: a2 :: a3 :: a4 :: a5 :: a6 :: a7 :: a8 :: some (.int x) :: t) (rest)) : JW G X k n w (pc) (a0 :: a1 :: a2 :: a3 :: a4 :: a5 :: a6 :: a7 :: a8 :: b0 :: t) (.int x :: rest) := by
  obtain ⟨p, l, e, R, s, m, args, below, meth, c, Q, A⟩ := X
  obtain ⟨hx, hb, hml, hown, hts, hnw, hK, hlk, hA, hR⟩ := C
  intro H locs ls hP hD hS hl
  refine lv_istore hx hb d hl (by simp only [List.length_cons]; omega) rfl (fun ls2 h2 => ?_)
  exact kk H locs ls2 hP hD hS (by have h3 := jl_store1 (L := a0 :: a1 :: a2 :: a3 :: a4 :: a5 :: a6 :: a7 :: a8 :: b0 :: t) (v := .int x) (by simp only [List.length_cons]; omega) (fun a _ h => by cases h; exact hc) h2; exact h3)
theorem jw_istore_10 {a0 a1 a2 a3 a4 a5 a6 a7 a8 a9 b0 : Option Value} {x : Int32} {t : List (Option Value)} (C : JC G X rm cc own nL) (d : decode cc pc = .ok (.istore 10, 2)) (hc : jc1 a9 = true) (kk : JW G X k n w (pc + 2) (a0 :: a1 :: a2 :: a3 :: a4 :: a5 :: a6 :: a7 :: a8 :: a9 :: some (.int x) :: t) (rest)) : JW G X k n w (pc) (a0 :: a1 :: a2 :: a3 :: a4 :: a5 :: a6 :: a7 :: a8 :: a9 :: b0 :: t) (.int x :: rest) := by
  obtain ⟨p, l, e, R, s, m, args, below, meth, c, Q, A⟩ := X
  obtain ⟨hx, hb, hml, hown, hts, hnw, hK, hlk, hA, hR⟩ := C
  intro H locs ls hP hD hS hl
  refine lv_istore hx hb d hl (by simp only [List.length_cons]; omega) rfl (fun ls2 h2 => ?_)
  exact kk H locs ls2 hP hD hS (by have h3 := jl_store1 (L := a0 :: a1 :: a2 :: a3 :: a4 :: a5 :: a6 :: a7 :: a8 :: a9 :: b0 :: t) (v := .int x) (by simp only [List.length_cons]; omega) (fun a _ h => by cases h; exact hc) h2; exact h3)
theorem jw_istore_11 {a0 a1 a2 a3 a4 a5 a6 a7 a8 a9 a10 b0 : Option Value} {x : Int32} {t : List (Option Value)} (C : JC G X rm cc own nL) (d : decode cc pc = .ok (.istore 11, 2)) (hc : jc1 a10 = true) (kk : JW G X k n w (pc + 2) (a0 :: a1 :: a2 :: a3 :: a4 :: a5 :: a6 :: a7 :: a8 :: a9 :: a10 :: some (.int x) :: t) (rest)) : JW G X k n w (pc) (a0 :: a1 :: a2 :: a3 :: a4 :: a5 :: a6 :: a7 :: a8 :: a9 :: a10 :: b0 :: t) (.int x :: rest) := by
  obtain ⟨p, l, e, R, s, m, args, below, meth, c, Q, A⟩ := X
  obtain ⟨hx, hb, hml, hown, hts, hnw, hK, hlk, hA, hR⟩ := C
  intro H locs ls hP hD hS hl
  refine lv_istore hx hb d hl (by simp only [List.length_cons]; omega) rfl (fun ls2 h2 => ?_)
  exact kk H locs ls2 hP hD hS (by have h3 := jl_store1 (L := a0 :: a1 :: a2 :: a3 :: a4 :: a5 :: a6 :: a7 :: a8 :: a9 :: a10 :: b0 :: t) (v := .int x) (by simp only [List.length_cons]; omega) (fun a _ h => by cases h; exact hc) h2; exact h3)
theorem jw_istore_12 {a0 a1 a2 a3 a4 a5 a6 a7 a8 a9 a10 a11 b0 : Option Value} {x : Int32} {t : List (Option Value)} (C : JC G X rm cc own nL) (d : decode cc pc = .ok (.istore 12, 2)) (hc : jc1 a11 = true) (kk : JW G X k n w (pc + 2) (a0 :: a1 :: a2 :: a3 :: a4 :: a5 :: a6 :: a7 :: a8 :: a9 :: a10 :: a11 :: some (.int x) :: t) (rest)) : JW G X k n w (pc) (a0 :: a1 :: a2 :: a3 :: a4 :: a5 :: a6 :: a7 :: a8 :: a9 :: a10 :: a11 :: b0 :: t) (.int x :: rest) := by
  obtain ⟨p, l, e, R, s, m, args, below, meth, c, Q, A⟩ := X
  obtain ⟨hx, hb, hml, hown, hts, hnw, hK, hlk, hA, hR⟩ := C
  intro H locs ls hP hD hS hl
  refine lv_istore hx hb d hl (by simp only [List.length_cons]; omega) rfl (fun ls2 h2 => ?_)
  exact kk H locs ls2 hP hD hS (by have h3 := jl_store1 (L := a0 :: a1 :: a2 :: a3 :: a4 :: a5 :: a6 :: a7 :: a8 :: a9 :: a10 :: a11 :: b0 :: t) (v := .int x) (by simp only [List.length_cons]; omega) (fun a _ h => by cases h; exact hc) h2; exact h3)
theorem jw_istore_13 {a0 a1 a2 a3 a4 a5 a6 a7 a8 a9 a10 a11 a12 b0 : Option Value} {x : Int32} {t : List (Option Value)} (C : JC G X rm cc own nL) (d : decode cc pc = .ok (.istore 13, 2)) (hc : jc1 a12 = true) (kk : JW G X k n w (pc + 2) (a0 :: a1 :: a2 :: a3 :: a4 :: a5 :: a6 :: a7 :: a8 :: a9 :: a10 :: a11 :: a12 :: some (.int x) :: t) (rest)) : JW G X k n w (pc) (a0 :: a1 :: a2 :: a3 :: a4 :: a5 :: a6 :: a7 :: a8 :: a9 :: a10 :: a11 :: a12 :: b0 :: t) (.int x :: rest) := by
  obtain ⟨p, l, e, R, s, m, args, below, meth, c, Q, A⟩ := X
  obtain ⟨hx, hb, hml, hown, hts, hnw, hK, hlk, hA, hR⟩ := C
  intro H locs ls hP hD hS hl
  refine lv_istore hx hb d hl (by simp only [List.length_cons]; omega) rfl (fun ls2 h2 => ?_)
  exact kk H locs ls2 hP hD hS (by have h3 := jl_store1 (L := a0 :: a1 :: a2 :: a3 :: a4 :: a5 :: a6 :: a7 :: a8 :: a9 :: a10 :: a11 :: a12 :: b0 :: t) (v := .int x) (by simp only [List.length_cons]; omega) (fun a _ h => by cases h; exact hc) h2; exact h3)
theorem jw_istore_14 {a0 a1 a2 a3 a4 a5 a6 a7 a8 a9 a10 a11 a12 a13 b0 : Option Value} {x : Int32} {t : List (Option Value)} (C : JC G X rm cc own nL) (d : decode cc pc = .ok (.istore 14, 2)) (hc : jc1 a13 = true) (kk : JW G X k n w (pc + 2) (a0 :: a1 :: a2 :: a3 :: a4 :: a5 :: a6 :: a7 :: a8 :: a9 :: a10 :: a11 :: a12 :: a13 :: some (.int x) :: t) (rest)) : JW G X k n w (pc) (a0 :: a1 :: a2 :: a3 :: a4 :: a5 :: a6 :: a7 :: a8 :: a9 :: a10 :: a11 :: a12 :: a13 :: b0 :: t) (.int x :: rest) := by
  obtain ⟨p, l, e, R, s, m, args, below, meth, c, Q, A⟩ := X
  obtain ⟨hx, hb, hml, hown, hts, hnw, hK, hlk, hA, hR⟩ := C
  intro H locs ls hP hD hS hl
  refine lv_istore hx hb d hl (by simp only [List.length_cons]; omega) rfl (fun ls2 h2 => ?_)
  exact kk H locs ls2 hP hD hS (by have h3 := jl_store1 (L := a0 :: a1 :: a2 :: a3 :: a4 :: a5 :: a6 :: a7 :: a8 :: a9 :: a10 :: a11 :: a12 :: a13 :: b0 :: t) (v := .int x) (by simp only [List.length_cons]; omega) (fun a _ h => by cases h; exact hc) h2; exact h3)
theorem jw_istore_15 {a0 a1 a2 a3 a4 a5 a6 a7 a8 a9 a10 a11 a12 a13 a14 b0 : Option Value} {x : Int32} {t : List (Option Value)} (C : JC G X rm cc own nL) (d : decode cc pc = .ok (.istore 15, 2)) (hc : jc1 a14 = true) (kk : JW G X k n w (pc + 2) (a0 :: a1 :: a2 :: a3 :: a4 :: a5 :: a6 :: a7 :: a8 :: a9 :: a10 :: a11 :: a12 :: a13 :: a14 :: some (.int x) :: t) (rest)) : JW G X k n w (pc) (a0 :: a1 :: a2 :: a3 :: a4 :: a5 :: a6 :: a7 :: a8 :: a9 :: a10 :: a11 :: a12 :: a13 :: a14 :: b0 :: t) (.int x :: rest) := by
  obtain ⟨p, l, e, R, s, m, args, below, meth, c, Q, A⟩ := X
  obtain ⟨hx, hb, hml, hown, hts, hnw, hK, hlk, hA, hR⟩ := C
  intro H locs ls hP hD hS hl
  refine lv_istore hx hb d hl (by simp only [List.length_cons]; omega) rfl (fun ls2 h2 => ?_)
  exact kk H locs ls2 hP hD hS (by have h3 := jl_store1 (L := a0 :: a1 :: a2 :: a3 :: a4 :: a5 :: a6 :: a7 :: a8 :: a9 :: a10 :: a11 :: a12 :: a13 :: a14 :: b0 :: t) (v := .int x) (by simp only [List.length_cons]; omega) (fun a _ h => by cases h; exact hc) h2; exact h3)
theorem jw_istore_16 {a0 a1 a2 a3 a4 a5 a6 a7 a8 a9 a10 a11 a12 a13 a14 a15 b0 : Option Value} {x : Int32} {t : List (Option Value)} (C : JC G X rm cc own nL) (d : decode cc pc = .ok (.istore 16, 2)) (hc : jc1 a15 = true) (kk : JW G X k n w (pc + 2) (a0 :: a1 :: a2 :: a3 :: a4 :: a5 :: a6 :: a7 :: a8 :: a9 :: a10 :: a11 :: a12 :: a13 :: a14 :: a15 :: some (.int x) :: t) (rest)) : JW G X k n w (pc) (a0 :: a1 :: a2 :: a3 :: a4 :: a5 :: a6 :: a7 :: a8 :: a9 :: a10 :: a11 :: a12 :: a13 :: a14 :: a15 :: b0 :: t) (.int x :: rest) := by
  obtain ⟨p, l, e, R, s, m, args, below, meth, c, Q, A⟩ := X
  obtain ⟨hx, hb, hml, hown, hts, hnw, hK, hlk, hA, hR⟩ := C
  intro H locs ls hP hD hS hl
  refine lv_istore hx hb d hl (by simp only [List.length_cons]; omega) rfl (fun ls2 h2 => ?_)
  exact kk H locs ls2 hP hD hS (by have h3 := jl_store1 (L := a0 :: a1 :: a2 :: a3 :: a4 :: a5 :: a6 :: a7 :: a8 :: a9 :: a10 :: a11 :: a12 :: a13 :: a14 :: a15 :: b0 :: t) (v := .int x) (by simp only [List.length_cons]; omega) (fun a _ h => by cases h; exact hc) h2; exact h3)
theorem jw_istore_17 {a0 a1 a2 a3 a4 a5 a6 a7 a8 a9 a10 a11 a12 a13 a14 a15 a16 b0 : Option Value} {x : Int32} {t : List (Option Value)} (C : JC G X rm cc own nL) (d : decode cc pc = .ok (.istore 17, 2)) (hc : jc1 a16 = true) (kk : JW G X k n w (pc + 2) (a0 :: a1 :: a2 :: a3 :: a4 :: a5 :: a6 :: a7 :: a8 :: a9 :: a10 :: a11 :: a12 :: a13 :: a14 :: a15 :: a16 :: some (.int x) :: t) (rest)) : JW G X k n w (pc) (a0 :: a1 :: a2 :: a3 :: a4 :: a5 :: a6 :: a7 :: a8 :: a9 :: a10 :: a11 :: a12 :: a13 :: a14 :: a15 :: a16 :: b0 :: t) (.int x :: rest) := by
  obtain ⟨p, l, e, R, s, m, args, below, meth, c, Q, A⟩ := X
  obtain ⟨hx, hb, hml, hown, hts, hnw, hK, hlk, hA, hR⟩ := C
  intro H locs ls hP hD hS hl
  refine lv_istore hx hb d hl (by simp only [List.length_cons]; omega) rfl (fun ls2 h2 => ?_)
  exact kk H locs ls2 hP hD hS (by have h3 := jl_store1 (L := a0 :: a1 :: a2 :: a3 :: a4 :: a5 :: a6 :: a7 :: a8 :: a9 :: a10 :: a11 :: a12 :: a13 :: a14 :: a15 :: a16 :: b0 :: t) (v := .int x) (by simp only [List.length_cons]; omega) (fun a _ h => by cases h; exact hc) h2; exact h3)
theorem jw_istore_18 {a0 a1 a2 a3 a4 a5 a6 a7 a8 a9 a10 a11 a12 a13 a14 a15 a16 a17 b0 : Option Value} {x : Int32} {t : List (Option Value)} (C : JC G X rm cc own nL) (d : decode cc pc = .ok (.istore 18, 2)) (hc : jc1 a17 = true) (kk : JW G X k n w (pc + 2) (a0 :: a1 :: a2 :: a3 :: a4 :: a5 :: a6 :: a7 :: a8 :: a9 :: a10 :: a11 :: a12 :: a13 :: a14 :: a15 :: a16 :: a17 :: some (.int x) :: t) (rest)) : JW G X k n w (pc) (a0 :: a1 :: a2 :: a3 :: a4 :: a5 :: a6 :: a7 :: a8 :: a9 :: a10 :: a11 :: a12 :: a13 :: a14 :: a15 :: a16 :: a17 :: b0 :: t) (.int x :: rest) := by
  obtain ⟨p, l, e, R, s, m, args, below, meth, c, Q, A⟩ := X
  obtain ⟨hx, hb, hml, hown, hts, hnw, hK, hlk, hA, hR⟩ := C
  intro H locs ls hP hD hS hl
  refine lv_istore hx hb d hl (by simp only [List.length_cons]; omega) rfl (fun ls2 h2 => ?_)
  exact kk H locs ls2 hP hD hS (by have h3 := jl_store1 (L := a0 :: a1 :: a2 :: a3 :: a4 :: a5 :: a6 :: a7 :: a8 :: a9 :: a10 :: a11 :: a12 :: a13 :: a14 :: a15 :: a16 :: a17 :: b0 :: t) (v := .int x) (by simp only [List.length_cons]; omega) (fun a _ h => by cases h; exact hc) h2; exact h3)
theorem jw_istore_19 {a0 a1 a2 a3 a4 a5 a6 a7 a8 a9 a10 a11 a12 a13 a14 a15 a16 a17 a18 b0 : Option Value} {x : Int32} {t : List (Option Value)} (C : JC G X rm cc own nL) (d : decode cc pc = .ok (.istore 19, 2)) (hc : jc1 a18 = true) (kk : JW G X k n w (pc + 2) (a0 :: a1 :: a2 :: a3 :: a4 :: a5 :: a6 :: a7 :: a8 :: a9 :: a10 :: a11 :: a12 :: a13 :: a14 :: a15 :: a16 :: a17 :: a18 :: some (.int x) :: t) (rest)) : JW G X k n w (pc) (a0 :: a1 :: a2 :: a3 :: a4 :: a5 :: a6 :: a7 :: a8 :: a9 :: a10 :: a11 :: a12 :: a13 :: a14 :: a15 :: a16 :: a17 :: a18 :: b0 :: t) (.int x :: rest) := by
  obtain ⟨p, l, e, R, s, m, args, below, meth, c, Q, A⟩ := X
  obtain ⟨hx, hb, hml, hown, hts, hnw, hK, hlk, hA, hR⟩ := C
  intro H locs ls hP hD hS hl
  refine lv_istore hx hb d hl (by simp only [List.length_cons]; omega) rfl (fun ls2 h2 => ?_)
  exact kk H locs ls2 hP hD hS (by have h3 := jl_store1 (L := a0 :: a1 :: a2 :: a3 :: a4 :: a5 :: a6 :: a7 :: a8 :: a9 :: a10 :: a11 :: a12 :: a13 :: a14 :: a15 :: a16 :: a17 :: a18 :: b0 :: t) (v := .int x) (by simp only [List.length_cons]; omega) (fun a _ h => by cases h; exact hc) h2; exact h3)
theorem jw_istore_20 {a0 a1 a2 a3 a4 a5 a6 a7 a8 a9 a10 a11 a12 a13 a14 a15 a16 a17 a18 a19 b0 : Option Value} {x : Int32} {t : List (Option Value)} (C : JC G X rm cc own nL) (d : decode cc pc = .ok (.istore 20, 2)) (hc : jc1 a19 = true) (kk : JW G X k n w (pc + 2) (a0 :: a1 :: a2 :: a3 :: a4 :: a5 :: a6 :: a7 :: a8 :: a9 :: a10 :: a11 :: a12 :: a13 :: a14 :: a15 :: a16 :: a17 :: a18 :: a19 :: some (.int x) :: t) (rest)) : JW G X k n w (pc) (a0 :: a1 :: a2 :: a3 :: a4 :: a5 :: a6 :: a7 :: a8 :: a9 :: a10 :: a11 :: a12 :: a13 :: a14 :: a15 :: a16 :: a17 :: a18 :: a19 :: b0 :: t) (.int x :: rest) := by
  obtain ⟨p, l, e, R, s, m, args, below, meth, c, Q, A⟩ := X
  obtain ⟨hx, hb, hml, hown, hts, hnw, hK, hlk, hA, hR⟩ := C
  intro H locs ls hP hD hS hl
  refine lv_istore hx hb d hl (by simp only [List.length_cons]; omega) rfl (fun ls2 h2 => ?_)
  exact kk H locs ls2 hP hD hS (by have h3 := jl_store1 (L := a0 :: a1 :: a2 :: a3 :: a4 :: a5 :: a6 :: a7 :: a8 :: a9 :: a10 :: a11 :: a12 :: a13 :: a14 :: a15 :: a16 :: a17 :: a18 :: a19 :: b0 :: t) (v := .int x) (by simp only [List.length_cons]; omega) (fun a _ h => by cases h; exact hc) h2; exact h3)
theorem jw_istore_21 {a0 a1 a2 a3 a4 a5 a6 a7 a8 a9 a10 a11 a12 a13 a14 a15 a16 a17 a18 a19 a20 b0 : Option Value} {x : Int32} {t : List (Option Value)} (C : JC G X rm cc own nL) (d : decode cc pc = .ok (.istore 21, 2)) (hc : jc1 a20 = true) (kk : JW G X k n w (pc + 2) (a0 :: a1 :: a2 :: a3 :: a4 :: a5 :: a6 :: a7 :: a8 :: a9 :: a10 :: a11 :: a12 :: a13 :: a14 :: a15 :: a16 :: a17 :: a18 :: a19 :: a20 :: some (.int x) :: t) (rest)) : JW G X k n w (pc) (a0 :: a1 :: a2 :: a3 :: a4 :: a5 :: a6 :: a7 :: a8 :: a9 :: a10 :: a11 :: a12 :: a13 :: a14 :: a15 :: a16 :: a17 :: a18 :: a19 :: a20 :: b0 :: t) (.int x :: rest) := by
  obtain ⟨p, l, e, R, s, m, args, below, meth, c, Q, A⟩ := X
  obtain ⟨hx, hb, hml, hown, hts, hnw, hK, hlk, hA, hR⟩ := C
  intro H locs ls hP hD hS hl
  refine lv_istore hx hb d hl (by simp only [List.length_cons]; omega) rfl (fun ls2 h2 => ?_)
  exact kk H locs ls2 hP hD hS (by have h3 := jl_store1 (L := a0 :: a1 :: a2 :: a3 :: a4 :: a5 :: a6 :: a7 :: a8 :: a9 :: a10 :: a11 :: a12 :: a13 :: a14 :: a15 :: a16 :: a17 :: a18 :: a19 :: a20 :: b0 :: t) (v := .int x) (by simp only [List.length_cons]; omega) (fun a _ h => by cases h; exact hc) h2; exact h3)
theorem jw_istore_22 {a0 a1 a2 a3 a4 a5 a6 a7 a8 a9 a10 a11 a12 a13 a14 a15 a16 a17 a18 a19 a20 a21 b0 : Option Value} {x : Int32} {t : List (Option Value)} (C : JC G X rm cc own nL) (d : decode cc pc = .ok (.istore 22, 2)) (hc : jc1 a21 = true) (kk : JW G X k n w (pc + 2) (a0 :: a1 :: a2 :: a3 :: a4 :: a5 :: a6 :: a7 :: a8 :: a9 :: a10 :: a11 :: a12 :: a13 :: a14 :: a15 :: a16 :: a17 :: a18 :: a19 :: a20 :: a21 :: some (.int x) :: t) (rest)) : JW G X k n w (pc) (a0 :: a1 :: a2 :: a3 :: a4 :: a5 :: a6 :: a7 :: a8 :: a9 :: a10 :: a11 :: a12 :: a13 :: a14 :: a15 :: a16 :: a17 :: a18 :: a19 :: a20 :: a21 :: b0 :: t) (.int x :: rest) := by
  obtain ⟨p, l, e, R, s, m, args, below, meth, c, Q, A⟩ := X
  obtain ⟨hx, hb, hml, hown, hts, hnw, hK, hlk, hA, hR⟩ := C
  intro H locs ls hP hD hS hl
  refine lv_istore hx hb d hl (by simp only [List.length_cons]; omega) rfl (fun ls2 h2 => ?_)
  exact kk H locs ls2 hP hD hS (by have h3 := jl_store1 (L := a0 :: a1 :: a2 :: a3 :: a4 :: a5 :: a6 :: a7 :: a8 :: a9 :: a10 :: a11 :: a12 :: a13 :: a14 :: a15 :: a16 :: a17 :: a18 :: a19 :: a20 :: a21 :: b0 :: t) (v := .int x) (by simp only [List.length_cons]; omega) (fun a _ h => by cases h; exact hc) h2; exact h3)
theorem jw_istore_23 {a0 a1 a2 a3 a4 a5 a6 a7 a8 a9 a10 a11 a12 a13 a14 a15 a16 a17 a18 a19 a20 a21 a22 b0 : Option Value} {x : Int32} {t : List (Option Value)} (C : JC G X rm cc own nL) (d : decode cc pc = .ok (.istore 23, 2)) (hc : jc1 a22 = true) (kk : JW G X k n w (pc + 2) (a0 :: a1 :: a2 :: a3 :: a4 :: a5 :: a6 :: a7 :: a8 :: a9 :: a10 :: a11 :: a12 :: a13 :: a14 :: a15 :: a16 :: a17 :: a18 :: a19 :: a20 :: a21 :: a22 :: some (.int x) :: t) (rest)) : JW G X k n w (pc) (a0 :: a1 :: a2 :: a3 :: a4 :: a5 :: a6 :: a7 :: a8 :: a9 :: a10 :: a11 :: a12 :: a13 :: a14 :: a15 :: a16 :: a17 :: a18 :: a19 :: a20 :: a21 :: a22 :: b0 :: t) (.int x :: rest) := by
  obtain ⟨p, l, e, R, s, m, args, below, meth, c, Q, A⟩ := X
  obtain ⟨hx, hb, hml, hown, hts, hnw, hK, hlk, hA, hR⟩ := C
  intro H locs ls hP hD hS hl
  refine lv_istore hx hb d hl (by simp only [List.length_cons]; omega) rfl (fun ls2 h2 => ?_)
  exact kk H locs ls2 hP hD hS (by have h3 := jl_store1 (L := a0 :: a1 :: a2 :: a3 :: a4 :: a5 :: a6 :: a7 :: a8 :: a9 :: a10 :: a11 :: a12 :: a13 :: a14 :: a15 :: a16 :: a17 :: a18 :: a19 :: a20 :: a21 :: a22 :: b0 :: t) (v := .int x) (by simp only [List.length_cons]; omega) (fun a _ h => by cases h; exact hc) h2; exact h3)
theorem jw_istore_24 {a0 a1 a2 a3 a4 a5 a6 a7 a8 a9 a10 a11 a12 a13 a14 a15 a16 a17 a18 a19 a20 a21 a22 a23 b0 : Option Value} {x : Int32} {t : List (Option Value)} (C : JC G X rm cc own nL) (d : decode cc pc = .ok (.istore 24, 2)) (hc : jc1 a23 = true) (kk : JW G X k n w (pc + 2) (a0 :: a1 :: a2 :: a3 :: a4 :: a5 :: a6 :: a7 :: a8 :: a9 :: a10 :: a11 :: a12 :: a13 :: a14 :: a15 :: a16 :: a17 :: a18 :: a19 :: a20 :: a21 :: a22 :: a23 :: some (.int x) :: t) (rest)) : JW G X k n w (pc) (a0 :: a1 :: a2 :: a3 :: a4 :: a5 :: a6 :: a7 :: a8 :: a9 :: a10 :: a11 :: a12 :: a13 :: a14 :: a15 :: a16 :: a17 :: a18 :: a19 :: a20 :: a21 :: a22 :: a23 :: b0 :: t) (.int x :: rest) := by
  obtain ⟨p, l, e, R, s, m, args, below, meth, c, Q, A⟩ := X
  obtain ⟨hx, hb, hml, hown, hts, hnw, hK, hlk, hA, hR⟩ := C
  intro H locs ls hP hD hS hl
  refine lv_istore hx hb d hl (by simp only [List.length_cons]; omega) rfl (fun ls2 h2 => ?_)
  exact kk H locs ls2 hP hD hS (by have h3 := jl_store1 (L := a0 :: a1 :: a2 :: a3 :: a4 :: a5 :: a6 :: a7 :: a8 :: a9 :: a10 :: a11 :: a12 :: a13 :: a14 :: a15 :: a16 :: a17 :: a18 :: a19 :: a20 :: a21 :: a22 :: a23 :: b0 :: t) (v := .int x) (by simp only [List.length_cons]; omega) (fun a _ h => by cases h; exact hc) h2; exact h3)
theorem jw_istore_25 {a0 a1 a2 a3 a4 a5 a6 a7 a8 a9 a10 a11 a12 a13 a14 a15 a16 a17 a18 a19 a20 a21 a22 a23 a24 b0 : Option Value} {x : Int32} {t : List (Option Value)} (C : JC G X rm cc own nL) (d : decode cc pc = .ok (.istore 25, 2)) (hc : jc1 a24 = true) (kk : JW G X k n w (pc + 2) (a0 :: a1 :: a2 :: a3 :: a4 :: a5 :: a6 :: a7 :: a8 :: a9 :: a10 :: a11 :: a12 :: a13 :: a14 :: a15 :: a16 :: a17 :: a18 :: a19 :: a20 :: a21 :: a22 :: a23 :: a24 :: some (.int x) :: t) (rest)) : JW G X k n w (pc) (a0 :: a1 :: a2 :: a3 :: a4 :: a5 :: a6 :: a7 :: a8 :: a9 :: a10 :: a11 :: a12 :: a13 :: a14 :: a15 :: a16 :: a17 :: a18 :: a19 :: a20 :: a21 :: a22 :: a23 :: a24 :: b0 :: t) (.int x :: rest) := by
  obtain ⟨p, l, e, R, s, m, args, below, meth, c, Q, A⟩ := X
  obtain ⟨hx, hb, hml, hown, hts, hnw, hK, hlk, hA, hR⟩ := C
  intro H locs ls hP hD hS hl
  refine lv_istore hx hb d hl (by simp only [List.length_cons]; omega) rfl (fun ls2 h2 => ?_)
  exact kk H locs ls2 hP hD hS (by have h3 := jl_store1 (L := a0 :: a1 :: a2 :: a3 :: a4 :: a5 :: a6 :: a7 :: a8 :: a9 :: a10 :: a11 :: a12 :: a13 :: a14 :: a15 :: a16 :: a17 :: a18 :: a19 :: a20 :: a21 :: a22 :: a23 :: a24 :: b0 :: t) (v := .int x) (by simp only [List.length_cons]; omega) (fun a _ h => by cases h; exact hc) h2; exact h3)
theorem jw_istore_26 {a0 a1 a2 a3 a4 a5 a6 a7 a8 a9 a10 a11 a12 a13 a14 a15 a16 a17 a18 a19 a20 a21 a22 a23 a24 a25 b0 : Option Value} {x : Int32} {t : List (Option Value)} (C : JC G X rm cc own nL) (d : decode cc pc = .ok (.istore 26, 2)) (hc : jc1 a25 = true) (kk : JW G X k n w (pc + 2) (a0 :: a1 :: a2 :: a3 :: a4 :: a5 :: a6 :: a7 :: a8 :: a9 :: a10 :: a11 :: a12 :: a13 :: a14 :: a15 :: a16 :: a17 :: a18 :: a19 :: a20 :: a21 :: a22 :: a23 :: a24 :: a25 :: some (.int x) :: t) (rest)) : JW G X k n w (pc) (a0 :: a1 :: a2 :: a3 :: a4 :: a5 :: a6 :: a7 :: a8 :: a9 :: a10 :: a11 :: a12 :: a13 :: a14 :: a15 :: a16 :: a17 :: a18 :: a19 :: a20 :: a21 :: a22 :: a23 :: a24 :: a25 :: b0 :: t) (.int x :: rest) := by
  obtain ⟨p, l, e, R, s, m, args, below, meth, c, Q, A⟩ := X
  obtain ⟨hx, hb, hml, hown, hts, hnw, hK, hlk, hA, hR⟩ := C
  intro H locs ls hP hD hS hl
  refine lv_istore hx hb d hl (by simp only [List.length_cons]; omega) rfl (fun ls2 h2 => ?_)
  exact kk H locs ls2 hP hD hS (by have h3 := jl_store1 (L := a0 :: a1 :: a2 :: a3 :: a4 :: a5 :: a6 :: a7 :: a8 :: a9 :: a10 :: a11 :: a12 :: a13 :: a14 :: a15 :: a16 :: a17 :: a18 :: a19 :: a20 :: a21 :: a22 :: a23 :: a24 :: a25 :: b0 :: t) (v := .int x) (by simp only [List.length_cons]; omega) (fun a _ h => by cases h; exact hc) h2; exact h3)
theorem jw_istore_27 {a0 a1 a2 a3 a4 a5 a6 a7 a8 a9 a10 a11 a12 a13 a14 a15 a16 a17 a18 a19 a20 a21 a22 a23 a24 a25 a26 b0 : Option Value} {x : Int32} {t : List (Option Value)} (C : JC G X rm cc own nL) (d : decode cc pc = .ok (.istore 27, 2)) (hc : jc1 a26 = true) (kk : JW G X k n w (pc + 2) (a0 :: a1 :: a2 :: a3 :: a4 :: a5 :: a6 :: a7 :: a8 :: a9 :: a10 :: a11 :: a12 :: a13 :: a14 :: a15 :: a16 :: a17 :: a18 :: a19 :: a20 :: a21 :: a22 :: a23 :: a24 :: a25 :: a26 :: some (.int x) :: t) (rest)) : JW G X k n w (pc) (a0 :: a1 :: a2 :: a3 :: a4 :: a5 :: a6 :: a7 :: a8 :: a9 :: a10 :: a11 :: a12 :: a13 :: a14 :: a15 :: a16 :: a17 :: a18 :: a19 :: a20 :: a21 :: a22 :: a23 :: a24 :: a25 :: a26 :: b0 :: t) (.int x :: rest) := by
  obtain ⟨p, l, e, R, s, m, args, below, meth, c, Q, A⟩ := X
  obtain ⟨hx, hb, hml, hown, hts, hnw, hK, hlk, hA, hR⟩ := C
  intro H locs ls hP hD hS hl
  refine lv_istore hx hb d hl (by simp only [List.length_cons]; omega) rfl (fun ls2 h2 => ?_)
  exact kk H locs ls2 hP hD hS (by have h3 := jl_store1 (L := a0 :: a1 :: a2 :: a3 :: a4 :: a5 :: a6 :: a7 :: a8 :: a9 :: a10 :: a11 :: a12 :: a13 :: a14 :: a15 :: a16 :: a17 :: a18 :: a19 :: a20 :: a21 :: a22 :: a23 :: a24 :: a25 :: a26 :: b0 :: t) (v := .int x) (by simp only [List.length_cons]; omega) (fun a _ h => by cases h; exact hc) h2; exact h3)
theorem jw_aload_0 {x : Nat} {t : List (Option Value)} (C : JC G X rm cc own nL) (d : decode cc pc = .ok (.aload_n 0, 1)) (kk : JW G X k n w (pc + 1) (some (.ref x) :: t) (.ref x :: rest)) : JW G X k n w (pc) (some (.ref x) :: t) (rest) := by
  obtain ⟨p, l, e, R, s, m, args, below, meth, c, Q, A⟩ := X
  obtain ⟨hx, hb, hml, hown, hts, hnw, hK, hlk, hA, hR⟩ := C
  intro H locs ls hP hD hS hl
  refine lv_aload_n hx hb d rfl (hl.2.2 (0, .ref x) ((jl0_mem _ _ _).mpr ⟨0, rfl, by omega⟩)) ?_
  exact kk H locs ls hP hD hS hl
theorem jw_aload_1 {a0 : Option Value} {x : Nat} {t : List (Option Value)} (C : JC G X rm cc own nL) (d : decode cc pc = .ok (.aload_n 1, 1)) (kk : JW G X k n w (pc + 1) (a0 :: some (.ref x) :: t) (.ref x :: rest)) : JW G X k n w (pc) (a0 :: some (.ref x) :: t) (rest) := by
  obtain ⟨p, l, e, R, s, m, args, below, meth, c, Q, A⟩ := X
  obtain ⟨hx, hb, hml, hown, hts, hnw, hK, hlk, hA, hR⟩ := C
  intro H locs ls hP hD hS hl
  refine lv_aload_n hx hb d rfl (hl.2.2 (1, .ref x) ((jl0_mem _ _ _).mpr ⟨1, rfl, by omega⟩)) ?_
  exact kk H locs ls hP hD hS hl
theorem jw_aload_2 {a0 a1 : Option Value} {x : Nat} {t : List (Option Value)} (C : JC G X rm cc own nL) (d : decode cc pc = .ok (.aload_n 2, 1)) (kk : JW G X k n w (pc + 1) (a0 :: a1 :: some (.ref x) :: t) (.ref x :: rest)) : JW G X k n w (pc) (a0 :: a1 :: some (.ref x) :: t) (rest) := by
  obtain ⟨p, l, e, R, s, m, args, below, meth, c, Q, A⟩ := X
  obtain ⟨hx, hb, hml, hown, hts, hnw, hK, hlk, hA, hR⟩ := C
  intro H locs ls hP hD hS hl
  refine lv_aload_n hx hb d rfl (hl.2.2 (2, .ref x) ((jl0_mem _ _ _).mpr ⟨2, rfl, by omega⟩)) ?_
  exact kk H locs ls hP hD hS hl
theorem jw_aload_3 {a0 a1 a2 : Option Value} {x : Nat} {t : List (Option Value)} (C : JC G X rm cc own nL) (d : decode cc pc = .ok (.aload_n 3, 1)) (kk : JW G X k n w (pc + 1) (a0 :: a1 :: a2 :: some (.ref x) :: t) (.ref x :: rest)) : JW G X k n w (pc) (a0 :: a1 :: a2 :: some (.ref x) :: t) (rest) := by
  obtain ⟨p, l, e, R, s, m, args, below, meth, c, Q, A⟩ := X
  obtain ⟨hx, hb, hml, hown, hts, hnw, hK, hlk, hA, hR⟩ := C
  intro H locs ls hP hD hS hl
  refine lv_aload_n hx hb d rfl (hl.2.2 (3, .ref x) ((jl0_mem _ _ _).mpr ⟨3, rfl, by omega⟩)) ?_
  exact kk H locs ls hP hD hS hl
theorem jw_aload_4 {a0 a1 a2 a3 : Option Value} {x : Nat} {t : List (Option Value)} (C : JC G X rm cc own nL) (d : decode cc pc = .ok (.aload 4, 2)) (kk : JW G X k n w (pc + 2) (a0 :: a1 :: a2 :: a3 :: some (.ref x) :: t) (.ref x :: rest)) : JW G X k n w (pc) (a0 :: a1 :: a2 :: a3 :: some (.ref x) :: t) (rest) := by
  obtain ⟨p, l, e, R, s, m, args, below, meth, c, Q, A⟩ := X
  obtain ⟨hx, hb, hml, hown, hts, hnw, hK, hlk, hA, hR⟩ := C
  intro H locs ls hP hD hS hl
  refine lv_aload hx hb d (hl.2.2 (4, .ref x) ((jl0_mem _ _ _).mpr ⟨4, rfl, by omega⟩)) ?_
  exact kk H locs ls hP hD hS hl
theorem jw_aload_5 {a0 a1 a2 a3 a4 : Option Value} {x : Nat} {t : List (Option Value)} (C : JC G X rm cc own nL) (d : decode cc pc = .ok (.aload 5, 2)) (kk : JW G X k n w (pc + 2) (a0 :: a1 :: a2 :: a3 :: a4 :: some (.ref x) :: t) (.ref x :: rest)) : JW G X k n w (pc) (a0 :: a1 :: a2 :: a3 :: a4 :: some (.ref x) :: t) (rest) := by
  obtain ⟨p, l, e, R, s, m, args, below, meth, c, Q, A⟩ := X
  obtain ⟨hx, hb, hml, hown, hts, hnw, hK, hlk, hA, hR⟩ := C
  intro H locs ls hP hD hS hl
  refine lv_aload hx hb d (hl.2.2 (5, .ref x) ((jl0_mem _ _ _).mpr ⟨5, rfl, by omega⟩)) ?_
  exact kk H locs ls hP hD hS hl
theorem jw_aload_6 {a0 a1 a2 a3 a4 a5 : Option Value} {x : Nat} {t : List (Option Value)} (C : JC G X rm cc own nL) (d : decode cc pc = .ok (.aload 6, 2)) (kk : JW G X k n w (pc + 2) (a0 :: a1 :: a2 :: a3 :: a4 :: a5 :: some (.ref x) :: t) (.ref x :: rest)) : JW G X k n w (pc) (a0 :: a1 :: a2 :: a3 :: a4 :: a5 :: some (.ref x) :: t) (rest) := by
  obtain ⟨p, l, e, R, s, m, args, below, meth, c, Q, A⟩ := X
  obtain ⟨hx, hb, hml, hown, hts, hnw, hK, hlk, hA, hR⟩ := C
  intro H locs ls hP hD hS hl
  refine lv_aload hx hb d (hl.2.2 (6, .ref x) ((jl0_mem _ _ _).mpr ⟨6, rfl, by omega⟩)) ?_
  exact kk H locs ls hP hD hS hl
theorem jw_aload_7 {a0 a1 a2 a3 a4 a5 a6 : Option Value} {x : Nat} {t : List (Option Value)} (C : JC G X rm cc own nL) (d : decode cc pc = .ok (.aload 7, 2)) (kk : JW G X k n w (pc + 2) (a0 :: a1 :: a2 :: a3 :: a4 :: a5 :: a6 :: some (.ref x) :: t) (.ref x :: rest)) : JW G X k n w (pc) (a0 :: a1 :: a2 :: a3 :: a4 :: a5 :: a6 :: some (.ref x) :: t) (rest) := by
  obtain ⟨p, l, e, R, s, m, args, below, meth, c, Q, A⟩ := X
  obtain ⟨hx, hb, hml, hown, hts, hnw, hK, hlk, hA, hR⟩ := C
  intro H locs ls hP hD hS hl
  refine lv_aload hx hb d (hl.2.2 (7, .ref x) ((jl0_mem _ _ _).mpr ⟨7, rfl, by omega⟩)) ?_
  exact kk H locs ls hP hD hS hl
theorem jw_aload_8 {a0 a1 a2 a3 a4 a5 a6 a7 : Option Value} {x : Nat} {t : List (Option Value)} (C : JC G X rm cc own nL) (d : decode cc pc = .ok (.aload 8, 2)) (kk : JW G X k n w (pc + 2) (a0 :: a1 :: a2 :: a3 :: a4 :: a5 :: a6 :: a7 :: some (.ref x) :: t) (.ref x :: rest)) : JW G X k n w (pc) (a0 :: a1 :: a2 :: a3 :: a4 :: a5 :: a6 :: a7 :: some (.ref x) :: t) (rest) := by
  obtain ⟨p, l, e, R, s, m, args, below, meth, c, Q, A⟩ := X
  obtain ⟨hx, hb, hml, hown, hts, hnw, hK, hlk, hA, hR⟩ := C
  intro H locs ls hP hD hS hl
  refine lv_aload hx hb d (hl.2.2 (8, .ref x) ((jl0_mem _ _ _).mpr ⟨8, rfl, by omega⟩)) ?_
  exact kk H locs ls hP hD hS hl
theorem jw_aload_9 {a0 a1 a2 a3 a4 a5 a6 a7 a8 : Option Value} {x : Nat} {t : List (Option Value)} (C : JC G X rm cc own nL) (d : decode cc pc = .ok (.aload 9, 2)) (kk : JW G X k n w (pc + 2) (a0 :: a1 :: a2 :: a3 :: a4 :: a5 :: a6 :: a7 :: a8 :: some (.ref x) :: t) (.ref x :: rest)) : JW G X k n w (pc) (a0 :: a1 :: a2 :: a3 :: a4 :: a5 :: a6 :: a7 :: a8 :: some (.ref x) :: t) (rest) := by
  obtain ⟨p, l, e, R, s, m, args, below, meth, c, Q, A⟩ := X
  obtain ⟨hx, hb, hml, hown, hts, hnw, hK, hlk, hA, hR⟩ := C
  intro H locs ls hP hD hS hl
  refine lv_aload hx hb d (hl.2.2 (9, .ref x) ((jl0_mem _ _ _).mpr ⟨9, rfl, by omega⟩)) ?_
  exact kk H locs ls hP hD hS hl
theorem jw_aload_10 {a0 a1 a2 a3 a4 a5 a6 a7 a8 a9 : Option Value} {x : Nat} {t : List (Option Value)} (C : JC G X rm cc own nL) (d : decode cc pc = .ok (.aload 10, 2)) (kk : JW G X k n w (pc + 2) (a0 :: a1 :: a2 :: a3 :: a4 :: a5 :: a6 :: a7 :: a8 :: a9 :: some (.ref x) :: t) (.ref x :: rest)) : JW G X k n w (pc) (a0 :: a1 :: a2 :: a3 :: a4 :: a5 :: a6 :: a7 :: a8 :: a9 :: some (.ref x) :: t) (rest) := by
  obtain ⟨p, l, e, R, s, m, args, below, meth, c, Q, A⟩ := X
  obtain ⟨hx, hb, hml, hown, hts, hnw, hK, hlk, hA, hR⟩ := C
  intro H locs ls hP hD hS hl
  refine lv_aload hx hb d (hl.2.2 (10, .ref x) ((jl0_mem _ _ _).mpr ⟨10, rfl, by omega⟩)) ?_
  exact kk H locs ls hP hD hS hl
theorem jw_aload_11 {a0 a1 a2 a3 a4 a5 a6 a7 a8 a9 a10 : Option Value} {x : Nat} {t : List (Option Value)} (C : JC G X rm cc own nL) (d : decode cc pc = .ok (.aload 11, 2)) (kk : JW G X k n w (pc + 2) (a0 :: a1 :: a2 :: a3 :: a4 :: a5 :: a6 :: a7 :: a8 :: a9 :: a10 :: some (.ref x) :: t) (.ref x :: rest)) : JW G X k n w (pc) (a0 :: a1 :: a2 :: a3 :: a4 :: a5 :: a6 :: a7 :: a8 :: a9 :: a10 :: some (.ref x) :: t) (rest) := by
  obtain ⟨p, l, e, R, s, m, args, below, meth, c, Q, A⟩ := X
  obtain ⟨hx, hb, hml, hown, hts, hnw, hK, hlk, hA, hR⟩ := C
  intro H locs ls hP hD hS hl
  refine lv_aload hx hb d (hl.2.2 (11, .ref x) ((jl0_mem _ _ _).mpr ⟨11, rfl, by omega⟩)) ?_
  exact kk H locs ls hP hD hS hl
theorem jw_aload_12 {a0 a1 a2 a3 a4 a5 a6 a7 a8 a9 a10 a11 : Option Value} {x : Nat} {t : List (Option Value)} (C : JC G X rm cc own nL) (d : decode cc pc = .ok (.aload 12, 2)) (kk : JW G X k n w (pc + 2) (a0 :: a1 :: a2 :: a3 :: a4 :: a5 :: a6 :: a7 :: a8 :: a9 :: a10 :: a11 :: some (.ref x) :: t) (.ref x :: rest)) : JW G X k n w (pc) (a0 :: a1 :: a2 :: a3 :: a4 :: a5 :: a6 :: a7 :: a8 :: a9 :: a10 :: a11 :: some (.ref x) :: t) (rest) := by
  obtain ⟨p, l, e, R, s, m, args, below, meth, c, Q, A⟩ := X
  obtain ⟨hx, hb, hml, hown, hts, hnw, hK, hlk, hA, hR⟩ := C
  intro H locs ls hP hD hS hl
  refine lv_aload hx hb d (hl.2.2 (12, .ref x) ((jl0_mem _ _ _).mpr ⟨12, rfl, by omega⟩)) ?_
  exact kk H locs ls hP hD hS hl
theorem jw_aload_13 {a0 a1 a2 a3 a4 a5 a6 a7 a8 a9 a10 a11 a12 : Option Value} {x : Nat} {t : List (Option Value)} (C : JC G X rm cc own nL) (d : decode cc pc = .ok (.aload 13, 2)) (kk : JW G X k n w (pc + 2) (a0 :: a1 :: a2 :: a3 :: a4 :: a5 :: a6 :: a7 :: a8 :: a9 :: a10 :: a11 :: a12 :: some (.ref x) :: t) (.ref x :: rest)) : JW G X k n w (pc) (a0 :: a1 :: a2 :: a3 :: a4 :: a5 :: a6 :: a7 :: a8 :: a9 :: a10 :: a11 :: a12 :: some (.ref x) :: t) (rest) := by
  obtain ⟨p, l, e, R, s, m, args, below, meth, c, Q, A⟩ := X
  obtain ⟨hx, hb, hml, hown, hts, hnw, hK, hlk, hA, hR⟩ := C
  intro H locs ls hP hD hS hl
  refine lv_aload hx hb d (hl.2.2 (13, .ref x) ((jl0_mem _ _ _).mpr ⟨13, rfl, by omega⟩)) ?_
  exact kk H locs ls hP hD hS hl
theorem jw_aload_14 {a0 a1 a2 a3 a4 a5 a6 a7 a8 a9 a10 a11 a12 a13 : Option Value} {x : Nat} {t : List (Option Value)} (C : JC G X rm cc own nL) (d : decode cc pc = .ok (.aload 14, 2)) (kk : JW G X k n w (pc + 2) (a0 :: a1 :: a2 :: a3 :: a4 :: a5 :: a6 :: a7 :: a8 :: a9 :: a10 :: a11 :: a12 :: a13 :: some (.ref x) :: t) (.ref x :: rest)) : JW G X k n w (pc) (a0 :: a1 :: a2 :: a3 :: a4 :: a5 :: a6 :: a7 :: a8 :: a9 :: a10 :: a11 :: a12 :: a13 :: some (.ref x) :: t) (rest) := by
  obtain ⟨p, l, e, R, s, m, args, below, meth, c, Q, A⟩ := X
  obtain ⟨hx, hb, hml, hown, hts, hnw, hK, hlk, hA, hR⟩ := C
  intro H locs ls hP hD hS hl
  refine lv_aload hx hb d (hl.2.2 (14, .ref x) ((jl0_mem _ _ _).mpr ⟨14, rfl, by omega⟩)) ?_
  exact kk H locs ls hP hD hS hl
theorem jw_aload_15 {a0 a1 a2 a3 a4 a5 a6 a7 a8 a9 a10 a11 a12 a13 a14 : Option Value} {x : Nat} {t : List (Option Value)} (C : JC G X rm cc own nL) (d : decode cc pc = .ok (.aload 15, 2)) (kk : JW G X k n w (pc + 2) (a0 :: a1 :: a2 :: a3 :: a4 :: a5 :: a6 :: a7 :: a8 :: a9 :: a10 :: a11 :: a12 :: a13 :: a14 :: some (.ref x) :: t) (.ref x :: rest)) : JW G X k n w (pc) (a0 :: a1 :: a2 :: a3 :: a4 :: a5 :: a6 :: a7 :: a8 :: a9 :: a10 :: a11 :: a12 :: a13 :: a14 :: some (.ref x) :: t) (rest) := by
  obtain ⟨p, l, e, R, s, m, args, below, meth, c, Q, A⟩ := X
  obtain ⟨hx, hb, hml, hown, hts, hnw, hK, hlk, hA, hR⟩ := C
  intro H locs ls hP hD hS hl
  refine lv_aload hx hb d (hl.2.2 (15, .ref x) ((jl0_mem _ _ _).mpr ⟨15, rfl, by omega⟩)) ?_
  exact kk H locs ls hP hD hS hl
theorem jw_aload_16 {a0 a1 a2 a3 a4 a5 a6 a7 a8 a9 a10 a11 a12 a13 a14 a15 : Option Value} {x : Nat} {t : List (Option Value)} (C : JC G X rm cc own nL) (d : decode cc pc = .ok (.aload 16, 2)) (kk : JW G X k n w (pc + 2) (a0 :: a1 :: a2 :: a3 :: a4 :: a5 :: a6 :: a7 :: a8 :: a9 :: a10 :: a11 :: a12 :: a13 :: a14 :: a15 :: some (.ref x) :: t) (.ref x :: rest)) : JW G X k n w (pc) (a0 :: a1 :: a2 :: a3 :: a4 :: a5 :: a6 :: a7 :: a8 :: a9 :: a10 :: a11 :: a12 :: a13 :: a14 :: a15 :: some (.ref x) :: t) (rest) := by
  obtain ⟨p, l, e, R, s, m, args, below, meth, c, Q, A⟩ := X
  obtain ⟨hx, hb, hml, hown, hts, hnw, hK, hlk, hA, hR⟩ := C
  intro H locs ls hP hD hS hl
  refine lv_aload hx hb d (hl.2.2 (16, .ref x) ((jl0_mem _ _ _).mpr ⟨16, rfl, by omega⟩)) ?_
  exact kk H locs ls hP hD hS hl
theorem jw_aload_17 {a0 a1 a2 a3 a4 a5 a6 a7 a8 a9 a10 a11 a12 a13 a14 a15 a16 : Option Value} {x : Nat} {t : List (Option Value)} (C : JC G X rm cc own nL) (d : decode cc pc = .ok (.aload 17, 2)) (kk : JW G X k n w (pc + 2) (a0 :: a1 :: a2 :: a3 :: a4 :: a5 :: a6 :: a7 :: a8 :: a9 :: a10 :: a11 :: a12 :: a13 :: a14 :: a15 :: a16 :: some (.ref x) :: t) (.ref x :: rest)) : JW G X k n w (pc) (a0 :: a1 :: a2 :: a3 :: a4 :: a5 :: a6 :: a7 :: a8 :: a9 :: a10 :: a11 :: a12 :: a13 :: a14 :: a15 :: a16 :: some (.ref x) :: t) (rest) := by
  obtain ⟨p, l, e, R, s, m, args, below, meth, c, Q, A⟩ := X
  obtain ⟨hx, hb, hml, hown, hts, hnw, hK, hlk, hA, hR⟩ := C
  intro H locs ls hP hD hS hl
  refine lv_aload hx hb d (hl.2.2 (17, .ref x) ((jl0_mem _ _ _).mpr ⟨17, rfl, by omega⟩)) ?_
  exact kk H locs ls hP hD hS hl
theorem jw_aload_18 {a0 a1 a2 a3 a4 a5 a6 a7 a8 a9 a10 a11 a12 a13 a14 a15 a16 a17 : Option Value} {x : Nat} {t : List (Option Value)} (C : JC G X rm cc own nL) (d : decode cc pc = .ok (.aload 18, 2)) (kk : JW G X k n w (pc + 2) (a0 :: a1 :: a2 :: a3 :: a4 :: a5 :: a6 :: a7 :: a8 :: a9 :: a10 :: a11 :: a12 :: a13 :: a14 :: a15 :: a16 :: a17 :: some (.ref x) :: t) (.ref x :: rest)) : JW G X k n w (pc) (a0 :: a1 :: a2 :: a3 :: a4 :: a5 :: a6 :: a7 :: a8 :: a9 :: a10 :: a11 :: a12 :: a13 :: a14 :: a15 :: a16 :: a17 :: some (.ref x) :: t) (rest) := by
  obtain ⟨p, l, e, R, s, m, args, below, meth, c, Q, A⟩ := X
  obtain ⟨hx, hb, hml, hown, hts, hnw, hK, hlk, hA, hR⟩ := C
  intro H locs ls hP hD hS hl
  refine lv_aload hx hb d (hl.2.2 (18, .ref x) ((jl0_mem _ _ _).mpr ⟨18, rfl, by omega⟩)) ?_
  exact kk H locs ls hP hD hS hl
theorem jw_aload_19 {a0 a1 a2 a3 a4 a5 a6 a7 a8 a9 a10 a11 a12 a13 a14 a15 a16 a17 a18 : Option Value} {x : Nat} {t : List (Option Value)} (C : JC G X rm cc own nL) (d : decode cc pc = .ok (.aload 19, 2)) (kk : JW G X k n w (pc + 2) (a0 :: a1 :: a2 :: a3 :: a4 :: a5 :: a6 :: a7 :: a8 :: a9 :: a10 :: a11 :: a12 :: a13 :: a14 :: a15 :: a16 :: a17 :: a18 :: some (.ref x) :: t) (.ref x :: rest)) : JW G X k n w (pc) (a0 :: a1 :: a2 :: a3 :: a4 :: a5 :: a6 :: a7 :: a8 :: a9 :: a10 :: a11 :: a12 :: a13 :: a14 :: a15 :: a16 :: a17 :: a18 :: some (.ref x) :: t) (rest) := by
  obtain ⟨p, l, e, R, s, m, args, below, meth, c, Q, A⟩ := X
  obtain ⟨hx, hb, hml, hown, hts, hnw, hK, hlk, hA, hR⟩ := C
  intro H locs ls hP hD hS hl
  refine lv_aload hx hb d (hl.2.2 (19, .ref x) ((jl0_mem _ _ _).mpr ⟨19, rfl, by omega⟩)) ?_
  exact kk H locs ls hP hD hS hl
theorem jw_aload_20 {a0 a1 a2 a3 a4 a5 a6 a7 a8 a9 a10 a11 a12 a13 a14 a15 a16 a17 a18 a19 : Option Value} {x : Nat} {t : List (Option Value)} (C : JC G X rm cc own nL) (d : decode cc pc = .ok (.aload 20, 2)) (kk : JW G X k n w (pc + 2) (a0 :: a1 :: a2 :: a3 :: a4 :: a5 :: a6 :: a7 :: a8 :: a9 :: a10 :: a11 :: a12 :: a13 :: a14 :: a15 :: a16 :: a17 :: a18 :: a19 :: some (.ref x) :: t) (.ref x :: rest)) : JW G X k n w (pc) (a0 :: a1 :: a2 :: a3 :: a4 :: a5 :: a6 :: a7 :: a8 :: a9 :: a10 :: a11 :: a12 :: a13 :: a14 :: a15 :: a16 :: a17 :: a18 :: a19 :: some (.ref x) :: t) (rest) := by
  obtain ⟨p, l, e, R, s, m, args, below, meth, c, Q, A⟩ := X
  obtain ⟨hx, hb, hml, hown, hts, hnw, hK, hlk, hA, hR⟩ := C
  intro H locs ls hP hD hS hl
  refine lv_aload hx hb d (hl.2.2 (20, .ref x) ((jl0_mem _ _ _).mpr ⟨20, rfl, by omega⟩)) ?_
  exact kk H locs ls hP hD hS hl
theorem jw_aload_21 {a0 a1 a2 a3 a4 a5 a6 a7 a8 a9 a10 a11 a12 a13 a14 a15 a16 a17 a18 a19 a20 : Option Value} {x : Nat} {t : List (Option Value)} (C : JC G X rm cc own nL) (d : decode cc pc = .ok (.aload 21, 2)) (kk : JW G X k n w (pc + 2) (a0 :: a1 :: a2 :: a3 :: a4 :: a5 :: a6 :: a7 :: a8 :: a9 :: a10 :: a11 :: a12 :: a13 :: a14 :: a15 :: a16 :: a17 :: a18 :: a19 :: a20 :: some (.ref x) :: t) (.ref x :: rest)) : JW G X k n w (pc) (a0 :: a1 :: a2 :: a3 :: a4 :: a5 :: a6 :: a7 :: a8 :: a9 :: a10 :: a11 :: a12 :: a13 :: a14 :: a15 :: a16 :: a17 :: a18 :: a19 :: a20 :: some (.ref x) :: t) (rest) := by
  obtain ⟨p, l, e, R, s, m, args, below, meth, c, Q, A⟩ := X
  obtain ⟨hx, hb, hml, hown, hts, hnw, hK, hlk, hA, hR⟩ := C
  intro H locs ls hP hD hS hl
  refine lv_aload hx hb d (hl.2.2 (21, .ref x) ((jl0_mem _ _ _).mpr ⟨21, rfl, by omega⟩)) ?_
  exact kk H locs ls hP hD hS hl
theorem jw_aload_22 {a0 a1 a2 a3 a4 a5 a6 a7 a8 a9 a10 a11 a12 a13 a14 a15 a16 a17 a18 a19 a20 a21 : Option Value} {x : Nat} {t : List (Option Value)} (C : JC G X rm cc own nL) (d : decode cc pc = .ok (.aload 22, 2)) (kk : JW G X k n w (pc + 2) (a0 :: a1 :: a2 :: a3 :: a4 :: a5 :: a6 :: a7 :: a8 :: a9 :: a10 :: a11 :: a12 :: a13 :: a14 :: a15 :: a16 :: a17 :: a18 :: a19 :: a20 :: a21 :: some (.ref x) :: t) (.ref x :: rest)) : JW G X k n w (pc) (a0 :: a1 :: a2 :: a3 :: a4 :: a5 :: a6 :: a7 :: a8 :: a9 :: a10 :: a11 :: a12 :: a13 :: a14 :: a15 :: a16 :: a17 :: a18 :: a19 :: a20 :: a21 :: some (.ref x) :: t) (rest) := by
  obtain ⟨p, l, e, R, s, m, args, below, meth, c, Q, A⟩ := X
  obtain ⟨hx, hb, hml, hown, hts, hnw, hK, hlk, hA, hR⟩ := C
  intro H locs ls hP hD hS hl
  refine lv_aload hx hb d (hl.2.2 (22, .ref x) ((jl0_mem _ _ _).mpr ⟨22, rfl, by omega⟩)) ?_
  exact kk H locs ls hP hD hS hl
theorem jw_aload_23 {a0 a1 a2 a3 a4 a5 a6 a7 a8 a9 a10 a11 a12 a13 a14 a15 a16 a17 a18 a19 a20 a21 a22 : Option Value} {x : Nat} {t : List (Option Value)} (C : JC G X rm cc own nL) (d : decode cc pc = .ok (.aload 23, 2)) (kk : JW G X k n w (pc + 2) (a0 :: a1 :: a2 :: a3 :: a4 :: a5 :: a6 :: a7 :: a8 :: a9 :: a10 :: a11 :: a12 :: a13 :: a14 :: a15 :: a16 :: a17 :: a18 :: a19 :: a20 :: a21 :: a22 :: some (.ref x) :: t) (.ref x :: rest)) : JW G X k n w (pc) (a0 :: a1 :: a2 :: a3 :: a4 :: a5 :: a6 :: a7 :: a8 :: a9 :: a10 :: a11 :: a12 :: a13 :: a14 :: a15 :: a16 :: a17 :: a18 :: a19 :: a20 :: a21 :: a22 :: some (.ref x) :: t) (rest) := by
  obtain ⟨p, l, e, R, s, m, args, below, meth, c, Q, A⟩ := X
  obtain ⟨hx, hb, hml, hown, hts, hnw, hK, hlk, hA, hR⟩ := C
  intro H locs ls hP hD hS hl
  refine lv_aload hx hb d (hl.2.2 (23, .ref x) ((jl0_mem _ _ _).mpr ⟨23, rfl, by omega⟩)) ?_
  exact kk H locs ls hP hD hS hl
theorem jw_aload_24 {a0 a1 a2 a3 a4 a5 a6 a7 a8 a9 a10 a11 a12 a13 a14 a15 a16 a17 a18 a19 a20 a21 a22 a23 : Option Value} {x : Nat} {t : List (Option Value)} (C : JC G X rm cc own nL) (d : decode cc pc = .ok (.aload 24, 2)) (kk : JW G X k n w (pc + 2) (a0 :: a1 :: a2 :: a3 :: a4 :: a5 :: a6 :: a7 :: a8 :: a9 :: a10 :: a11 :: a12 :: a13 :: a14 :: a15 :: a16 :: a17 :: a18 :: a19 :: a20 :: a21 :: a22 :: a23 :: some (.ref x) :: t) (.ref x :: rest)) : JW G X k n w (pc) (a0 :: a1 :: a2 :: a3 :: a4 :: a5 :: a6 :: a7 :: a8 :: a9 :: a10 :: a11 :: a12 :: a13 :: a14 :: a15 :: a16 :: a17 :: a18 :: a19 :: a20 :: a21 :: a22 :: a23 :: some (.ref x) :: t) (rest) := by
  obtain ⟨p, l, e, R, s, m, args, below, meth, c, Q, A⟩ := X
  obtain ⟨hx, hb, hml, hown, hts, hnw, hK, hlk, hA, hR⟩ := C
  intro H locs ls hP hD hS hl
  refine lv_aload hx hb d (hl.2.2 (24, .ref x) ((jl0_mem _ _ _).mpr ⟨24, rfl, by omega⟩)) ?_
  exact kk H locs ls hP hD hS hl
theorem jw_aload_25 {a0 a1 a2 a3 a4 a5 a6 a7 a8 a9 a10 a11 a12 a13 a14 a15 a16 a17 a18 a19 a20 a21 a22 a23 a24 : Option Value} {x : Nat} {t : List (Option Value)} (C : JC G X rm cc own nL) (d : decode cc pc = .ok (.aload 25, 2)) (kk : JW G X k n w (pc + 2) (a0 :: a1 :: a2 :: a3 :: a4 :: a5 :: a6 :: a7 :: a8 :: a9 :: a10 :: a11 :: a12 :: a13 :: a14 :: a15 :: a16 :: a17 :: a18 :: a19 :: a20 :: a21 :: a22 :: a23 :: a24 :: some (.ref x) :: t) (.ref x :: rest)) : JW G X k n w (pc) (a0 :: a1 :: a2 :: a3 :: a4 :: a5 :: a6 :: a7 :: a8 :: a9 :: a10 :: a11 :: a12 :: a13 :: a14 :: a15 :: a16 :: a17 :: a18 :: a19 :: a20 :: a21 :: a22 :: a23 :: a24 :: some (.ref x) :: t) (rest) := by
  obtain ⟨p, l, e, R, s, m, args, below, meth, c, Q, A⟩ := X
  obtain ⟨hx, hb, hml, hown, hts, hnw, hK, hlk, hA, hR⟩ := C
  intro H locs ls hP hD hS hl
  refine lv_aload hx hb d (hl.2.2 (25, .ref x) ((jl0_mem _ _ _).mpr ⟨25, rfl, by omega⟩)) ?_
  exact kk H locs ls hP hD hS hl
theorem jw_aload_26 {a0 a1 a2 a3 a4 a5 a6 a7 a8 a9 a10 a11 a12 a13 a14 a15 a16 a17 a18 a19 a20 a21 a22 a23 a24 a25 : Option Value} {x : Nat} {t : List (Option Value)} (C : JC G X rm cc own nL) (d : decode cc pc = .ok (.aload 26, 2)) (kk : JW G X k n w (pc + 2) (a0 :: a1 :: a2 :: a3 :: a4 :: a5 :: a6 :: a7 :: a8 :: a9 :: a10 :: a11 :: a12 :: a13 :: a14 :: a15 :: a16 :: a17 :: a18 :: a19 :: a20 :: a21 :: a22 :: a23 :: a24 :: a25 :: some (.ref x) :: t) (.ref x :: rest)) : JW G X k n w (pc) (a0 :: a1 :: a2 :: a3 :: a4 :: a5 :: a6 :: a7 :: a8 :: a9 :: a10 :: a11 :: a12 :: a13 :: a14 :: a15 :: a16 :: a17 :: a18 :: a19 :: a20 :: a21 :: a22 :: a23 :: a24 :: a25 :: some (.ref x) :: t) (rest) := by
  obtain ⟨p, l, e, R, s, m, args, below, meth, c, Q, A⟩ := X
  obtain ⟨hx, hb, hml, hown, hts, hnw, hK, hlk, hA, hR⟩ := C
  intro H locs ls hP hD hS hl
  refine lv_aload hx hb d (hl.2.2 (26, .ref x) ((jl0_mem _ _ _).mpr ⟨26, rfl, by omega⟩)) ?_
  exact kk H locs ls hP hD hS hl
theorem jw_aload_27 {a0 a1 a2 a3 a4 a5 a6 a7 a8 a9 a10 a11 a12 a13 a14 a15 a16 a17 a18 a19 a20 a21 a22 a23 a24 a25 a26 : Option Value} {x : Nat} {t : List (Option Value)} (C : JC G X rm cc own nL) (d : decode cc pc = .ok (.aload 27, 2)) (kk : JW G X k n w (pc + 2) (a0 :: a1 :: a2 :: a3 :: a4 :: a5 :: a6 :: a7 :: a8 :: a9 :: a10 :: a11 :: a12 :: a13 :: a14 :: a15 :: a16 :: a17 :: a18 :: a19 :: a20 :: a21 :: a22 :: a23 :: a24 :: a25 :: a26 :: some (.ref x) :: t) (.ref x :: rest)) : JW G X k n w (pc) (a0 :: a1 :: a2 :: a3 :: a4 :: a5 :: a6 :: a7 :: a8 :: a9 :: a10 :: a11 :: a12 :: a13 :: a14 :: a15 :: a16 :: a17 :: a18 :: a19 :: a20 :: a21 :: a22 :: a23 :: a24 :: a25 :: a26 :: some (.ref x) :: t) (rest) := by
  obtain ⟨p, l, e, R, s, m, args, below, meth, c, Q, A⟩ := X
  obtain ⟨hx, hb, hml, hown, hts, hnw, hK, hlk, hA, hR⟩ := C
  intro H locs ls hP hD hS hl
  refine lv_aload hx hb d (hl.2.2 (27, .ref x) ((jl0_mem _ _ _).mpr ⟨27, rfl, by omega⟩)) ?_
  exact kk H locs ls hP hD hS hl
theorem jw_astore_0 {b0 : Option Value} {x : Nat} {t : List (Option Value)} (C : JC G X rm cc own nL) (d : decode cc pc = .ok (.astore_n 0, 1)) (kk : JW G X k n w (pc + 1) (some (.ref x) :: t) (rest)) : JW G X k n w (pc) (b0 :: t) (.ref x :: rest) := by
  obtain ⟨p, l, e, R, s, m, args, below, meth, c, Q, A⟩ := X
  obtain ⟨hx, hb, hml, hown, hts, hnw, hK, hlk, hA, hR⟩ := C
  intro H locs ls hP hD hS hl
  refine lv_astore_n hx hb d rfl hl (by simp only [List.length_cons]; omega) rfl (fun ls2 h2 => ?_)
  exact kk H locs ls2 hP hD hS (by have h3 := jl_store1 (L := b0 :: t) (v := .ref x) (by simp only [List.length_cons]; omega) (fun a h _ => absurd h (Nat.lt_irrefl 0)) h2; exact h3)
theorem jw_astore_1 {a0 b0 : Option Value} {x : Nat} {t : List (Option Value)} (C : JC G X rm cc own nL) (d : decode cc pc = .ok (.astore_n 1, 1)) (hc : jc1 a0 = true) (kk : JW G X k n w (pc + 1) (a0 :: some (.ref x) :: t) (rest)) : JW G X k n w (pc) (a0 :: b0 :: t) (.ref x :: rest) := by
  obtain ⟨p, l, e, R, s, m, args, below, meth, c, Q, A⟩ := X
  obtain ⟨hx, hb, hml, hown, hts, hnw, hK, hlk, hA, hR⟩ := C
  intro H locs ls hP hD hS hl
  refine lv_astore_n hx hb d rfl hl (by simp only [List.length_cons]; omega) rfl (fun ls2 h2 => ?_)
  exact kk H locs ls2 hP hD hS (by have h3 := jl_store1 (L := a0 :: b0 :: t) (v := .ref x) (by simp only [List.length_cons]; omega) (fun a _ h => by cases h; exact hc) h2; exact h3)
theorem jw_astore_2 {a0 a1 b0 : Option Value} {x : Nat} {t : List (Option Value)} (C : JC G X rm cc own nL) (d : decode cc pc = .ok (.astore_n 2, 1)) (hc : jc1 a1 = true) (kk : JW G X k n w (pc + 1) (a0 :: a1 :: some (.ref x) :: t) (rest)) : JW G X k n w (pc) (a0 :: a1 :: b0 :: t) (.ref x :: rest) := by
  obtain ⟨p, l, e, R, s, m, args, below, meth, c, Q, A⟩ := X
  obtain ⟨hx, hb, hml, hown, hts, hnw, hK, hlk, hA, hR⟩ := C
  intro H locs ls hP hD hS hl
  refine lv_astore_n hx hb d rfl hl (by simp only [List.length_cons]; omega) rfl (fun ls2 h2 => ?_)
  exact kk H locs ls2 hP hD hS (by have h3 := jl_store1 (L := a0 :: a1 :: b0 :: t) (v := .ref x) (by simp only [List.length_cons]; omega) (fun a _ h => by cases h; exact hc) h2; exact h3)
theorem jw_astore_3 {a0 a1 a2 b0 : Option Value} {x : Nat} {t : List (Option Value)} (C : JC G X rm cc own nL) (d : decode cc pc = .ok (.astore_n 3, 1)) (hc : jc1 a2 = true) (kk : JW G X k n w (pc + 1) (a0 :: a1 :: a2 :: some (.ref x) :: t) (rest)) : JW G X k n w (pc) (a0 :: a1 :: a2 :: b0 :: t) (.ref x :: rest) := by
  obtain ⟨p, l, e, R, s, m, args, below, meth, c, Q, A⟩ := X
  obtain ⟨hx, hb, hml, hown, hts, hnw, hK, hlk, hA, hR⟩ := C
  intro H locs ls hP hD hS hl
  refine lv_astore_n hx hb d rfl hl (by simp only [List.length_cons]; omega) rfl (fun ls2 h2 => ?_)
  exact kk H locs ls2 hP hD hS (by have h3 := jl_store1 (L := a0 :: a1 :: a2 :: b0 :: t) (v := .ref x) (by simp only [List.length_cons]; omega) (fun a _ h => by cases h; exact hc) h2; exact h3)
theorem jw_astore_4 {a0 a1 a2 a3 b0 : Option Value} {x : Nat} {t : List (Option Value)} (C : JC G X rm cc own nL) (d : decode cc pc = .ok (.astore 4, 2)) (hc : jc1 a3 = true) (kk : JW G X k n w (pc + 2) (a0 :: a1 :: a2 :: a3 :: some (.ref x) :: t) (rest)) : JW G X k n w (pc) (a0 :: a1 :: a2 :: a3 :: b0 :: t) (.ref x :: rest) := by
  obtain ⟨p, l, e, R, s, m, args, below, meth, c, Q, A⟩ := X
  obtain ⟨hx, hb, hml, hown, hts, hnw, hK, hlk, hA, hR⟩ := C
  intro H locs ls hP hD hS hl
  refine lv_astore hx hb d hl (by simp only [List.length_cons]; omega) rfl (fun ls2 h2 => ?_)
  exact kk H locs ls2 hP hD hS (by have h3 := jl_store1 (L := a0 :: a1 :: a2 :: a3 :: b0 :: t) (v := .ref x) (by simp only [List.length_cons]; omega) (fun a _ h => by cases h; exact hc) h2; exact h3)
theorem jw_astore_5 {a0 a1 a2 a3 a4 b0 : Option Value} {x : Nat} {t : List (Option Value)} (C : JC G X rm cc own nL) (d : decode cc pc = .ok (.astore 5, 2)) (hc : jc1 a4 = true) (kk : JW G X k n w (pc + 2) (a0 :: a1 :: a2 :: a3 :: a4 :: some (.ref x) :: t) (rest)) : JW G X k n w (pc) (a0 :: a1 :: a2 :: a3 :: a4 :: b0 :: t) (.ref x :: rest) := by
  obtain ⟨p, l, e, R, s, m, args, below, meth, c, Q, A⟩ := X
  obtain ⟨hx, hb, hml, hown, hts, hnw, hK, hlk, hA, hR⟩ := C
  intro H locs ls hP hD hS hl
  refine lv_astore hx hb d hl (by simp only [List.length_cons]; omega) rfl (fun ls2 h2 => ?_)
  exact kk H locs ls2 hP hD hS (by have h3 := jl_store1 (L := a0 :: a1 :: a2 :: a3 :: a4 :: b0 :: t) (v := .ref x) (by simp only [List.length_cons]; omega) (fun a _ h => by cases h; exact hc) h2; exact h3)
theorem jw_astore_6 {a0 a1 a2 a3 a4 a5 b0 : Option Value} {x : Nat} {t : List (Option Value)} (C : JC G X rm cc own nL) (d : decode cc pc = .ok (.astore 6, 2)) (hc : jc1 a5 = true) (kk : JW G X k n w (pc + 2) (a0 :: a1 :: a2 :: a3 :: a4 :: a5 :: some (.ref x) :: t) (rest)) : JW G X k n w (pc) (a0 :: a1 :: a2 :: a3 :: a4 :: a5 :: b0 :: t) (.ref x :: rest) := by
  obtain ⟨p, l, e, R, s, m, args, below, meth, c, Q, A⟩ := X
  obtain ⟨hx, hb, hml, hown, hts, hnw, hK, hlk, hA, hR⟩ := C
  intro H locs ls hP hD hS hl
  refine lv_astore hx hb d hl (by simp only [List.length_cons]; omega) rfl (fun ls2 h2 => ?_)
  exact kk H locs ls2 hP hD hS (by have h3 := jl_store1 (L := a0 :: a1 :: a2 :: a3 :: a4 :: a5 :: b0 :: t) (v := .ref x) (by simp only [List.length_cons]; omega) (fun a _ h => by cases h; exact hc) h2; exact h3)
theorem jw_astore_7 {a0 a1 a2 a3 a4 a5 a6 b0 : Option Value} {x : Nat} {t : List (Option Value)} (C : JC G X rm cc own nL) (d : decode cc pc = .ok (.astore 7, 2)) (hc : jc1 a6 = true) (kk : JW G X k n w (pc + 2) (a0 :: a1 :: a2 :: a3 :: a4 :: a5 :: a6 :: some (.ref x) :: t) (rest)) : JW G X k n w (pc) (a0 :: a1 :: a2 :: a3 :: a4 :: a5 :: a6 :: b0 :: t) (.ref x :: rest) := by
  obtain ⟨p, l, e, R, s, m, args, below, meth, c, Q, A⟩ := X
  obtain ⟨hx, hb, hml, hown, hts, hnw, hK, hlk, hA, hR⟩ := C
  intro H locs ls hP hD hS hl
  refine lv_astore hx hb d hl (by simp only [List.length_cons]; omega) rfl (fun ls2 h2 => ?_)
  exact kk H locs ls2 hP hD hS (by have h3 := jl_store1 (L := a0 :: a1 :: a2 :: a3 :: a4 :: a5 :: a6 :: b0 :: t) (v := .ref x) (by simp only [List.length_cons]; omega) (fun a _ h => by cases h; exact hc) h2; exact h3)
theorem jw_astore_8 {a0 a1 a2 a3 a4 a5 a6 a7 b0 : Option Value} {x : Nat} {t : List (Option Value)} (C : JC G X rm cc own nL) (d : decode cc pc = .ok (.astore 8, 2)) (hc : jc1 a7 = true) (kk : JW G X k n w (pc + 2) (a0 :: a1 :: a2 :: a3 :: a4 :: a5 :: a6 :: a7 :: some (.ref x) :: t) (rest)) : JW G X k n w (pc) (a0 :: a1 :: a2 :: a3 :: a4 :: a5 :: a6 :: a7 :: b0 :: t) (.ref x :: rest) := by
  obtain ⟨p, l, e, R, s, m, args, below, meth, c, Q, A⟩ := X
  obtain ⟨hx, hb, hml, hown, hts, hnw, hK, hlk, hA, hR⟩ := C
  intro H locs ls hP hD hS hl
  refine lv_astore hx hb d hl (by simp only [List.length_cons]; omega) rfl (fun ls2 h2 => ?_)
  exact kk H locs ls2 hP hD hS (by have h3 := jl_store1 (L := a0 :: a1 :: a2 :: a3 :: a4 :: a5 :: a6 :: a7 :: b0 :: t) (v := .ref x) (by simp only [List.length_cons]; omega) (fun a _ h => by cases h; exact hc) h2; exact h3)
theorem jw_astore_9 {a0 a1 a2 a3 a4 a5 a6 a7 a8 b0 : Option Value} {x : Nat} {t : List (Option Value)} (C : JC G X rm cc own nL) (d : decode cc pc = .ok (.astore 9, 2)) (hc : jc1 a8 = true) (kk : JW G X k n w (pc + 2) (a0 :: a1 :: a2 :: a3 :: a4 :: a5 :: a6 :: a7 :: a8 :: some (.ref x) :: t) (rest)) : JW G X k n w (pc) (a0 :: a1 :: a2 :: a3 :: a4 :: a5 :: a6 :: a7 :: a8 :: b0 :: t) (.ref x :: rest) := by
  obtain ⟨p, l, e, R, s, m, args, below, meth, c, Q, A⟩ := X
  obtain ⟨hx, hb, hml, hown, hts, hnw, hK, hlk, hA, hR⟩ := C
  intro H locs ls hP hD hS hl
  refine lv_astore hx hb d hl (by simp only [List.length_cons]; omega) rfl (fun ls2 h2 => ?_)
  exact kk H locs ls2 hP hD hS (by have h3 := jl_store1 (L := a0 :: a1 :: a2 :: a3 :: a4 :: a5 :: a6 :: a7 :: a8 :: b0 :: t) (v := .ref x) (by simp only [List.length_cons]; omega) (fun a _ h => by cases h; exact hc) h2; exact h3)
theorem jw_astore_10 {a0 a1 a2 a3 a4 a5 a6 a7 a8 a9 b0 : Option Value} {x : Nat} {t : List (Option Value)} (C : JC G X rm cc own nL) (d : decode cc pc = .ok (.astore 10, 2)) (hc : jc1 a9 = true) (kk : JW G X k n w (pc + 2) (a0 :: a1 :: a2 :: a3 :: a4 :: a5 :: a6 :: a7 :: a8 :: a9 :: some (.ref x) :: t) (rest)) : JW G X k n w (pc) (a0 :: a1 :: a2 :: a3 :: a4 :: a5 :: a6 :: a7 :: a8 :: a9 :: b0 :: t) (.ref x :: rest) := by
  obtain ⟨p, l, e, R, s, m, args, below, meth, c, Q, A⟩ := X
  obtain ⟨hx, hb, hml, hown, hts, hnw, hK, hlk, hA, hR⟩ := C
  intro H locs ls hP hD hS hl
  refine lv_astore hx hb d hl (by simp only [List.length_cons]; omega) rfl (fun ls2 h2 => ?_)
  exact kk H locs ls2 hP hD hS (by have h3 := jl_store1 (L := a0 :: a1 :: a2 :: a3 :: a4 :: a5 :: a6 :: a7 :: a8 :: a9 :: b0 :: t) (v := .ref x) (by simp only [List.length_cons]; omega) (fun a _ h => by cases h; exact hc) h2; exact h3)
theorem jw_astore_11 {a0 a1 a2 a3 a4 a5 a6 a7 a8 a9 a10 b0 : Option Value} {x : Nat} {t : List (Option Value)} (C : JC G X rm cc own nL) (d : decode cc pc = .ok (.astore 11, 2)) (hc : jc1 a10 = true) (kk : JW G X k n w (pc + 2) (a0 :: a1 :: a2 :: a3 :: a4 :: a5 :: a6 :: a7 :: a8 :: a9 :: a10 :: some (.ref x) :: t) (rest)) : JW G X k n w (pc) (a0 :: a1 :: a2 :: a3 :: a4 :: a5 :: a6 :: a7 :: a8 :: a9 :: a10 :: b0 :: t) (.ref x :: rest) := by
  obtain ⟨p, l, e, R, s, m, args, below, meth, c, Q, A⟩ := X
  obtain ⟨hx, hb, hml, hown, hts, hnw, hK, hlk, hA, hR⟩ := C
  intro H locs ls hP hD hS hl
  refine lv_astore hx hb d hl (by simp only [List.length_cons]; omega) rfl (fun ls2 h2 => ?_)
  exact kk H locs ls2 hP hD hS (by have h3 := jl_store1 (L := a0 :: a1 :: a2 :: a3 :: a4 :: a5 :: a6 :: a7 :: a8 :: a9 :: a10 :: b0 :: t) (v := .ref x) (by simp only [List.length_cons]; omega) (fun a _ h => by cases h; exact hc) h2; exact h3)
theorem jw_astore_12 {a0 a1 a2 a3 a4 a5 a6 a7 a8 a9 a10 a11 b0 : Option Value} {x : Nat} {t : List (Option Value)} (C : JC G X rm cc own nL) (d : decode cc pc = .ok (.astore 12, 2)) (hc : jc1 a11 = true) (kk : JW G X k n w (pc + 2) (a0 :: a1 :: a2 :: a3 :: a4 :: a5 :: a6 :: a7 :: a8 :: a9 :: a10 :: a11 :: some (.ref x) :: t) (rest)) : JW G X k n w (pc) (a0 :: a1 :: a2 :: a3 :: a4 :: a5 :: a6 :: a7 :: a8 :: a9 :: a10 :: a11 :: b0 :: t) (.ref x :: rest) := by
  obtain ⟨p, l, e, R, s, m, args, below, meth, c, Q, A⟩ := X
  obtain ⟨hx, hb, hml, hown, hts, hnw, hK, hlk, hA, hR⟩ := C
  intro H locs ls hP hD hS hl
  refine lv_astore hx hb d hl (by simp only [List.length_cons]; omega) rfl (fun ls2 h2 => ?_)
  exact kk H locs ls2 hP hD hS (by have h3 := jl_store1 (L := a0 :: a1 :: a2 :: a3 :: a4 :: a5 :: a6 :: a7 :: a8 :: a9 :: a10 :: a11 :: b0 :: t) (v := .ref x) (by simp only [List.length_cons]; omega) (fun a _ h => by cases h; exact hc) h2; exact h3)
theorem jw_astore_13 {a0 a1 a2 a3 a4 a5 a6 a7 a8 a9 a10 a11 a12 b0 : Option Value} {x : Nat} {t : List (Option Value)} (C : JC G X rm cc own nL) (d : decode cc pc = .ok (.astore 13, 2)) (hc : jc1 a12 = true) (kk : JW G X k n w (pc + 2) (a0 :: a1 :: a2 :: a3 :: a4 :: a5 :: a6 :: a7 :: a8 :: a9 :: a10 :: a11 :: a12 :: some (.ref x) :: t) (rest)) : JW G X k n w (pc) (a0 :: a1 :: a2 :: a3 :: a4 :: a5 :: a6 :: a7 :: a8 :: a9 :: a10 :: a11 :: a12 :: b0 :: t) (.ref x :: rest) := by
  obtain ⟨p, l, e, R, s, m, args, below, meth, c, Q, A⟩ := X
  obtain ⟨hx, hb, hml, hown, hts, hnw, hK, hlk, hA, hR⟩ := C
  intro H locs ls hP hD hS hl
  refine lv_astore hx hb d hl (by simp only [List.length_cons]; omega) rfl (fun ls2 h2 => ?_)
  exact kk H locs ls2 hP hD hS (by have h3 := jl_store1 (L := a0 :: a1 :: a2 :: a3 :: a4 :: a5 :: a6 :: a7 :: a8 :: a9 :: a10 :: a11 :: a12 :: b0 :: t) (v := .ref x) (by simp only [List.length_cons]; omega) (fun a _ h => by cases h; exact hc) h2; exact h3)
theorem jw_astore_14 {a0 a1 a2 a3 a4 a5 a6 a7 a8 a9 a10 a11 a12 a13 b0 : Option Value} {x : Nat} {t : List (Option Value)} (C : JC G X rm cc own nL) (d : decode cc pc = .ok (.astore 14, 2)) (hc : jc1 a13 = true) (kk : JW G X k n w (pc + 2) (a0 :: a1 :: a2 :: a3 :: a4 :: a5 :: a6 :: a7 :: a8 :: a9 :: a10 :: a11 :: a12 :: a13 :: some (.ref x) :: t) (rest)) : JW G X k n w (pc) (a0 :: a1 :: a2 :: a3 :: a4 :: a5 :: a6 :: a7 :: a8 :: a9 :: a10 :: a11 :: a12 :: a13 :: b0 :: t) (.ref x :: rest) := by
  obtain ⟨p, l, e, R, s, m, args, below, meth, c, Q, A⟩ := X
  obtain ⟨hx, hb, hml, hown, hts, hnw, hK, hlk, hA, hR⟩ := C
  intro H locs ls hP hD hS hl
  refine lv_astore hx hb d hl (by simp only [List.length_cons]; omega) rfl (fun ls2 h2 => ?_)
  exact kk H locs ls2 hP hD hS (by have h3 := jl_store1 (L := a0 :: a1 :: a2 :: a3 :: a4 :: a5 :: a6 :: a7 :: a8 :: a9 :: a10 :: a11 :: a12 :: a13 :: b0 :: t) (v := .ref x) (by simp only [List.length_cons]; omega) (fun a _ h => by cases h; exact hc) h2; exact h3)
theorem jw_astore_15 {a0 a1 a2 a3 a4 a5 a6 a7 a8 a9 a10 a11 a12 a13 a14 b0 : Option Value} {x : Nat} {t : List (Option Value)} (C : JC G X rm cc own nL) (d : decode cc pc = .ok (.astore 15, 2)) (hc : jc1 a14 = true) (kk : JW G X k n w (pc + 2) (a0 :: a1 :: a2 :: a3 :: a4 :: a5 :: a6 :: a7 :: a8 :: a9 :: a10 :: a11 :: a12 :: a13 :: a14 :: some (.ref x) :: t) (rest)) : JW G X k n w (pc) (a0 :: a1 :: a2 :: a3 :: a4 :: a5 :: a6 :: a7 :: a8 :: a9 :: a10 :: a11 :: a12 :: a13 :: a14 :: b0 :: t) (.ref x :: rest) := by
  obtain ⟨p, l, e, R, s, m, args, below, meth, c, Q, A⟩ := X
  obtain ⟨hx, hb, hml, hown, hts, hnw, hK, hlk, hA, hR⟩ := C
  intro H locs ls hP hD hS hl
  refine lv_astore hx hb d hl (by simp only [List.length_cons]; omega) rfl (fun ls2 h2 => ?_)
  exact kk H locs ls2 hP hD hS (by have h3 := jl_store1 (L := a0 :: a1 :: a2 :: a3 :: a4 :: a5 :: a6 :: a7 :: a8 :: a9 :: a10 :: a11 :: a12 :: a13 :: a14 :: b0 :: t) (v := .ref x) (by simp only [List.length_cons]; omega) (fun a _ h => by cases h; exact hc) h2; exact h3)
theorem jw_astore_16 {a0 a1 a2 a3 a4 a5 a6 a7 a8 a9 a10 a11 a12 a13 a14 a15 b0 : Option Value} {x : Nat} {t : List (Option Value)} (C : JC G X rm cc own nL) (d : decode cc pc = .ok (.astore 16, 2)) (hc : jc1 a15 = true) (kk : JW G X k n w (pc + 2) (a0 :: a1 :: a2 :: a3 :: a4 :: a5 :: a6 :: a7 :: a8 :: a9 :: a10 :: a11 :: a12 :: a13 :: a14 :: a15 :: some (.ref x) :: t) (rest)) : JW G X k n w (pc) (a0 :: a1 :: a2 :: a3 :: a4 :: a5 :: a6 :: a7 :: a8 :: a9 :: a10 :: a11 :: a12 :: a13 :: a14 :: a15 :: b0 :: t) (.ref x :: rest) := by
  obtain ⟨p, l, e, R, s, m, args, below, meth, c, Q, A⟩ := X
  obtain ⟨hx, hb, hml, hown, hts, hnw, hK, hlk, hA, hR⟩ := C
  intro H locs ls hP hD hS hl
  refine lv_astore hx hb d hl (by simp only [List.length_cons]; omega) rfl (fun ls2 h2 => ?_)
  exact kk H locs ls2 hP hD hS (by have h3 := jl_store1 (L := a0 :: a1 :: a2 :: a3 :: a4 :: a5 :: a6 :: a7 :: a8 :: a9 :: a10 :: a11 :: a12 :: a13 :: a14 :: a15 :: b0 :: t) (v := .ref x) (by simp only [List.length_cons]; omega) (fun a _ h => by cases h; exact hc) h2; exact h3)
theorem jw_astore_17 {a0 a1 a2 a3 a4 a5 a6 a7 a8 a9 a10 a11 a12 a13 a14 a15 a16 b0 : Option Value} {x : Nat} {t : List (Option Value)} (C : JC G X rm cc own nL) (d : decode cc pc = .ok (.astore 17, 2)) (hc : jc1 a16 = true) (kk : JW G X k n w (pc + 2) (a0 :: a1 :: a2 :: a3 :: a4 :: a5 :: a6 :: a7 :: a8 :: a9 :: a10 :: a11 :: a12 :: a13 :: a14 :: a15 :: a16 :: some (.ref x) :: t) (rest)) : JW G X k n w (pc) (a0 :: a1 :: a2 :: a3 :: a4 :: a5 :: a6 :: a7 :: a8 :: a9 :: a10 :: a11 :: a12 :: a13 :: a14 :: a15 :: a16 :: b0 :: t) (.ref x :: rest) := by
  obtain ⟨p, l, e, R, s, m, args, below, meth, c, Q, A⟩ := X
  obtain ⟨hx, hb, hml, hown, hts, hnw, hK, hlk, hA, hR⟩ := C
  intro H locs ls hP hD hS hl
  refine lv_astore hx hb d hl (by simp only [List.length_cons]; omega) rfl (fun ls2 h2 => ?_)
  exact kk H locs ls2 hP hD hS (by have h3 := jl_store1 (L := a0 :: a1 :: a2 :: a3 :: a4 :: a5 :: a6 :: a7 :: a8 :: a9 :: a10 :: a11 :: a12 :: a13 :: a14 :: a15 :: a16 :: b0 :: t) (v := .ref x) (by simp only [List.length_cons]; omega) (fun a _ h => by cases h; exact hc) h2; exact h3)
theorem jw_astore_18 {a0 a1 a2 a3 a4 a5 a6 a7 a8 a9 a10 a11 a12 a13 a14 a15 a16 a17 b0 : Option Value} {x : Nat} {t : List (Option Value)} (C : JC G X rm cc own nL) (d : decode cc pc = .ok (.astore 18, 2)) (hc : jc1 a17 = true) (kk : JW G X k n w (pc + 2) (a0 :: a1 :: a2 :: a3 :: a4 :: a5 :: a6 :: a7 :: a8 :: a9 :: a10 :: a11 :: a12 :: a13 :: a14 :: a15 :: a16 :: a17 :: some (.ref x) :: t) (rest)) : JW G X k n w (pc) (a0 :: a1 :: a2 :: a3 :: a4 :: a5 :: a6 :: a7 :: a8 :: a9 :: a10 :: a11 :: a12 :: a13 :: a14 :: a15 :: a16 :: a17 :: b0 :: t) (.ref x :: rest) := by
  obtain ⟨p, l, e, R, s, m, args, below, meth, c, Q, A⟩ := X
  obtain ⟨hx, hb, hml, hown, hts, hnw, hK, hlk, hA, hR⟩ := C
  intro H locs ls hP hD hS hl
  refine lv_astore hx hb d hl (by simp only [List.length_cons]; omega) rfl (fun ls2 h2 => ?_)
  exact kk H locs ls2 hP hD hS (by have h3 := jl_store1 (L := a0 :: a1 :: a2 :: a3 :: a4 :: a5 :: a6 :: a7 :: a8 :: a9 :: a10 :: a11 :: a12 :: a13 :: a14 :: a15 :: a16 :: a17 :: b0 :: t) (v := .ref x) (by simp only [List.length_cons]; omega) (fun a _ h => by cases h; exact hc) h2; exact h3)
theorem jw_astore_19 {a0 a1 a2 a3 a4 a5 a6 a7 a8 a9 a10 a11 a12 a13 a14 a15 a16 a17 a18 b0 : Option Value} {x : Nat} {t : List (Option Value)} (C : JC G X rm cc own nL) (d : decode cc pc = .ok (.astore 19, 2)) (hc : jc1 a18 = true) (kk : JW G X k n w (pc + 2) (a0 :: a1 :: a2 :: a3 :: a4 :: a5 :: a6 :: a7 :: a8 :: a9 :: a10 :: a11 :: a12 :: a13 :: a14 :: a15 :: a16 :: a17 :: a18 :: some (.ref x) :: t) (rest)) : JW G X k n w (pc) (a0 :: a1 :: a2 :: a3 :: a4 :: a5 :: a6 :: a7 :: a8 :: a9 :: a10 :: a11 :: a12 :: a13 :: a14 :: a15 :: a16 :: a17 :: a18 :: b0 :: t) (.ref x :: rest) := by
  obtain ⟨p, l, e, R, s, m, args, below, meth, c, Q, A⟩ := X
  obtain ⟨hx, hb, hml, hown, hts, hnw, hK, hlk, hA, hR⟩ := C
  intro H locs ls hP hD hS hl
  refine lv_astore hx hb d hl (by simp only [List.length_cons]; omega) rfl (fun ls2 h2 => ?_)
  exact kk H locs ls2 hP hD hS (by have h3 := jl_store1 (L := a0 :: a1 :: a2 :: a3 :: a4 :: a5 :: a6 :: a7 :: a8 :: a9 :: a10 :: a11 :: a12 :: a13 :: a14 :: a15 :: a16 :: a17 :: a18 :: b0 :: t) (v := .ref x) (by simp only [List.length_cons]; omega) (fun a _ h => by cases h; exact hc) h2; exact h3)
theorem jw_astore_20 {a0 a1 a2 a3 a4 a5 a6 a7 a8 a9 a10 a11 a12 a13 a14 a15 a16 a17 a18 a19 b0 : Option Value} {x : Nat} {t : List (Option Value)} (C : JC G X rm cc own nL) (d : decode cc pc = .ok (.astore 20, 2)) (hc : jc1 a19 = true) (kk : JW G X k n w (pc + 2) (a0 :: a1 :: a2 :: a3 :: a4 :: a5 :: a6 :: a7 :: a8 :: a9 :: a10 :: a11 :: a12 :: a13 :: a14 :: a15 :: a16 :: a17 :: a18 :: a19 :: some (.ref x) :: t) (rest)) : JW G X k n w (pc) (a0 :: a1 :: a2 :: a3 :: a4 :: a5 :: a6 :: a7 :: a8 :: a9 :: a10 :: a11 :: a12 :: a13 :: a14 :: a15 :: a16 :: a17 :: a18 :: a19 :: b0 :: t) (.ref x :: rest) := by
  obtain ⟨p, l, e, R, s, m, args, below, meth, c, Q, A⟩ := X
  obtain ⟨hx, hb, hml, hown, hts, hnw, hK, hlk, hA, hR⟩ := C
  intro H locs ls hP hD hS hl
  refine lv_astore hx hb d hl (by simp only [List.length_cons]; omega) rfl (fun ls2 h2 => ?_)
  exact kk H locs ls2 hP hD hS (by have h3 := jl_store1 (L := a0 :: a1 :: a2 :: a3 :: a4 :: a5 :: a6 :: a7 :: a8 :: a9 :: a10 :: a11 :: a12 :: a13 :: a14 :: a15 :: a16 :: a17 :: a18 :: a19 :: b0 :: t) (v := .ref x) (by simp only [List.length_cons]; omega) (fun a _ h => by cases h; exact hc) h2; exact h3)
theorem jw_astore_21 {a0 a1 a2 a3 a4 a5 a6 a7 a8 a9 a10 a11 a12 a13 a14 a15 a16 a17 a18 a19 a20 b0 : Option Value} {x : Nat} {t : List (Option Value)} (C : JC G X rm cc own nL) (d : decode cc pc = .ok (.astore 21, 2)) (hc : jc1 a20 = true) (kk : JW G X k n w (pc + 2) (a0 :: a1 :: a2 :: a3 :: a4 :: a5 :: a6 :: a7 :: a8 :: a9 :: a10 :: a11 :: a12 :: a13 :: a14 :: a15 :: a16 :: a17 :: a18 :: a19 :: a20 :: some (.ref x) :: t) (rest)) : JW G X k n w (pc) (a0 :: a1 :: a2 :: a3 :: a4 :: a5 :: a6 :: a7 :: a8 :: a9 :: a10 :: a11 :: a12 :: a13 :: a14 :: a15 :: a16 :: a17 :: a18 :: a19 :: a20 :: b0 :: t) (.ref x :: rest) := by
  obtain ⟨p, l, e, R, s, m, args, below, meth, c, Q, A⟩ := X
  obtain ⟨hx, hb, hml, hown, hts, hnw, hK, hlk, hA, hR⟩ := C
  intro H locs ls hP hD hS hl
  refine lv_astore hx hb d hl (by simp only [List.length_cons]; omega) rfl (fun ls2 h2 => ?_)
  exact kk H locs ls2 hP hD hS (by have h3 := jl_store1 (L := a0 :: a1 :: a2 :: a3 :: a4 :: a5 :: a6 :: a7 :: a8 :: a9 :: a10 :: a11 :: a12 :: a13 :: a14 :: a15 :: a16 :: a17 :: a18 :: a19 :: a20 :: b0 :: t) (v := .ref x) (by simp only [List.length_cons]; omega) (fun a _ h => by cases h; exact hc) h2; exact h3)
theorem jw_astore_22 {a0 a1 a2 a3 a4 a5 a6 a7 a8 a9 a10 a11 a12 a13 a14 a15 a16 a17 a18 a19 a20 a21 b0 : Option Value} {x : Nat} {t : List (Option Value)} (C : JC G X rm cc own nL) (d : decode cc pc = .ok (.astore 22, 2)) (hc : jc1 a21 = true) (kk : JW G X k n w (pc + 2) (a0 :: a1 :: a2 :: a3 :: a4 :: a5 :: a6 :: a7 :: a8 :: a9 :: a10 :: a11 :: a12 :: a13 :: a14 :: a15 :: a16 :: a17 :: a18 :: a19 :: a20 :: a21 :: some (.ref x) :: t) (rest)) : JW G X k n w (pc) (a0 :: a1 :: a2 :: a3 :: a4 :: a5 :: a6 :: a7 :: a8 :: a9 :: a10 :: a11 :: a12 :: a13 :: a14 :: a15 :: a16 :: a17 :: a18 :: a19 :: a20 :: a21 :: b0 :: t) (.ref x :: rest) := by
  obtain ⟨p, l, e, R, s, m, args, below, meth, c, Q, A⟩ := X
  obtain ⟨hx, hb, hml, hown, hts, hnw, hK, hlk, hA, hR⟩ := C
  intro H locs ls hP hD hS hl
  refine lv_astore hx hb d hl (by simp only [List.length_cons]; omega) rfl (fun ls2 h2 => ?_)
  exact kk H locs ls2 hP hD hS (by have h3 := jl_store1 (L := a0 :: a1 :: a2 :: a3 :: a4 :: a5 :: a6 :: a7 :: a8 :: a9 :: a10 :: a11 :: a12 :: a13 :: a14 :: a15 :: a16 :: a17 :: a18 :: a19 :: a20 :: a21 :: b0 :: t) (v := .ref x) (by simp only [List.length_cons]; omega) (fun a _ h => by cases h; exact hc) h2; exact h3)
theorem jw_astore_23 {a0 a1 a2 a3 a4 a5 a6 a7 a8 a9 a10 a11 a12 a13 a14 a15 a16 a17 a18 a19 a20 a21 a22 b0 : Option Value} {x : Nat} {t : List (Option Value)} (C : JC G X rm cc own nL) (d : decode cc pc = .ok (.astore 23, 2)) (hc : jc1 a22 = true) (kk : JW G X k n w (pc + 2) (a0 :: a1 :: a2 :: a3 :: a4 :: a5 :: a6 :: a7 :: a8 :: a9 :: a10 :: a11 :: a12 :: a13 :: a14 :: a15 :: a16 :: a17 :: a18 :: a19 :: a20 :: a21 :: a22 :: some (.ref x) :: t) (rest)) : JW G X k n w (pc) (a0 :: a1 :: a2 :: a3 :: a4 :: a5 :: a6 :: a7 :: a8 :: a9 :: a10 :: a11 :: a12 :: a13 :: a14 :: a15 :: a16 :: a17 :: a18 :: a19 :: a20 :: a21 :: a22 :: b0 :: t) (.ref x :: rest) := by
  obtain ⟨p, l, e, R, s, m, args, below, meth, c, Q, A⟩ := X
  obtain ⟨hx, hb, hml, hown, hts, hnw, hK, hlk, hA, hR⟩ := C
  intro H locs ls hP hD hS hl
  refine lv_astore hx hb d hl (by simp only [List.length_cons]; omega) rfl (fun ls2 h2 => ?_)
  exact kk H locs ls2 hP hD hS (by have h3 := jl_store1 (L := a0 :: a1 :: a2 :: a3 :: a4 :: a5 :: a6 :: a7 :: a8 :: a9 :: a10 :: a11 :: a12 :: a13 :: a14 :: a15 :: a16 :: a17 :: a18 :: a19 :: a20 :: a21 :: a22 :: b0 :: t) (v := .ref x) (by simp only [List.length_cons]; omega) (fun a _ h => by cases h; exact hc) h2; exact h3)
theorem jw_astore_24 {a0 a1 a2 a3 a4 a5 a6 a7 a8 a9 a10 a11 a12 a13 a14 a15 a16 a17 a18 a19 a20 a21 a22 a23 b0 : Option Value} {x : Nat} {t : List (Option Value)} (C : JC G X rm cc own nL) (d : decode cc pc = .ok (.astore 24, 2)) (hc : jc1 a23 = true) (kk : JW G X k n w (pc + 2) (a0 :: a1 :: a2 :: a3 :: a4 :: a5 :: a6 :: a7 :: a8 :: a9 :: a10 :: a11 :: a12 :: a13 :: a14 :: a15 :: a16 :: a17 :: a18 :: a19 :: a20 :: a21 :: a22 :: a23 :: some (.ref x) :: t) (rest)) : JW G X k n w (pc) (a0 :: a1 :: a2 :: a3 :: a4 :: a5 :: a6 :: a7 :: a8 :: a9 :: a10 :: a11 :: a12 :: a13 :: a14 :: a15 :: a16 :: a17 :: a18 :: a19 :: a20 :: a21 :: a22 :: a23 :: b0 :: t) (.ref x :: rest) := by
  obtain ⟨p, l, e, R, s, m, args, below, meth, c, Q, A⟩ := X
  obtain ⟨hx, hb, hml, hown, hts, hnw, hK, hlk, hA, hR⟩ := C
  intro H locs ls hP hD hS hl
  refine lv_astore hx hb d hl (by simp only [List.length_cons]; omega) rfl (fun ls2 h2 => ?_)
  exact kk H locs ls2 hP hD hS (by have h3 := jl_store1 (L := a0 :: a1 :: a2 :: a3 :: a4 :: a5 :: a6 :: a7 :: a8 :: a9 :: a10 :: a11 :: a12 :: a13 :: a14 :: a15 :: a16 :: a17 :: a18 :: a19 :: a20 :: a21 :: a22 :: a23 :: b0 :: t) (v := .ref x) (by simp only [List.length_cons]; omega) (fun a _ h => by cases h; exact hc) h2; exact h3)
theorem jw_astore_25 {a0 a1 a2 a3 a4 a5 a6 a7 a8 a9 a10 a11 a12 a13 a14 a15 a16 a17 a18 a19 a20 a21 a22 a23 a24 b0 : Option Value} {x : Nat} {t : List (Option Value)} (C : JC G X rm cc own nL) (d : decode cc pc = .ok (.astore 25, 2)) (hc : jc1 a24 = true) (kk : JW G X k n w (pc + 2) (a0 :: a1 :: a2 :: a3 :: a4 :: a5 :: a6 :: a7 :: a8 :: a9 :: a10 :: a11 :: a12 :: a13 :: a14 :: a15 :: a16 :: a17 :: a18 :: a19 :: a20 :: a21 :: a22 :: a23 :: a24 :: some (.ref x) :: t) (rest)) : JW G X k n w (pc) (a0 :: a1 :: a2 :: a3 :: a4 :: a5 :: a6 :: a7 :: a8 :: a9 :: a10 :: a11 :: a12 :: a13 :: a14 :: a15 :: a16 :: a17 :: a18 :: a19 :: a20 :: a21 :: a22 :: a23 :: a24 :: b0 :: t) (.ref x :: rest) := by
  obtain ⟨p, l, e, R, s, m, args, below, meth, c, Q, A⟩ := X
  obtain ⟨hx, hb, hml, hown, hts, hnw, hK, hlk, hA, hR⟩ := C
  intro H locs ls hP hD hS hl
  refine lv_astore hx hb d hl (by simp only [List.length_cons]; omega) rfl (fun ls2 h2 => ?_)
  exact kk H locs ls2 hP hD hS (by have h3 := jl_store1 (L := a0 :: a1 :: a2 :: a3 :: a4 :: a5 :: a6 :: a7 :: a8 :: a9 :: a10 :: a11 :: a12 :: a13 :: a14 :: a15 :: a16 :: a17 :: a18 :: a19 :: a20 :: a21 :: a22 :: a23 :: a24 :: b0 :: t) (v := .ref x) (by simp only [List.length_cons]; omega) (fun a _ h => by cases h; exact hc) h2; exact h3)
theorem jw_astore_26 {a0 a1 a2 a3 a4 a5 a6 a7 a8 a9 a10 a11 a12 a13 a14 a15 a16 a17 a18 a19 a20 a21 a22 a23 a24 a25 b0 : Option Value} {x : Nat} {t : List (Option Value)} (C : JC G X rm cc own nL) (d : decode cc pc = .ok (.astore 26, 2)) (hc : jc1 a25 = true) (kk : JW G X k n w (pc + 2) (a0 :: a1 :: a2 :: a3 :: a4 :: a5 :: a6 :: a7 :: a8 :: a9 :: a10 :: a11 :: a12 :: a13 :: a14 :: a15 :: a16 :: a17 :: a18 :: a19 :: a20 :: a21 :: a22 :: a23 :: a24 :: a25 :: some (.ref x) :: t) (rest)) : JW G X k n w (pc) (a0 :: a1 :: a2 :: a3 :: a4 :: a5 :: a6 :: a7 :: a8 :: a9 :: a10 :: a11 :: a12 :: a13 :: a14 :: a15 :: a16 :: a17 :: a18 :: a19 :: a20 :: a21 :: a22 :: a23 :: a24 :: a25 :: b0 :: t) (.ref x :: rest) := by
  obtain ⟨p, l, e, R, s, m, args, below, meth, c, Q, A⟩ := X
  obtain ⟨hx, hb, hml, hown, hts, hnw, hK, hlk, hA, hR⟩ := C
  intro H locs ls hP hD hS hl
  refine lv_astore hx hb d hl (by simp only [List.length_cons]; omega) rfl (fun ls2 h2 => ?_)
  exact kk H locs ls2 hP hD hS (by have h3 := jl_store1 (L := a0 :: a1 :: a2 :: a3 :: a4 :: a5 :: a6 :: a7 :: a8 :: a9 :: a10 :: a11 :: a12 :: a13 :: a14 :: a15 :: a16 :: a17 :: a18 :: a19 :: a20 :: a21 :: a22 :: a23 :: a24 :: a25 :: b0 :: t) (v := .ref x) (by simp only [List.length_cons]; omega) (fun a _ h => by cases h; exact hc) h2; exact h3)
theorem jw_astore_27 {a0 a1 a2 a3 a4 a5 a6 a7 a8 a9 a10 a11 a12 a13 a14 a15 a16 a17 a18 a19 a20 a21 a22 a23 a24 a25 a26 b0 : Option Value} {x : Nat} {t : List (Option Value)} (C : JC G X rm cc own nL) (d : decode cc pc = .ok (.astore 27, 2)) (hc : jc1 a26 = true) (kk : JW G X k n w (pc + 2) (a0 :: a1 :: a2 :: a3 :: a4 :: a5 :: a6 :: a7 :: a8 :: a9 :: a10 :: a11 :: a12 :: a13 :: a14 :: a15 :: a16 :: a17 :: a18 :: a19 :: a20 :: a21 :: a22 :: a23 :: a24 :: a25 :: a26 :: some (.ref x) :: t) (rest)) : JW G X k n w (pc) (a0 :: a1 :: a2 :: a3 :: a4 :: a5 :: a6 :: a7 :: a8 :: a9 :: a10 :: a11 :: a12 :: a13 :: a14 :: a15 :: a16 :: a17 :: a18 :: a19 :: a20 :: a21 :: a22 :: a23 :: a24 :: a25 :: a26 :: b0 :: t) (.ref x :: rest) := by
  obtain ⟨p, l, e, R, s, m, args, below, meth, c, Q, A⟩ := X
  obtain ⟨hx, hb, hml, hown, hts, hnw, hK, hlk, hA, hR⟩ := C
  intro H locs ls hP hD hS hl
  refine lv_astore hx hb d hl (by simp only [List.length_cons]; omega) rfl (fun ls2 h2 => ?_)
  exact kk H locs ls2 hP hD hS (by have h3 := jl_store1 (L := a0 :: a1 :: a2 :: a3 :: a4 :: a5 :: a6 :: a7 :: a8 :: a9 :: a10 :: a11 :: a12 :: a13 :: a14 :: a15 :: a16 :: a17 :: a18 :: a19 :: a20 :: a21 :: a22 :: a23 :: a24 :: a25 :: a26 :: b0 :: t) (v := .ref x) (by simp only [List.length_cons]; omega) (fun a _ h => by cases h; exact hc) h2; exact h3)
theorem jw_iinc_0 {a z : Int} {t : List (Option Value)} (C : JC G X rm cc own nL) (d : decode cc pc = .ok (.iinc 0 z, 3)) (kk : JW G X k n w (pc + 3) (some (.int (iI (a + z))) :: t) (rest)) : JW G X k n w (pc) (some (.int (iI a)) :: t) (rest) := by
  obtain ⟨p, l, e, R, s, m, args, below, meth, c, Q, A⟩ := X
  obtain ⟨hx, hb, hml, hown, hts, hnw, hK, hlk, hA, hR⟩ := C
  intro H locs ls hP hD hS hl
  obtain ⟨j, hj⟩ := List.getElem?_of_mem ((jl0_mem (some (.int (iI a)) :: t) 0 (0, Value.int (iI a))).mpr ⟨0, rfl, by omega⟩)
  refine lv_iinc (v := iI (a + z)) hx hb d hl (k := j) hj (by rw [← iI_add]; rfl) (by simp only [List.length_cons]; omega) rfl (fun ls2 h2 => ?_)
  exact kk H locs ls2 hP hD hS (by have h3 := jl_store1 (L := some (.int (iI a)) :: t) (v := .int (iI (a + z))) (by simp only [List.length_cons]; omega) (fun a h _ => absurd h (Nat.lt_irrefl 0)) h2; exact h3)
theorem jw_iinc_1 {a0 : Option Value} {a z : Int} {t : List (Option Value)} (C : JC G X rm cc own nL) (d : decode cc pc = .ok (.iinc 1 z, 3)) (hc : jc1 a0 = true) (kk : JW G X k n w (pc + 3) (a0 :: some (.int (iI (a + z))) :: t) (rest)) : JW G X k n w (pc) (a0 :: some (.int (iI a)) :: t) (rest) := by
  obtain ⟨p, l, e, R, s, m, args, below, meth, c, Q, A⟩ := X
  obtain ⟨hx, hb, hml, hown, hts, hnw, hK, hlk, hA, hR⟩ := C
  intro H locs ls hP hD hS hl
  obtain ⟨j, hj⟩ := List.getElem?_of_mem ((jl0_mem (a0 :: some (.int (iI a)) :: t) 0 (1, Value.int (iI a))).mpr ⟨1, rfl, by omega⟩)
  refine lv_iinc (v := iI (a + z)) hx hb d hl (k := j) hj (by rw [← iI_add]; rfl) (by simp only [List.length_cons]; omega) rfl (fun ls2 h2 => ?_)
  exact kk H locs ls2 hP hD hS (by have h3 := jl_store1 (L := a0 :: some (.int (iI a)) :: t) (v := .int (iI (a + z))) (by simp only [List.length_cons]; omega) (fun a _ h => by cases h; exact hc) h2; exact h3)
theorem jw_iinc_2 {a0 a1 : Option Value} {a z : Int} {t : List (Option Value)} (C : JC G X rm cc own nL) (d : decode cc pc = .ok (.iinc 2 z, 3)) (hc : jc1 a1 = true) (kk : JW G X k n w (pc + 3) (a0 :: a1 :: some (.int (iI (a + z))) :: t) (rest)) : JW G X k n w (pc) (a0 :: a1 :: some (.int (iI a)) :: t) (rest) := by
  obtain ⟨p, l, e, R, s, m, args, below, meth, c, Q, A⟩ := X
  obtain ⟨hx, hb, hml, hown, hts, hnw, hK, hlk, hA, hR⟩ := C
  intro H locs ls hP hD hS hl
  obtain ⟨j, hj⟩ := List.getElem?_of_mem ((jl0_mem (a0 :: a1 :: some (.int (iI a)) :: t) 0 (2, Value.int (iI a))).mpr ⟨2, rfl, by omega⟩)
  refine lv_iinc (v := iI (a + z)) hx hb d hl (k := j) hj (by rw [← iI_add]; rfl) (by simp only [List.length_cons]; omega) rfl (fun ls2 h2 => ?_)
  exact kk H locs ls2 hP hD hS (by have h3 := jl_store1 (L := a0 :: a1 :: some (.int (iI a)) :: t) (v := .int (iI (a + z))) (by simp only [List.length_cons]; omega) (fun a _ h => by cases h; exact hc) h2; exact h3)
theorem jw_iinc_3 {a0 a1 a2 : Option Value} {a z : Int} {t : List (Option Value)} (C : JC G X rm cc own nL) (d : decode cc pc = .ok (.iinc 3 z, 3)) (hc : jc1 a2 = true) (kk : JW G X k n w (pc + 3) (a0 :: a1 :: a2 :: some (.int (iI (a + z))) :: t) (rest)) : JW G X k n w (pc) (a0 :: a1 :: a2 :: some (.int (iI a)) :: t) (rest) := by
  obtain ⟨p, l, e, R, s, m, args, below, meth, c, Q, A⟩ := X
  obtain ⟨hx, hb, hml, hown, hts, hnw, hK, hlk, hA, hR⟩ := C
  intro H locs ls hP hD hS hl
  obtain ⟨j, hj⟩ := List.getElem?_of_mem ((jl0_mem (a0 :: a1 :: a2 :: some (.int (iI a)) :: t) 0 (3, Value.int (iI a))).mpr ⟨3, rfl, by omega⟩)
  refine lv_iinc (v := iI (a + z)) hx hb d hl (k := j) hj (by rw [← iI_add]; rfl) (by simp only [List.length_cons]; omega) rfl (fun ls2 h2 => ?_)
  exact kk H locs ls2 hP hD hS (by have h3 := jl_store1 (L := a0 :: a1 :: a2 :: some (.int (iI a)) :: t) (v := .int (iI (a + z))) (by simp only [List.length_cons]; omega) (fun a _ h => by cases h; exact hc) h2; exact h3)
theorem jw_iinc_4 {a0 a1 a2 a3 : Option Value} {a z : Int} {t : List (Option Value)} (C : JC G X rm cc own nL) (d : decode cc pc = .ok (.iinc 4 z, 3)) (hc : jc1 a3 = true) (kk : JW G X k n w (pc + 3) (a0 :: a1 :: a2 :: a3 :: some (.int (iI (a + z))) :: t) (rest)) : JW G X k n w (pc) (a0 :: a1 :: a2 :: a3 :: some (.int (iI a)) :: t) (rest) := by
  obtain ⟨p, l, e, R, s, m, args, below, meth, c, Q, A⟩ := X
  obtain ⟨hx, hb, hml, hown, hts, hnw, hK, hlk, hA, hR⟩ := C
  intro H locs ls hP hD hS hl
  obtain ⟨j, hj⟩ := List.getElem?_of_mem ((jl0_mem (a0 :: a1 :: a2 :: a3 :: some (.int (iI a)) :: t) 0 (4, Value.int (iI a))).mpr ⟨4, rfl, by omega⟩)
  refine lv_iinc (v := iI (a + z)) hx hb d hl (k := j) hj (by rw [← iI_add]; rfl) (by simp only [List.length_cons]; omega) rfl (fun ls2 h2 => ?_)
  exact kk H locs ls2 hP hD hS (by have h3 := jl_store1 (L := a0 :: a1 :: a2 :: a3 :: some (.int (iI a)) :: t) (v := .int (iI (a + z))) (by simp only [List.length_cons]; omega) (fun a _ h => by cases h; exact hc) h2; exact h3)
theorem jw_iinc_5 {a0 a1 a2 a3 a4 : Option Value} {a z : Int} {t : List (Option Value)} (C : JC G X rm cc own nL) (d : decode cc pc = .ok (.iinc 5 z, 3)) (hc : jc1 a4 = true) (kk : JW G X k n w (pc + 3) (a0 :: a1 :: a2 :: a3 :: a4 :: some (.int (iI (a + z))) :: t) (rest)) : JW G X k n w (pc) (a0 :: a1 :: a2 :: a3 :: a4 :: some (.int (iI a)) :: t) (rest) := by
  obtain ⟨p, l, e, R, s, m, args, below, meth, c, Q, A⟩ := X
  obtain ⟨hx, hb, hml, hown, hts, hnw, hK, hlk, hA, hR⟩ := C
  intro H locs ls hP hD hS hl
  obtain ⟨j, hj⟩ := List.getElem?_of_mem ((jl0_mem (a0 :: a1 :: a2 :: a3 :: a4 :: some (.int (iI a)) :: t) 0 (5, Value.int (iI a))).mpr ⟨5, rfl, by omega⟩)
  refine lv_iinc (v := iI (a + z)) hx hb d hl (k := j) hj (by rw [← iI_add]; rfl) (by simp only [List.length_cons]; omega) rfl (fun ls2 h2 => ?_)
  exact kk H locs ls2 hP hD hS (by have h3 := jl_store1 (L := a0 :: a1 :: a2 :: a3 :: a4 :: some (.int (iI a)) :: t) (v := .int (iI (a + z))) (by simp only [List.length_cons]; omega) (fun a _ h => by cases h; exact hc) h2; exact h3)
theorem jw_iinc_6 {a0 a1 a2 a3 a4 a5 : Option Value} {a z : Int} {t : List (Option Value)} (C : JC G X rm cc own nL) (d : decode cc pc = .ok (.iinc 6 z, 3)) (hc : jc1 a5 = true) (kk : JW G X k n w (pc + 3) (a0 :: a1 :: a2 :: a3 :: a4 :: a5 :: some (.int (iI (a + z))) :: t) (rest)) : JW G X k n w (pc) (a0 :: a1 :: a2 :: a3 :: a4 :: a5 :: some (.int (iI a)) :: t) (rest) := by
  obtain ⟨p, l, e, R, s, m, args, below, meth, c, Q, A⟩ := X
  obtain ⟨hx, hb, hml, hown, hts, hnw, hK, hlk, hA, hR⟩ := C
  intro H locs ls hP hD hS hl
  obtain ⟨j, hj⟩ := List.getElem?_of_mem ((jl0_mem (a0 :: a1 :: a2 :: a3 :: a4 :: a5 :: some (.int (iI a)) :: t) 0 (6, Value.int (iI a))).mpr ⟨6, rfl, by omega⟩)
  refine lv_iinc (v := iI (a + z)) hx hb d hl (k := j) hj (by rw [← iI_add]; rfl) (by simp only [List.length_cons]; omega) rfl (fun ls2 h2 => ?_)
  exact kk H locs ls2 hP hD hS (by have h3 := jl_store1 (L := a0 :: a1 :: a2 :: a3 :: a4 :: a5 :: some (.int (iI a)) :: t) (v := .int (iI (a + z))) (by simp only [List.length_cons]; omega) (fun a _ h => by cases h; exact hc) h2; exact h3)
theorem jw_iinc_7 {a0 a1 a2 a3 a4 a5 a6 : Option Value} {a z : Int} {t : List (Option Value)} (C : JC G X rm cc own nL) (d : decode cc pc = .ok (.iinc 7 z, 3)) (hc : jc1 a6 = true) (kk : JW G X k n w (pc + 3) (a0 :: a1 :: a2 :: a3 :: a4 :: a5 :: a6 :: some (.int (iI (a + z))) :: t) (rest)) : JW G X k n w (pc) (a0 :: a1 :: a2 :: a3 :: a4 :: a5 :: a6 :: some (.int (iI a)) :: t) (rest) := by
  obtain ⟨p, l, e, R, s, m, args, below, meth, c, Q, A⟩ := X
  obtain ⟨hx, hb, hml, hown, hts, hnw, hK, hlk, hA, hR⟩ := C
  intro H locs ls hP hD hS hl
  obtain ⟨j, hj⟩ := List.getElem?_of_mem ((jl0_mem (a0 :: a1 :: a2 :: a3 :: a4 :: a5 :: a6 :: some (.int (iI a)) :: t) 0 (7, Value.int (iI a))).mpr ⟨7, rfl, by omega⟩)
  refine lv_iinc (v := iI (a + z)) hx hb d hl (k := j) hj (by rw [← iI_add]; rfl) (by simp only [List.length_cons]; omega) rfl (fun ls2 h2 => ?_)
  exact kk H locs ls2 hP hD hS (by have h3 := jl_store1 (L := a0 :: a1 :: a2 :: a3 :: a4 :: a5 :: a6 :: some (.int (iI a)) :: t) (v := .int (iI (a + z))) (by simp only [List.length_cons]; omega) (fun a _ h => by cases h; exact hc) h2; exact h3)
theorem jw_iinc_8 {a0 a1 a2 a3 a4 a5 a6 a7 : Option Value} {a z : Int} {t : List (Option Value)} (C : JC G X rm cc own nL) (d : decode cc pc = .ok (.iinc 8 z, 3)) (hc : jc1 a7 = true) (kk : JW G X k n w (pc + 3) (a0 :: a1 :: a2 :: a3 :: a4 :: a5 :: a6 :: a7 :: some (.int (iI (a + z))) :: t) (rest)) : JW G X k n w (pc) (a0 :: a1 :: a2 :: a3 :: a4 :: a5 :: a6 :: a7 :: some (.int (iI a)) :: t) (rest) := by
  obtain ⟨p, l, e, R, s, m, args, below, meth, c, Q, A⟩ := X
  obtain ⟨hx, hb, hml, hown, hts, hnw, hK, hlk, hA, hR⟩ := C
  intro H locs ls hP hD hS hl
  obtain ⟨j, hj⟩ := List.getElem?_of_mem ((jl0_mem (a0 :: a1 :: a2 :: a3 :: a4 :: a5 :: a6 :: a7 :: some (.int (iI a)) :: t) 0 (8, Value.int (iI a))).mpr ⟨8, rfl, by omega⟩)
  refine lv_iinc (v := iI (a + z)) hx hb d hl (k := j) hj (by rw [← iI_add]; rfl) (by simp only [List.length_cons]; omega) rfl (fun ls2 h2 => ?_)
  exact kk H locs ls2 hP hD hS (by have h3 := jl_store1 (L := a0 :: a1 :: a2 :: a3 :: a4 :: a5 :: a6 :: a7 :: some (.int (iI a)) :: t) (v := .int (iI (a + z))) (by simp only [List.length_cons]; omega) (fun a _ h => by cases h; exact hc) h2; exact h3)
theorem jw_iinc_9 {a0 a1 a2 a3 a4 a5 a6 a7 a8 : Option Value} {a z : Int} {t : List (Option Value)} (C : JC G X rm cc own nL) (d : decode cc pc = .ok (.iinc 9 z, 3)) (hc : jc1 a8 = true) (kk : JW G X k n w (pc + 3) (a0 :: a1 :: a2 :: a3 :: a4 :: a5 :: a6 :: a7 :: a8 :: some (.int (iI (a + z))) :: t) (rest)) : JW G X k n w (pc) (a0 :: a1 :: a2 :: a3 :: a4 :: a5 :: a6 :: a7 :: a8 :: some (.int (iI a)) :: t) (rest) := by
  obtain ⟨p, l, e, R, s, m, args, below, meth, c, Q, A⟩ := X
  obtain ⟨hx, hb, hml, hown, hts, hnw, hK, hlk, hA, hR⟩ := C
  intro H locs ls hP hD hS hl
  obtain ⟨j, hj⟩ := List.getElem?_of_mem ((jl0_mem (a0 :: a1 :: a2 :: a3 :: a4 :: a5 :: a6 :: a7 :: a8 :: some (.int (iI a)) :: t) 0 (9, Value.int (iI a))).mpr ⟨9, rfl, by omega⟩)
  refine lv_iinc (v := iI (a + z)) hx hb d hl (k := j) hj (by rw [← iI_add]; rfl) (by simp only [List.length_cons]; omega) rfl (fun ls2 h2 => ?_)
  exact kk H locs ls2 hP hD hS (by have h3 := jl_store1 (L := a0 :: a1 :: a2 :: a3 :: a4 :: a5 :: a6 :: a7 :: a8 :: some (.int (iI a)) :: t) (v := .int (iI (a + z))) (by simp only [List.length_cons]; omega) (fun a _ h => by cases h; exact hc) h2; exact h3)
theorem jw_iinc_10 {a0 a1 a2 a3 a4 a5 a6 a7 a8 a9 : Option Value} {a z : Int} {t : List (Option Value)} (C : JC G X rm cc own nL) (d : decode cc pc = .ok (.iinc 10 z, 3)) (hc : jc1 a9 = true) (kk : JW G X k n w (pc + 3) (a0 :: a1 :: a2 :: a3 :: a4 :: a5 :: a6 :: a7 :: a8 :: a9 :: some (.int (iI (a + z))) :: t) (rest)) : JW G X k n w (pc) (a0 :: a1 :: a2 :: a3 :: a4 :: a5 :: a6 :: a7 :: a8 :: a9 :: some (.int (iI a)) :: t) (rest) := by
  obtain ⟨p, l, e, R, s, m, args, below, meth, c, Q, A⟩ := X
  obtain ⟨hx, hb, hml, hown, hts, hnw, hK, hlk, hA, hR⟩ := C
  intro H locs ls hP hD hS hl
  obtain ⟨j, hj⟩ := List.getElem?_of_mem ((jl0_mem (a0 :: a1 :: a2 :: a3 :: a4 :: a5 :: a6 :: a7 :: a8 :: a9 :: some (.int (iI a)) :: t) 0 (10, Value.int (iI a))).mpr ⟨10, rfl, by omega⟩)
  refine lv_iinc (v := iI (a + z)) hx hb d hl (k := j) hj (by rw [← iI_add]; rfl) (by simp only [List.length_cons]; omega) rfl (fun ls2 h2 => ?_)
  exact kk H locs ls2 hP hD hS (by have h3 := jl_store1 (L := a0 :: a1 :: a2 :: a3 :: a4 :: a5 :: a6 :: a7 :: a8 :: a9 :: some (.int (iI a)) :: t) (v := .int (iI (a + z))) (by simp only [List.length_cons]; omega) (fun a _ h => by cases h; exact hc) h2; exact h3)
theorem jw_iinc_11 {a0 a1 a2 a3 a4 a5 a6 a7 a8 a9 a10 : Option Value} {a z : Int} {t : List (Option Value)} (C : JC G X rm cc own nL) (d : decode cc pc = .ok (.iinc 11 z, 3)) (hc : jc1 a10 = true) (kk : JW G X k n w (pc + 3) (a0 :: a1 :: a2 :: a3 :: a4 :: a5 :: a6 :: a7 :: a8 :: a9 :: a10 :: some (.int (iI (a + z))) :: t) (rest)) : JW G X k n w (pc) (a0 :: a1 :: a2 :: a3 :: a4 :: a5 :: a6 :: a7 :: a8 :: a9 :: a10 :: some (.int (iI a)) :: t) (rest) := by
  obtain ⟨p, l, e, R, s, m, args, below, meth, c, Q, A⟩ := X
  obtain ⟨hx, hb, hml, hown, hts, hnw, hK, hlk, hA, hR⟩ := C
  intro H locs ls hP hD hS hl
  obtain ⟨j, hj⟩ := List.getElem?_of_mem ((jl0_mem (a0 :: a1 :: a2 :: a3 :: a4 :: a5 :: a6 :: a7 :: a8 :: a9 :: a10 :: some (.int (iI a)) :: t) 0 (11, Value.int (iI a))).mpr ⟨11, rfl, by omega⟩)
  refine lv_iinc (v := iI (a + z)) hx hb d hl (k := j) hj (by rw [← iI_add]; rfl) (by simp only [List.length_cons]; omega) rfl (fun ls2 h2 => ?_)
  exact kk H locs ls2 hP hD hS (by have h3 := jl_store1 (L := a0 :: a1 :: a2 :: a3 :: a4 :: a5 :: a6 :: a7 :: a8 :: a9 :: a10 :: some (.int (iI a)) :: t) (v := .int (iI (a + z))) (by simp only [List.length_cons]; omega) (fun a _ h => by cases h; exact hc) h2; exact h3)
theorem jw_iinc_12 {a0 a1 a2 a3 a4 a5 a6 a7 a8 a9 a10 a11 : Option Value} {a z : Int} {t : List (Option Value)} (C : JC G X rm cc own nL) (d : decode cc pc = .ok (.iinc 12 z, 3)) (hc : jc1 a11 = true) (kk : JW G X k n w (pc + 3) (a0 :: a1 :: a2 :: a3 :: a4 :: a5 :: a6 :: a7 :: a8 :: a9 :: a10 :: a11 :: some (.int (iI (a + z))) :: t) (rest)) : JW G X k n w (pc) (a0 :: a1 :: a2 :: a3 :: a4 :: a5 :: a6 :: a7 :: a8 :: a9 :: a10 :: a11 :: some (.int (iI a)) :: t) (rest) := by
  obtain ⟨p, l, e, R, s, m, args, below, meth, c, Q, A⟩ := X
  obtain ⟨hx, hb, hml, hown, hts, hnw, hK, hlk, hA, hR⟩ := C
  intro H locs ls hP hD hS hl
  obtain ⟨j, hj⟩ := List.getElem?_of_mem ((jl0_mem (a0 :: a1 :: a2 :: a3 :: a4 :: a5 :: a6 :: a7 :: a8 :: a9 :: a10 :: a11 :: some (.int (iI a)) :: t) 0 (12, Value.int (iI a))).mpr ⟨12, rfl, by omega⟩)
  refine lv_iinc (v := iI (a + z)) hx hb d hl (k := j) hj (by rw [← iI_add]; rfl) (by simp only [List.length_cons]; omega) rfl (fun ls2 h2 => ?_)
  exact kk H locs ls2 hP hD hS (by have h3 := jl_store1 (L := a0 :: a1 :: a2 :: a3 :: a4 :: a5 :: a6 :: a7 :: a8 :: a9 :: a10 :: a11 :: some (.int (iI a)) :: t) (v := .int (iI (a + z))) (by simp only [List.length_cons]; omega) (fun a _ h => by cases h; exact hc) h2; exact h3)
theorem jw_iinc_13 {a0 a1 a2 a3 a4 a5 a6 a7 a8 a9 a10 a11 a12 : Option Value} {a z : Int} {t : List (Option Value)} (C : JC G X rm cc own nL) (d : decode cc pc = .ok (.iinc 13 z, 3)) (hc : jc1 a12 = true) (kk : JW G X k n w (pc + 3) (a0 :: a1 :: a2 :: a3 :: a4 :: a5 :: a6 :: a7 :: a8 :: a9 :: a10 :: a11 :: a12 :: some (.int (iI (a + z))) :: t) (rest)) : JW G X k n w (pc) (a0 :: a1 :: a2 :: a3 :: a4 :: a5 :: a6 :: a7 :: a8 :: a9 :: a10 :: a11 :: a12 :: some (.int (iI a)) :: t) (rest) := by
  obtain ⟨p, l, e, R, s, m, args, below, meth, c, Q, A⟩ := X
  obtain ⟨hx, hb, hml, hown, hts, hnw, hK, hlk, hA, hR⟩ := C
  intro H locs ls hP hD hS hl
  obtain ⟨j, hj⟩ := List.getElem?_of_mem ((jl0_mem (a0 :: a1 :: a2 :: a3 :: a4 :: a5 :: a6 :: a7 :: a8 :: a9 :: a10 :: a11 :: a12 :: some (.int (iI a)) :: t) 0 (13, Value.int (iI a))).mpr ⟨13, rfl, by omega⟩)
  refine lv_iinc (v := iI (a + z)) hx hb d hl (k := j) hj (by rw [← iI_add]; rfl) (by simp only [List.length_cons]; omega) rfl (fun ls2 h2 => ?_)
  exact kk H locs ls2 hP hD hS (by have h3 := jl_store1 (L := a0 :: a1 :: a2 :: a3 :: a4 :: a5 :: a6 :: a7 :: a8 :: a9 :: a10 :: a11 :: a12 :: some (.int (iI a)) :: t) (v := .int (iI (a + z))) (by simp only [List.length_cons]; omega) (fun a _ h => by cases h; exact hc) h2; exact h3)
theorem jw_iinc_14 {a0 a1 a2 a3 a4 a5 a6 a7 a8 a9 a10 a11 a12 a13 : Option Value} {a z : Int} {t : List (Option Value)} (C : JC G X rm cc own nL) (d : decode cc pc = .ok (.iinc 14 z, 3)) (hc : jc1 a13 = true) (kk : JW G X k n w (pc + 3) (a0 :: a1 :: a2 :: a3 :: a4 :: a5 :: a6 :: a7 :: a8 :: a9 :: a10 :: a11 :: a12 :: a13 :: some (.int (iI (a + z))) :: t) (rest)) : JW G X k n w (pc) (a0 :: a1 :: a2 :: a3 :: a4 :: a5 :: a6 :: a7 :: a8 :: a9 :: a10 :: a11 :: a12 :: a13 :: some (.int (iI a)) :: t) (rest) := by
  obtain ⟨p, l, e, R, s, m, args, below, meth, c, Q, A⟩ := X
  obtain ⟨hx, hb, hml, hown, hts, hnw, hK, hlk, hA, hR⟩ := C
  intro H locs ls hP hD hS hl
  obtain ⟨j, hj⟩ := List.getElem?_of_mem ((jl0_mem (a0 :: a1 :: a2 :: a3 :: a4 :: a5 :: a6 :: a7 :: a8 :: a9 :: a10 :: a11 :: a12 :: a13 :: some (.int (iI a)) :: t) 0 (14, Value.int (iI a))).mpr ⟨14, rfl, by omega⟩)
  refine lv_iinc (v := iI (a + z)) hx hb d hl (k := j) hj (by rw [← iI_add]; rfl) (by simp only [List.length_cons]; omega) rfl (fun ls2 h2 => ?_)
  exact kk H locs ls2 hP hD hS (by have h3 := jl_store1 (L := a0 :: a1 :: a2 :: a3 :: a4 :: a5 :: a6 :: a7 :: a8 :: a9 :: a10 :: a11 :: a12 :: a13 :: some (.int (iI a)) :: t) (v := .int (iI (a + z))) (by simp only [List.length_cons]; omega) (fun a _ h => by cases h; exact hc) h2; exact h3)
theorem jw_iinc_15 {a0 a1 a2 a3 a4 a5 a6 a7 a8 a9 a10 a11 a12 a13 a14 : Option Value} {a z : Int} {t : List (Option Value)} (C : JC G X rm cc own nL) (d : decode cc pc = .ok (.iinc 15 z, 3)) (hc : jc1 a14 = true) (kk : JW G X k n w (pc + 3) (a0 :: a1 :: a2 :: a3 :: a4 :: a5 :: a6 :: a7 :: a8 :: a9 :: a10 :: a11 :: a12 :: a13 :: a14 :: some (.int (iI (a + z))) :: t) (rest)) : JW G X k n w (pc) (a0 :: a1 :: a2 :: a3 :: a4 :: a5 :: a6 :: a7 :: a8 :: a9 :: a10 :: a11 :: a12 :: a13 :: a14 :: some (.int (iI a)) :: t) (rest) := by
  obtain ⟨p, l, e, R, s, m, args, below, meth, c, Q, A⟩ := X
  obtain ⟨hx, hb, hml, hown, hts, hnw, hK, hlk, hA, hR⟩ := C
  intro H locs ls hP hD hS hl
  obtain ⟨j, hj⟩ := List.getElem?_of_mem ((jl0_mem (a0 :: a1 :: a2 :: a3 :: a4 :: a5 :: a6 :: a7 :: a8 :: a9 :: a10 :: a11 :: a12 :: a13 :: a14 :: some (.int (iI a)) :: t) 0 (15, Value.int (iI a))).mpr ⟨15, rfl, by omega⟩)
  refine lv_iinc (v := iI (a + z)) hx hb d hl (k := j) hj (by rw [← iI_add]; rfl) (by simp only [List.length_cons]; omega) rfl (fun ls2 h2 => ?_)
  exact kk H locs ls2 hP hD hS (by have h3 := jl_store1 (L := a0 :: a1 :: a2 :: a3 :: a4 :: a5 :: a6 :: a7 :: a8 :: a9 :: a10 :: a11 :: a12 :: a13 :: a14 :: some (.int (iI a)) :: t) (v := .int (iI (a + z))) (by simp only [List.length_cons]; omega) (fun a _ h => by cases h; exact hc) h2; exact h3)
theorem jw_iinc_16 {a0 a1 a2 a3 a4 a5 a6 a7 a8 a9 a10 a11 a12 a13 a14 a15 : Option Value} {a z : Int} {t : List (Option Value)} (C : JC G X rm cc own nL) (d : decode cc pc = .ok (.iinc 16 z, 3)) (hc : jc1 a15 = true) (kk : JW G X k n w (pc + 3) (a0 :: a1 :: a2 :: a3 :: a4 :: a5 :: a6 :: a7 :: a8 :: a9 :: a10 :: a11 :: a12 :: a13 :: a14 :: a15 :: some (.int (iI (a + z))) :: t) (rest)) : JW G X k n w (pc) (a0 :: a1 :: a2 :: a3 :: a4 :: a5 :: a6 :: a7 :: a8 :: a9 :: a10 :: a11 :: a12 :: a13 :: a14 :: a15 :: some (.int (iI a)) :: t) (rest) := by
  obtain ⟨p, l, e, R, s, m, args, below, meth, c, Q, A⟩ := X
  obtain ⟨hx, hb, hml, hown, hts, hnw, hK, hlk, hA, hR⟩ := C
  intro H locs ls hP hD hS hl
  obtain ⟨j, hj⟩ := List.getElem?_of_mem ((jl0_mem (a0 :: a1 :: a2 :: a3 :: a4 :: a5 :: a6 :: a7 :: a8 :: a9 :: a10 :: a11 :: a12 :: a13 :: a14 :: a15 :: some (.int (iI a)) :: t) 0 (16, Value.int (iI a))).mpr ⟨16, rfl, by omega⟩)
  refine lv_iinc (v := iI (a + z)) hx hb d hl (k := j) hj (by rw [← iI_add]; rfl) (by simp only [List.length_cons]; omega) rfl (fun ls2 h2 => ?_)
  exact kk H locs ls2 hP hD hS (by have h3 := jl_store1 (L := a0 :: a1 :: a2 :: a3 :: a4 :: a5 :: a6 :: a7 :: a8 :: a9 :: a10 :: a11 :: a12 :: a13 :: a14 :: a15 :: some (.int (iI a)) :: t) (v := .int (iI (a + z))) (by simp only [List.length_cons]; omega) (fun a _ h => by cases h; exact hc) h2; exact h3)
theorem jw_iinc_17 {a0 a1 a2 a3 a4 a5 a6 a7 a8 a9 a10 a11 a12 a13 a14 a15 a16 : Option Value} {a z : Int} {t : List (Option Value)} (C : JC G X rm cc own nL) (d : decode cc pc = .ok (.iinc 17 z, 3)) (hc : jc1 a16 = true) (kk : JW G X k n w (pc + 3) (a0 :: a1 :: a2 :: a3 :: a4 :: a5 :: a6 :: a7 :: a8 :: a9 :: a10 :: a11 :: a12 :: a13 :: a14 :: a15 :: a16 :: some (.int (iI (a + z))) :: t) (rest)) : JW G X k n w (pc) (a0 :: a1 :: a2 :: a3 :: a4 :: a5 :: a6 :: a7 :: a8 :: a9 :: a10 :: a11 :: a12 :: a13 :: a14 :: a15 :: a16 :: some (.int (iI a)) :: t) (rest) := by
  obtain ⟨p, l, e, R, s, m, args, below, meth, c, Q, A⟩ := X
  obtain ⟨hx, hb, hml, hown, hts, hnw, hK, hlk, hA, hR⟩ := C
  intro H locs ls hP hD hS hl
  obtain ⟨j, hj⟩ := List.getElem?_of_mem ((jl0_mem (a0 :: a1 :: a2 :: a3 :: a4 :: a5 :: a6 :: a7 :: a8 :: a9 :: a10 :: a11 :: a12 :: a13 :: a14 :: a15 :: a16 :: some (.int (iI a)) :: t) 0 (17, Value.int (iI a))).mpr ⟨17, rfl, by omega⟩)
  refine lv_iinc (v := iI (a + z)) hx hb d hl (k := j) hj (by rw [← iI_add]; rfl) (by simp only [List.length_cons]; omega) rfl (fun ls2 h2 => ?_)
  exact kk H locs ls2 hP hD hS (by have h3 := jl_store1 (L := a0 :: a1 :: a2 :: a3 :: a4 :: a5 :: a6 :: a7 :: a8 :: a9 :: a10 :: a11 :: a12 :: a13 :: a14 :: a15 :: a16 :: some (.int (iI a)) :: t) (v := .int (iI (a + z))) (by simp only [List.length_cons]; omega) (fun a _ h => by cases h; exact hc) h2; exact h3)
theorem jw_iinc_18 {a0 a1 a2 a3 a4 a5 a6 a7 a8 a9 a10 a11 a12 a13 a14 a15 a16 a17 : Option Value} {a z : Int} {t : List (Option Value)} (C : JC G X rm cc own nL) (d : decode cc pc = .ok (.iinc 18 z, 3)) (hc : jc1 a17 = true) (kk : JW G X k n w (pc + 3) (a0 :: a1 :: a2 :: a3 :: a4 :: a5 :: a6 :: a7 :: a8 :: a9 :: a10 :: a11 :: a12 :: a13 :: a14 :: a15 :: a16 :: a17 :: some (.int (iI (a + z))) :: t) (rest)) : JW G X k n w (pc) (a0 :: a1 :: a2 :: a3 :: a4 :: a5 :: a6 :: a7 :: a8 :: a9 :: a10 :: a11 :: a12 :: a13 :: a14 :: a15 :: a16 :: a17 :: some (.int (iI a)) :: t) (rest) := by
  obtain ⟨p, l, e, R, s, m, args, below, meth, c, Q, A⟩ := X
  obtain ⟨hx, hb, hml, hown, hts, hnw, hK, hlk, hA, hR⟩ := C
  intro H locs ls hP hD hS hl
  obtain ⟨j, hj⟩ := List.getElem?_of_mem ((jl0_mem (a0 :: a1 :: a2 :: a3 :: a4 :: a5 :: a6 :: a7 :: a8 :: a9 :: a10 :: a11 :: a12 :: a13 :: a14 :: a15 :: a16 :: a17 :: some (.int (iI a)) :: t) 0 (18, Value.int (iI a))).mpr ⟨18, rfl, by omega⟩)
  refine lv_iinc (v := iI (a + z)) hx hb d hl (k := j) hj (by rw [← iI_add]; rfl) (by simp only [List.length_cons]; omega) rfl (fun ls2 h2 => ?_)
  exact kk H locs ls2 hP hD hS (by have h3 := jl_store1 (L := a0 :: a1 :: a2 :: a3 :: a4 :: a5 :: a6 :: a7 :: a8 :: a9 :: a10 :: a11 :: a12 :: a13 :: a14 :: a15 :: a16 :: a17 :: some (.int (iI a)) :: t) (v := .int (iI (a + z))) (by simp only [List.length_cons]; omega) (fun a _ h => by cases h; exact hc) h2; exact h3)
theorem jw_iinc_19 {a0 a1 a2 a3 a4 a5 a6 a7 a8 a9 a10 a11 a12 a13 a14 a15 a16 a17 a18 : Option Value} {a z : Int} {t : List (Option Value)} (C : JC G X rm cc own nL) (d : decode cc pc = .ok (.iinc 19 z, 3)) (hc : jc1 a18 = true) (kk : JW G X k n w (pc + 3) (a0 :: a1 :: a2 :: a3 :: a4 :: a5 :: a6 :: a7 :: a8 :: a9 :: a10 :: a11 :: a12 :: a13 :: a14 :: a15 :: a16 :: a17 :: a18 :: some (.int (iI (a + z))) :: t) (rest)) : JW G X k n w (pc) (a0 :: a1 :: a2 :: a3 :: a4 :: a5 :: a6 :: a7 :: a8 :: a9 :: a10 :: a11 :: a12 :: a13 :: a14 :: a15 :: a16 :: a17 :: a18 :: some (.int (iI a)) :: t) (rest) := by
  obtain ⟨p, l, e, R, s, m, args, below, meth, c, Q, A⟩ := X
  obtain ⟨hx, hb, hml, hown, hts, hnw, hK, hlk, hA, hR⟩ := C
  intro H locs ls hP hD hS hl
  obtain ⟨j, hj⟩ := List.getElem?_of_mem ((jl0_mem (a0 :: a1 :: a2 :: a3 :: a4 :: a5 :: a6 :: a7 :: a8 :: a9 :: a10 :: a11 :: a12 :: a13 :: a14 :: a15 :: a16 :: a17 :: a18 :: some (.int (iI a)) :: t) 0 (19, Value.int (iI a))).mpr ⟨19, rfl, by omega⟩)
  refine lv_iinc (v := iI (a + z)) hx hb d hl (k := j) hj (by rw [← iI_add]; rfl) (by simp only [List.length_cons]; omega) rfl (fun ls2 h2 => ?_)
  exact kk H locs ls2 hP hD hS (by have h3 := jl_store1 (L := a0 :: a1 :: a2 :: a3 :: a4 :: a5 :: a6 :: a7 :: a8 :: a9 :: a10 :: a11 :: a12 :: a13 :: a14 :: a15 :: a16 :: a17 :: a18 :: some (.int (iI a)) :: t) (v := .int (iI (a + z))) (by simp only [List.length_cons]; omega) (fun a _ h => by cases h; exact hc) h2; exact h3)
theorem jw_iinc_20 {a0 a1 a2 a3 a4 a5 a6 a7 a8 a9 a10 a11 a12 a13 a14 a15 a16 a17 a18 a19 : Option Value} {a z : Int} {t : List (Option Value)} (C : JC G X rm cc own nL) (d : decode cc pc = .ok (.iinc 20 z, 3)) (hc : jc1 a19 = true) (kk : JW G X k n w (pc + 3) (a0 :: a1 :: a2 :: a3 :: a4 :: a5 :: a6 :: a7 :: a8 :: a9 :: a10 :: a11 :: a12 :: a13 :: a14 :: a15 :: a16 :: a17 :: a18 :: a19 :: some (.int (iI (a + z))) :: t) (rest)) : JW G X k n w (pc) (a0 :: a1 :: a2 :: a3 :: a4 :: a5 :: a6 :: a7 :: a8 :: a9 :: a10 :: a11 :: a12 :: a13 :: a14 :: a15 :: a16 :: a17 :: a18 :: a19 :: some (.int (iI a)) :: t) (rest) := by
  obtain ⟨p, l, e, R, s, m, args, below, meth, c, Q, A⟩ := X
  obtain ⟨hx, hb, hml, hown, hts, hnw, hK, hlk, hA, hR⟩ := C
  intro H locs ls hP hD hS hl
  obtain ⟨j, hj⟩ := List.getElem?_of_mem ((jl0_mem (a0 :: a1 :: a2 :: a3 :: a4 :: a5 :: a6 :: a7 :: a8 :: a9 :: a10 :: a11 :: a12 :: a13 :: a14 :: a15 :: a16 :: a17 :: a18 :: a19 :: some (.int (iI a)) :: t) 0 (20, Value.int (iI a))).mpr ⟨20, rfl, by omega⟩)
  refine lv_iinc (v := iI (a + z)) hx hb d hl (k := j) hj (by rw [← iI_add]; rfl) (by simp only [List.length_cons]; omega) rfl (fun ls2 h2 => ?_)
  exact kk H locs ls2 hP hD hS (by have h3 := jl_store1 (L := a0 :: a1 :: a2 :: a3 :: a4 :: a5 :: a6 :: a7 :: a8 :: a9 :: a10 :: a11 :: a12 :: a13 :: a14 :: a15 :: a16 :: a17 :: a18 :: a19 :: some (.int (iI a)) :: t) (v := .int (iI (a + z))) (by simp only [List.length_cons]; omega) (fun a _ h => by cases h; exact hc) h2; exact h3)
theorem jw_iinc_21 {a0 a1 a2 a3 a4 a5 a6 a7 a8 a9 a10 a11 a12 a13 a14 a15 a16 a17 a18 a19 a20 : Option Value} {a z : Int} {t : List (Option Value)} (C : JC G X rm cc own nL) (d : decode cc pc = .ok (.iinc 21 z, 3)) (hc : jc1 a20 = true) (kk : JW G X k n w (pc + 3) (a0 :: a1 :: a2 :: a3 :: a4 :: a5 :: a6 :: a7 :: a8 :: a9 :: a10 :: a11 :: a12 :: a13 :: a14 :: a15 :: a16 :: a17 :: a18 :: a19 :: a20 :: some (.int (iI (a + z))) :: t) (rest)) : JW G X k n w (pc) (a0 :: a1 :: a2 :: a3 :: a4 :: a5 :: a6 :: a7 :: a8 :: a9 :: a10 :: a11 :: a12 :: a13 :: a14 :: a15 :: a16 :: a17 :: a18 :: a19 :: a20 :: some (.int (iI a)) :: t) (rest) := by
  obtain ⟨p, l, e, R, s, m, args, below, meth, c, Q, A⟩ := X
  obtain ⟨hx, hb, hml, hown, hts, hnw, hK, hlk, hA, hR⟩ := C
  intro H locs ls hP hD hS hl
  obtain ⟨j, hj⟩ := List.getElem?_of_mem ((jl0_mem (a0 :: a1 :: a2 :: a3 :: a4 :: a5 :: a6 :: a7 :: a8 :: a9 :: a10 :: a11 :: a12 :: a13 :: a14 :: a15 :: a16 :: a17 :: a18 :: a19 :: a20 :: some (.int (iI a)) :: t) 0 (21, Value.int (iI a))).mpr ⟨21, rfl, by omega⟩)
  refine lv_iinc (v := iI (a + z)) hx hb d hl (k := j) hj (by rw [← iI_add]; rfl) (by simp only [List.length_cons]; omega) rfl (fun ls2 h2 => ?_)
  exact kk H locs ls2 hP hD hS (by have h3 := jl_store1 (L := a0 :: a1 :: a2 :: a3 :: a4 :: a5 :: a6 :: a7 :: a8 :: a9 :: a10 :: a11 :: a12 :: a13 :: a14 :: a15 :: a16 :: a17 :: a18 :: a19 :: a20 :: some (.int (iI a)) :: t) (v := .int (iI (a + z))) (by simp only [List.length_cons]; omega) (fun a _ h => by cases h; exact hc) h2; exact h3)
theorem jw_iinc_22 {a0 a1 a2 a3 a4 a5 a6 a7 a8 a9 a10 a11 a12 a13 a14 a15 a16 a17 a18 a19 a20 a21 : Option Value} {a z : Int} {t : List (Option Value)} (C : JC G X rm cc own nL) (d : decode cc pc = .ok (.iinc 22 z, 3)) (hc : jc1 a21 = true) (kk : JW G X k n w (pc + 3) (a0 :: a1 :: a2 :: a3 :: a4 :: a5 :: a6 :: a7 :: a8 :: a9 :: a10 :: a11 :: a12 :: a13 :: a14 :: a15 :: a16 :: a17 :: a18 :: a19 :: a20 :: a21 :: some (.int (iI (a + z))) :: t) (rest)) : JW G X k n w (pc) (a0 :: a1 :: a2 :: a3 :: a4 :: a5 :: a6 :: a7 :: a8 :: a9 :: a10 :: a11 :: a12 :: a13 :: a14 :: a15 :: a16 :: a17 :: a18 :: a19 :: a20 :: a21 :: some (.int (iI a)) :: t) (rest) := by
  obtain ⟨p, l, e, R, s, m, args, below, meth, c, Q, A⟩ := X
  obtain ⟨hx, hb, hml, hown, hts, hnw, hK, hlk, hA, hR⟩ := C
  intro H locs ls hP hD hS hl
  obtain ⟨j, hj⟩ := List.getElem?_of_mem ((jl0_mem (a0 :: a1 :: a2 :: a3 :: a4 :: a5 :: a6 :: a7 :: a8 :: a9 :: a10 :: a11 :: a12 :: a13 :: a14 :: a15 :: a16 :: a17 :: a18 :: a19 :: a20 :: a21 :: some (.int (iI a)) :: t) 0 (22, Value.int (iI a))).mpr ⟨22, rfl, by omega⟩)
  refine lv_iinc (v := iI (a + z)) hx hb d hl (k := j) hj (by rw [← iI_add]; rfl) (by simp only [List.length_cons]; omega) rfl (fun ls2 h2 => ?_)
  exact kk H locs ls2 hP hD hS (by have h3 := jl_store1 (L := a0 :: a1 :: a2 :: a3 :: a4 :: a5 :: a6 :: a7 :: a8 :: a9 :: a10 :: a11 :: a12 :: a13 :: a14 :: a15 :: a16 :: a17 :: a18 :: a19 :: a20 :: a21 :: some (.int (iI a)) :: t) (v := .int (iI (a + z))) (by simp only [List.length_cons]; omega) (fun a _ h => by cases h; exact hc) h2; exact h3)
theorem jw_iinc_23 {a0 a1 a2 a3 a4 a5 a6 a7 a8 a9 a10 a11 a12 a13 a14 a15 a16 a17 a18 a19 a20 a21 a22 : Option Value} {a z : Int} {t : List (Option Value)} (C : JC G X rm cc own nL) (d : decode cc pc = .ok (.iinc 23 z, 3)) (hc : jc1 a22 = true) (kk : JW G X k n w (pc + 3) (a0 :: a1 :: a2 :: a3 :: a4 :: a5 :: a6 :: a7 :: a8 :: a9 :: a10 :: a11 :: a12 :: a13 :: a14 :: a15 :: a16 :: a17 :: a18 :: a19 :: a20 :: a21 :: a22 :: some (.int (iI (a + z))) :: t) (rest)) : JW G X k n w (pc) (a0 :: a1 :: a2 :: a3 :: a4 :: a5 :: a6 :: a7 :: a8 :: a9 :: a10 :: a11 :: a12 :: a13 :: a14 :: a15 :: a16 :: a17 :: a18 :: a19 :: a20 :: a21 :: a22 :: some (.int (iI a)) :: t) (rest) := by
  obtain ⟨p, l, e, R, s, m, args, below, meth, c, Q, A⟩ := X
  obtain ⟨hx, hb, hml, hown, hts, hnw, hK, hlk, hA, hR⟩ := C
  intro H locs ls hP hD hS hl
  obtain ⟨j, hj⟩ := List.getElem?_of_mem ((jl0_mem (a0 :: a1 :: a2 :: a3 :: a4 :: a5 :: a6 :: a7 :: a8 :: a9 :: a10 :: a11 :: a12 :: a13 :: a14 :: a15 :: a16 :: a17 :: a18 :: a19 :: a20 :: a21 :: a22 :: some (.int (iI a)) :: t) 0 (23, Value.int (iI a))).mpr ⟨23, rfl, by omega⟩)
  refine lv_iinc (v := iI (a + z)) hx hb d hl (k := j) hj (by rw [← iI_add]; rfl) (by simp only [List.length_cons]; omega) rfl (fun ls2 h2 => ?_)
  exact kk H locs ls2 hP hD hS (by have h3 := jl_store1 (L := a0 :: a1 :: a2 :: a3 :: a4 :: a5 :: a6 :: a7 :: a8 :: a9 :: a10 :: a11 :: a12 :: a13 :: a14 :: a15 :: a16 :: a17 :: a18 :: a19 :: a20 :: a21 :: a22 :: some (.int (iI a)) :: t) (v := .int (iI (a + z))) (by simp only [List.length_cons]; omega) (fun a _ h => by cases h; exact hc) h2; exact h3)
theorem jw_iinc_24 {a0 a1 a2 a3 a4 a5 a6 a7 a8 a9 a10 a11 a12 a13 a14 a15 a16 a17 a18 a19 a20 a21 a22 a23 : Option Value} {a z : Int} {t : List (Option Value)} (C : JC G X rm cc own nL) (d : decode cc pc = .ok (.iinc 24 z, 3)) (hc : jc1 a23 = true) (kk : JW G X k n w (pc + 3) (a0 :: a1 :: a2 :: a3 :: a4 :: a5 :: a6 :: a7 :: a8 :: a9 :: a10 :: a11 :: a12 :: a13 :: a14 :: a15 :: a16 :: a17 :: a18 :: a19 :: a20 :: a21 :: a22 :: a23 :: some (.int (iI (a + z))) :: t) (rest)) : JW G X k n w (pc) (a0 :: a1 :: a2 :: a3 :: a4 :: a5 :: a6 :: a7 :: a8 :: a9 :: a10 :: a11 :: a12 :: a13 :: a14 :: a15 :: a16 :: a17 :: a18 :: a19 :: a20 :: a21 :: a22 :: a23 :: some (.int (iI a)) :: t) (rest) := by
  obtain ⟨p, l, e, R, s, m, args, below, meth, c, Q, A⟩ := X
  obtain ⟨hx, hb, hml, hown, hts, hnw, hK, hlk, hA, hR⟩ := C
  intro H locs ls hP hD hS hl
  obtain ⟨j, hj⟩ := List.getElem?_of_mem ((jl0_mem (a0 :: a1 :: a2 :: a3 :: a4 :: a5 :: a6 :: a7 :: a8 :: a9 :: a10 :: a11 :: a12 :: a13 :: a14 :: a15 :: a16 :: a17 :: a18 :: a19 :: a20 :: a21 :: a22 :: a23 :: some (.int (iI a)) :: t) 0 (24, Value.int (iI a))).mpr ⟨24, rfl, by omega⟩)
  refine lv_iinc (v := iI (a + z)) hx hb d hl (k := j) hj (by rw [← iI_add]; rfl) (by simp only [List.length_cons]; omega) rfl (fun ls2 h2 => ?_)
  exact kk H locs ls2 hP hD hS (by have h3 := jl_store1 (L := a0 :: a1 :: a2 :: a3 :: a4 :: a5 :: a6 :: a7 :: a8 :: a9 :: a10 :: a11 :: a12 :: a13 :: a14 :: a15 :: a16 :: a17 :: a18 :: a19 :: a20 :: a21 :: a22 :: a23 :: some (.int (iI a)) :: t) (v := .int (iI (a + z))) (by simp only [List.length_cons]; omega) (fun a _ h => by cases h; exact hc) h2; exact h3)
theorem jw_iinc_25 {a0 a1 a2 a3 a4 a5 a6 a7 a8 a9 a10 a11 a12 a13 a14 a15 a16 a17 a18 a19 a20 a21 a22 a23 a24 : Option Value} {a z : Int} {t : List (Option Value)} (C : JC G X rm cc own nL) (d : decode cc pc = .ok (.iinc 25 z, 3)) (hc : jc1 a24 = true) (kk : JW G X k n w (pc + 3) (a0 :: a1 :: a2 :: a3 :: a4 :: a5 :: a6 :: a7 :: a8 :: a9 :: a10 :: a11 :: a12 :: a13 :: a14 :: a15 :: a16 :: a17 :: a18 :: a19 :: a20 :: a21 :: a22 :: a23 :: a24 :: some (.int (iI (a + z))) :: t) (rest)) : JW G X k n w (pc) (a0 :: a1 :: a2 :: a3 :: a4 :: a5 :: a6 :: a7 :: a8 :: a9 :: a10 :: a11 :: a12 :: a13 :: a14 :: a15 :: a16 :: a17 :: a18 :: a19 :: a20 :: a21 :: a22 :: a23 :: a24 :: some (.int (iI a)) :: t) (rest) := by
  obtain ⟨p, l, e, R, s, m, args, below, meth, c, Q, A⟩ := X
  obtain ⟨hx, hb, hml, hown, hts, hnw, hK, hlk, hA, hR⟩ := C
  intro H locs ls hP hD hS hl
  obtain ⟨j, hj⟩ := List.getElem?_of_mem ((jl0_mem (a0 :: a1 :: a2 :: a3 :: a4 :: a5 :: a6 :: a7 :: a8 :: a9 :: a10 :: a11 :: a12 :: a13 :: a14 :: a15 :: a16 :: a17 :: a18 :: a19 :: a20 :: a21 :: a22 :: a23 :: a24 :: some (.int (iI a)) :: t) 0 (25, Value.int (iI a))).mpr ⟨25, rfl, by omega⟩)
  refine lv_iinc (v := iI (a + z)) hx hb d hl (k := j) hj (by rw [← iI_add]; rfl) (by simp only [List.length_cons]; omega) rfl (fun ls2 h2 => ?_)
  exact kk H locs ls2 hP hD hS (by have h3 := jl_store1 (L := a0 :: a1 :: a2 :: a3 :: a4 :: a5 :: a6 :: a7 :: a8 :: a9 :: a10 :: a11 :: a12 :: a13 :: a14 :: a15 :: a16 :: a17 :: a18 :: a19 :: a20 :: a21 :: a22 :: a23 :: a24 :: some (.int (iI a)) :: t) (v := .int (iI (a + z))) (by simp only [List.length_cons]; omega) (fun a _ h => by cases h; exact hc) h2; exact h3)
theorem jw_iinc_26 {a0 a1 a2 a3 a4 a5 a6 a7 a8 a9 a10 a11 a12 a13 a14 a15 a16 a17 a18 a19 a20 a21 a22 a23 a24 a25 : Option Value} {a z : Int} {t : List (Option Value)} (C : JC G X rm cc own nL) (d : decode cc pc = .ok (.iinc 26 z, 3)) (hc : jc1 a25 = true) (kk : JW G X k n w (pc + 3) (a0 :: a1 :: a2 :: a3 :: a4 :: a5 :: a6 :: a7 :: a8 :: a9 :: a10 :: a11 :: a12 :: a13 :: a14 :: a15 :: a16 :: a17 :: a18 :: a19 :: a20 :: a21 :: a22 :: a23 :: a24 :: a25 :: some (.int (iI (a + z))) :: t) (rest)) : JW G X k n w (pc) (a0 :: a1 :: a2 :: a3 :: a4 :: a5 :: a6 :: a7 :: a8 :: a9 :: a10 :: a11 :: a12 :: a13 :: a14 :: a15 :: a16 :: a17 :: a18 :: a19 :: a20 :: a21 :: a22 :: a23 :: a24 :: a25 :: some (.int (iI a)) :: t) (rest) := by
  obtain ⟨p, l, e, R, s, m, args, below, meth, c, Q, A⟩ := X
  obtain ⟨hx, hb, hml, hown, hts, hnw, hK, hlk, hA, hR⟩ := C
  intro H locs ls hP hD hS hl
  obtain ⟨j, hj⟩ := List.getElem?_of_mem ((jl0_mem (a0 :: a1 :: a2 :: a3 :: a4 :: a5 :: a6 :: a7 :: a8 :: a9 :: a10 :: a11 :: a12 :: a13 :: a14 :: a15 :: a16 :: a17 :: a18 :: a19 :: a20 :: a21 :: a22 :: a23 :: a24 :: a25 :: some (.int (iI a)) :: t) 0 (26, Value.int (iI a))).mpr ⟨26, rfl, by omega⟩)
  refine lv_iinc (v := iI (a + z)) hx hb d hl (k := j) hj (by rw [← iI_add]; rfl) (by simp only [List.length_cons]; omega) rfl (fun ls2 h2 => ?_)
  exact kk H locs ls2 hP hD hS (by have h3 := jl_store1 (L := a0 :: a1 :: a2 :: a3 :: a4 :: a5 :: a6 :: a7 :: a8 :: a9 :: a10 :: a11 :: a12 :: a13 :: a14 :: a15 :: a16 :: a17 :: a18 :: a19 :: a20 :: a21 :: a22 :: a23 :: a24 :: a25 :: some (.int (iI a)) :: t) (v := .int (iI (a + z))) (by simp only [List.length_cons]; omega) (fun a _ h => by cases h; exact hc) h2; exact h3)
theorem jw_iinc_27 {a0 a1 a2 a3 a4 a5 a6 a7 a8 a9 a10 a11 a12 a13 a14 a15 a16 a17 a18 a19 a20 a21 a22 a23 a24 a25 a26 : Option Value} {a z : Int} {t : List (Option Value)} (C : JC G X rm cc own nL) (d : decode cc pc = .ok (.iinc 27 z, 3)) (hc : jc1 a26 = true) (kk : JW G X k n w (pc + 3) (a0 :: a1 :: a2 :: a3 :: a4 :: a5 :: a6 :: a7 :: a8 :: a9 :: a10 :: a11 :: a12 :: a13 :: a14 :: a15 :: a16 :: a17 :: a18 :: a19 :: a20 :: a21 :: a22 :: a23 :: a24 :: a25 :: a26 :: some (.int (iI (a + z))) :: t) (rest)) : JW G X k n w (pc) (a0 :: a1 :: a2 :: a3 :: a4 :: a5 :: a6 :: a7 :: a8 :: a9 :: a10 :: a11 :: a12 :: a13 :: a14 :: a15 :: a16 :: a17 :: a18 :: a19 :: a20 :: a21 :: a22 :: a23 :: a24 :: a25 :: a26 :: some (.int (iI a)) :: t) (rest) := by
  obtain ⟨p, l, e, R, s, m, args, below, meth, c, Q, A⟩ := X
  obtain ⟨hx, hb, hml, hown, hts, hnw, hK, hlk, hA, hR⟩ := C
  intro H locs ls hP hD hS hl
  obtain ⟨j, hj⟩ := List.getElem?_of_mem ((jl0_mem (a0 :: a1 :: a2 :: a3 :: a4 :: a5 :: a6 :: a7 :: a8 :: a9 :: a10 :: a11 :: a12 :: a13 :: a14 :: a15 :: a16 :: a17 :: a18 :: a19 :: a20 :: a21 :: a22 :: a23 :: a24 :: a25 :: a26 :: some (.int (iI a)) :: t) 0 (27, Value.int (iI a))).mpr ⟨27, rfl, by omega⟩)
  refine lv_iinc (v := iI (a + z)) hx hb d hl (k := j) hj (by rw [← iI_add]; rfl) (by simp only [List.length_cons]; omega) rfl (fun ls2 h2 => ?_)
  exact kk H locs ls2 hP hD hS (by have h3 := jl_store1 (L := a0 :: a1 :: a2 :: a3 :: a4 :: a5 :: a6 :: a7 :: a8 :: a9 :: a10 :: a11 :: a12 :: a13 :: a14 :: a15 :: a16 :: a17 :: a18 :: a19 :: a20 :: a21 :: a22 :: a23 :: a24 :: a25 :: a26 :: some (.int (iI a)) :: t) (v := .int (iI (a + z))) (by simp only [List.length_cons]; omega) (fun a _ h => by cases h; exact hc) h2; exact h3)
theorem jw_get {ref cls : String} {T : u_T} {N ci idx : Nat} {a : Nat} {fs : List Value} {v : Value} (hin : ∀ w ∈ u_ws cls T N, w ∈ jAll) (hc : vwCl[ci]? = some (cls, T, N)) (kf : Nat) (hk : kf < N) (hr : (T kf).1 = ref) (C : JC G X rm cc own nL) (hlink : Cond.fieldLink own idx ref (T kf).2.1 (T kf).2.2.1 ∈ jAll)
    (q0 : Nat) (he : w[q0]? = some (a, .inr (ci, fs))) (hv : fs[kf]? = some v) (d : decode cc pc = .ok (.getfield idx, 3)) (kk : JW G X k n w (pc + 3) L (v :: rest)) : JW G X k n w pc L (.ref a :: rest) := by
  obtain ⟨p, l, e, R, s, m, args, below, meth, c, Q, A⟩ := X
  obtain ⟨hx, hb, hml, hown, hts, hnw, hK, hlk, hA, hR⟩ := C
  intro H locs ls hP hD hS hl
  exact va_get hx hb hts hin hown hK hP q0 he hc kf hk (hts _ hlink) (fun x h => by rw [← hr]; exact h) hv d (kk H locs ls hP hD hS hl)
theorem jw_put {ref cls : String} {T : u_T} {N ci idx : Nat} {a : Nat} {fs : List Value} {v : Value} {ty0 : Nat → FieldType} {ty : FieldType} (hin : ∀ w ∈ u_ws cls T N, w ∈ jAll) (hty : ∀ k, k < N → parseFieldDescriptor (T k).2.2.1 = some (ty0 k)) (hnm : ∀ a, a < N → ∀ b, b < N → a ≠ b → (T a).2.1 ≠ (T b).2.1) (hc : vwCl[ci]? = some (cls, T, N)) (kf : Nat) (hk : kf < N) (hr : (T kf).1 = ref) (hfin : (T kf).2.2.2 = false) (hd : parseFieldDescriptor (T kf).2.2.1 = some ty) (C : JC G X rm cc own nL) (hlink : Cond.fieldLink own idx ref (T kf).2.1 (T kf).2.2.1 ∈ jAll)
    (q0 : Nat) (he : w[q0]? = some (a, .inr (ci, fs))) (hn : narrow ty v = v) (hfit : fits ty v = true) (hl : kf < fs.length) (d : decode cc pc = .ok (.putfield idx, 3)) (kk : JW G X k n (w.set q0 (a, .inr (ci, fs.set kf v))) (pc + 3) L rest) : JW G X k n w pc L (v :: .ref a :: rest) := by
  obtain ⟨p, l, e, R, s, m, args, below, meth, c, Q, A⟩ := X
  obtain ⟨hx, hb, hml, hown, hts, hnw, hK, hlk, hA, hR⟩ := C
  intro H locs ls hP hD hS hl2
  exact va_put hx hb hts hin ty0 hty hnm hown hK hP hD hS q0 he hc kf hk (hts _ hlink) (fun x h => by rw [← hr]; exact h) hfin hd hn hfit hl d (fun H1 locs1 hP1 hD1 hS1 => kk H1 locs1 ls hP1 hD1 hS1 hl2)
theorem jw_getN {ref cls host : String} {T : u_T} {N ci idx : Nat} {a : Nat} {fs : List Value} {v : Value} (hin : ∀ w ∈ u_ws cls T N, w ∈ jAll) (hc : vwCl[ci]? = some (cls, T, N)) (kf : Nat) (hk : kf < N) (hr : (T kf).1 = ref) (C : JC G X rm cc own nL) (hlink : Cond.fieldLinkNest own idx ref (T kf).2.1 (T kf).2.2.1 host ∈ jNest)
    (q0 : Nat) (he : w[q0]? = some (a, .inr (ci, fs))) (hv : fs[kf]? = some v) (d : decode cc pc = .ok (.getfield idx, 3)) (kk : JW G X k n w (pc + 3) L (v :: rest)) : JW G X k n w pc L (.ref a :: rest) := by
  obtain ⟨p, l, e, R, s, m, args, below, meth, c, Q, A⟩ := X
  obtain ⟨hx, hb, hml, hown, hts, hnw, hK, hlk, hA, hR⟩ := C
  intro H locs ls hP hD hS hl
  exact va_getN hx hb hts hin hown hK hP q0 he hc kf hk (va_Nw.use (jNest_on hlink) (hnw _ hlink)) (fun x h => by rw [← hr]; exact h) hv d (kk H locs ls hP hD hS hl)
theorem jw_putN {ref cls host : String} {T : u_T} {N ci idx : Nat} {a : Nat} {fs : List Value} {v : Value} {ty0 : Nat → FieldType} {ty : FieldType} (hin : ∀ w ∈ u_ws cls T N, w ∈ jAll) (hty : ∀ k, k < N → parseFieldDescriptor (T k).2.2.1 = some (ty0 k)) (hnm : ∀ a, a < N → ∀ b, b < N → a ≠ b → (T a).2.1 ≠ (T b).2.1) (hc : vwCl[ci]? = some (cls, T, N)) (kf : Nat) (hk : kf < N) (hr : (T kf).1 = ref) (hfin : (T kf).2.2.2 = false) (hd : parseFieldDescriptor (T kf).2.2.1 = some ty) (C : JC G X rm cc own nL) (hlink : Cond.fieldLinkNest own idx ref (T kf).2.1 (T kf).2.2.1 host ∈ jNest)
    (q0 : Nat) (he : w[q0]? = some (a, .inr (ci, fs))) (hn : narrow ty v = v) (hfit : fits ty v = true) (hl : kf < fs.length) (d : decode cc pc = .ok (.putfield idx, 3)) (kk : JW G X k n (w.set q0 (a, .inr (ci, fs.set kf v))) (pc + 3) L rest) : JW G X k n w pc L (v :: .ref a :: rest) := by
  obtain ⟨p, l, e, R, s, m, args, below, meth, c, Q, A⟩ := X
  obtain ⟨hx, hb, hml, hown, hts, hnw, hK, hlk, hA, hR⟩ := C
  intro H locs ls hP hD hS hl2
  exact va_putN hx hb hts hin ty0 hty hnm hown hK hP hD hS q0 he hc kf hk (va_Nw.use (jNest_on hlink) (hnw _ hlink)) (fun x h => by rw [← hr]; exact h) hfin hd hn hfit hl d (fun H1 locs1 hP1 hD1 hS1 => kk H1 locs1 ls hP1 hD1 hS1 hl2)
theorem jw_iald {a N : Nat} {f : Nat → Int} {i : Int} (C : JC G X rm cc own nL) (q0 : Nat) (he : w[q0]? = some (a, .inl (G.2 0, N, .inl (jiI f)))) (j : Nat) (hj : i = (j : Int)) (hn : j < N) (hN : N < 1000000) (d : decode cc pc = .ok (.iaload, 1)) (kk : JW G X k n w (pc + 1) L (.int (iI (f j)) :: rest)) : JW G X k n w (pc) L (.int (iI i) :: .ref a :: rest) := by
  obtain ⟨p, l, e, R, s, m, args, below, meth, c, Q, A⟩ := X
  obtain ⟨hx, hb, hml, hown, hts, hnw, hK, hlk, hA, hR⟩ := C
  intro H locs ls hP hD hS hl
  subst hj
  refine va_iald hx hb hK hP q0 0 he rfl (iI_in hn hN) d ?_
  rw [iI_clamp (Nat.lt_trans hn hN)]
  exact kk H locs ls hP hD hS hl
theorem jw_iald_r {a N : Nat} {f : Nat → Int32} {i : Int} (C : JC G X rm cc own nL) (q0 : Nat) (he : w[q0]? = some (a, .inl (G.2 0, N, .inl (f)))) (j : Nat) (hj : i = (j : Int)) (hn : j < N) (hN : N < 1000000) (d : decode cc pc = .ok (.iaload, 1)) (kk : JW G X k n w (pc + 1) L (.int (f j) :: rest)) : JW G X k n w (pc) L (.int (iI i) :: .ref a :: rest) := by
  obtain ⟨p, l, e, R, s, m, args, below, meth, c, Q, A⟩ := X
  obtain ⟨hx, hb, hml, hown, hts, hnw, hK, hlk, hA, hR⟩ := C
  intro H locs ls hP hD hS hl
  subst hj
  refine va_iald hx hb hK hP q0 0 he rfl (iI_in hn hN) d ?_
  rw [iI_clamp (Nat.lt_trans hn hN)]
  exact kk H locs ls hP hD hS hl
theorem jw_zald {a N : Nat} {f : Nat → Bool} {i : Int} (C : JC G X rm cc own nL) (q0 : Nat) (he : w[q0]? = some (a, .inl (G.2 1, N, .inl (jbF f)))) (j : Nat) (hj : i = (j : Int)) (hn : j < N) (hN : N < 1000000) (d : decode cc pc = .ok (.baload, 1)) (kk : JW G X k n w (pc + 1) L (.int (jb (f j)) :: rest)) : JW G X k n w (pc) L (.int (iI i) :: .ref a :: rest) := by
  obtain ⟨p, l, e, R, s, m, args, below, meth, c, Q, A⟩ := X
  obtain ⟨hx, hb, hml, hown, hts, hnw, hK, hlk, hA, hR⟩ := C
  intro H locs ls hP hD hS hl
  subst hj
  refine va_zald hx hb hK hP q0 1 he rfl (iI_in hn hN) d ?_
  rw [iI_clamp (Nat.lt_trans hn hN)]
  exact kk H locs ls hP hD hS hl
theorem jw_iast {a N : Nat} {f : Nat → Int} {i : Int} {x : Int} (C : JC G X rm cc own nL) (q0 : Nat) (he : w[q0]? = some (a, .inl (G.2 0, N, .inl (jiI f)))) (j : Nat) (hj : i = (j : Int)) (hn : j < N) (hN : N < 1000000) (d : decode cc pc = .ok (.iastore, 1)) (kk : JW G X k n (w.set q0 (a, .inl (G.2 0, N, .inl (jiI (updf f j x))))) (pc + 1) L (rest)) : JW G X k n w (pc) L (.int (iI x) :: .int (iI i) :: .ref a :: rest) := by
  obtain ⟨p, l, e, R, s, m, args, below, meth, c, Q, A⟩ := X
  obtain ⟨hx, hb, hml, hown, hts, hnw, hK, hlk, hA, hR⟩ := C
  intro H locs ls hP hD hS hl
  subst hj
  refine va_iast hx hb hK hP hD hS q0 0 he rfl (iI_in hn hN) d (fun H1 locs1 hP1 hD1 hS1 => ?_)
  rw [iI_clamp (Nat.lt_trans hn hN), jiI_upd] at hP1 hD1
  exact kk H1 locs1 ls hP1 hD1 hS1 hl
theorem jw_iast_r {a N : Nat} {f : Nat → Int32} {i : Int} {x : Int32} (C : JC G X rm cc own nL) (q0 : Nat) (he : w[q0]? = some (a, .inl (G.2 0, N, .inl (f)))) (j : Nat) (hj : i = (j : Int)) (hn : j < N) (hN : N < 1000000) (d : decode cc pc = .ok (.iastore, 1)) (kk : JW G X k n (w.set q0 (a, .inl (G.2 0, N, .inl (updf f j x)))) (pc + 1) L (rest)) : JW G X k n w (pc) L (.int (x) :: .int (iI i) :: .ref a :: rest) := by
  obtain ⟨p, l, e, R, s, m, args, below, meth, c, Q, A⟩ := X
  obtain ⟨hx, hb, hml, hown, hts, hnw, hK, hlk, hA, hR⟩ := C
  intro H locs ls hP hD hS hl
  subst hj
  refine va_iast hx hb hK hP hD hS q0 0 he rfl (iI_in hn hN) d (fun H1 locs1 hP1 hD1 hS1 => ?_)
  rw [iI_clamp (Nat.lt_trans hn hN), raw_upd] at hP1 hD1
  exact kk H1 locs1 ls hP1 hD1 hS1 hl
theorem jw_zast {a N : Nat} {f : Nat → Bool} {i : Int} {x : Bool} (C : JC G X rm cc own nL) (q0 : Nat) (he : w[q0]? = some (a, .inl (G.2 1, N, .inl (jbF f)))) (j : Nat) (hj : i = (j : Int)) (hn : j < N) (hN : N < 1000000) (d : decode cc pc = .ok (.bastore, 1)) (kk : JW G X k n (w.set q0 (a, .inl (G.2 1, N, .inl (jbF (updf f j x))))) (pc + 1) L (rest)) : JW G X k n w (pc) L (.int (jb x) :: .int (iI i) :: .ref a :: rest) := by
  obtain ⟨p, l, e, R, s, m, args, below, meth, c, Q, A⟩ := X
  obtain ⟨hx, hb, hml, hown, hts, hnw, hK, hlk, hA, hR⟩ := C
  intro H locs ls hP hD hS hl
  subst hj
  refine va_zast hx hb hK hP hD hS q0 1 he rfl (iI_in hn hN) d (fun H1 locs1 hP1 hD1 hS1 => ?_)
  rw [iI_clamp (Nat.lt_trans hn hN), jbF_upd] at hP1 hD1
  exact kk H1 locs1 ls hP1 hD1 hS1 hl
theorem jw_widen {k2 n2 : Nat} {st : List Value} (h1 : k ≤ k2) (h2 : n ≤ n2) (kk : JW G X k2 n2 w pc L st) : JW G X k n w pc L st := by
  obtain ⟨p, l, e, R, s, m, args, below, meth, c, Q, A⟩ := X
  intro H locs ls hP hD hS hl
  exact W.widen h1 h2 (kk H locs ls hP hD hS hl)
/-- fewer locals are known -/
theorem jw_forget {L2 : List (Option Value)} {st : List Value} (h1 : L2.length = L.length) (h2 : ∀ (j : Nat) (v : Value), L2[j]? = some (some v) → L[j]? = some (some v)) (kk : JW G X k n w pc L2 st) : JW G X k n w pc L st := by
  obtain ⟨p, l, e, R, s, m, args, below, meth, c, Q, A⟩ := X
  intro H locs ls hP hD hS hl
  refine kk H locs ls hP hD hS ⟨hl.1.trans h1.symm, hl.2.1, fun q hq => hl.2.2 q ?_⟩
  obtain ⟨j, h3, h4⟩ := (jl0_mem _ _ _).mp hq
  exact (jl0_mem _ _ _).mpr ⟨j, h2 j _ h3, h4⟩
/-- the world in another order, or a part of it -/
theorem jw_sub {w2 : va_W} {st : List Value} (is : List Nat) (hn : va_nd is = true) (hs : is.map (fun i => w[i]?) = w2.map some) (kk : JW G X k n w2 pc L st) : JW G X k n w pc L st := by
  obtain ⟨p, l, e, R, s, m, args, below, meth, c, Q, A⟩ := X
  intro H locs ls hP hD hS hl
  refine kk H locs ls (hP.sub is ?_) (hD.sub is hn hs) hS hl
  have h := congrArg (List.filterMap id) hs
  rw [List.filterMap_map, List.filterMap_map] at h
  simpa using h
end JR
end
section
/-! CONTRACTS over JW, and calls -/
def jrm (f loc mc ms : Nat) : Room := { frames := f, cells := mc, slots := ms, locals := loc }
def jPre (G : jG) (sz : Nat) (w : va_W) : State → Prop := fun U => U.heap.size = sz ∧ va_P G.1 vwCl w U.heap ∧ va_K G.1 vwCl (jT G) U ∧ (∀ z ∈ jNest, va_Nw z U) ∧ va_D (fun _ => True) w
def jPost (G : jG) (A : Nat → Prop) (w : va_W) : State → Prop := fun t => va_P G.1 vwCl w t.heap ∧ va_K G.1 vwCl (jT G) t ∧ va_D A w
theorem jPre_blind {G : jG} {sz : Nat} {w : va_W} {av : List Value} : FrameBlind (va_Pc av (jPre G sz w)) := by
  intro a U g mk q
  obtain ⟨q0, q1, qP, qK, qN, qD⟩ := q
  exact ⟨q0, q1, qP, va_K.moved (u := U) (U := U.calling g mk a) (Vm.Alike.refl U.vm) qK, fun z hz => va_Nw.same (jNest_on hz) (u := U) (U := U.calling g mk a) rfl (qN z hz), qD⟩
theorem jAll_in {ws : List Cond} (h : ∀ z ∈ ws, z ∈ jAll) : GoodIn jAll ws := fun z hz => ⟨h z hz, good_of_word (jAll_good z (h z hz))⟩
def jWd (y : MethodName) (Cn : String) (bytes : ByteArray) (maxL : Nat) (ret : Option FieldType) (np : Nat) : Prop :=
  Cond.instanceMethod y ∈ jAll ∧ Cond.selects Cn y y ∈ jAll ∧ Cond.initialized Cn ∈ jAll ∧ Cond.code y bytes maxL ret ∈ jAll ∧ (y.cls = Cn ∧ y.cls ≠ "java/lang/invoke/MethodHandle" ∧ y.cls ≠ "java/lang/invoke/VarHandle" ∧ (parseMethodDescriptor y.desc).map (fun d => d.parameters.length) = some np)
def jWs (y : MethodName) (bytes : ByteArray) (maxL : Nat) (ret : Option FieldType) (np : Nat) : Prop :=
  Cond.static y ∈ jAll ∧ Cond.initialized y.cls ∈ jAll ∧ Cond.code y bytes maxL ret ∈ jAll ∧ (y.cls ≠ "java/lang/invoke/MethodHandle" ∧ y.cls ≠ "java/lang/invoke/VarHandle" ∧ (parseMethodDescriptor y.desc).map (fun d => d.parameters.length) = some np)
def jWi (y : MethodName) (bytes : ByteArray) (maxL : Nat) (np : Nat) : Prop :=
  Cond.instanceMethod y ∈ jAll ∧ Cond.initialized y.cls ∈ jAll ∧ Cond.code y bytes maxL none ∈ jAll ∧ y.name = "<init>" ∧ (y.cls ≠ "java/lang/invoke/MethodHandle" ∧ y.cls ≠ "java/lang/invoke/VarHandle" ∧ (parseMethodDescriptor y.desc).map (fun d => d.parameters.length) = some np)
theorem jAll_code {y : MethodName} {bytes : ByteArray} {maxL : Nat} {ret : Option FieldType} (h : Cond.code y bytes maxL ret ∈ jAll) : ∀ z ∈ (Cond.code y bytes maxL ret :: jAll), z ∈ jAll := fun z hz => (List.mem_cons.mp hz).elim (fun e => e ▸ h) (fun h => h)
theorem j_part {w w0 : va_W} {isC : List Nat} (hC : isC.map (fun i => w[i]?) = w0.map some) : isC.filterMap (fun i => w[i]?) = w0 := by
  have h := congrArg (List.filterMap id) hC
  rw [List.filterMap_map, List.filterMap_map] at h
  simpa using h
theorem j_nd {A : Nat → Prop} {w w0 : va_W} {isC : List Nat} (hD : va_D A w) (hC : isC.map (fun i => w[i]?) = w0.map some) (hn : va_nd isC = true) : va_D (fun _ => True) w0 := (hD.sub isC hn hC).weaken (fun _ _ _ _ => trivial)
theorem j_rng (w : va_W) : (List.range w.length).map (fun i => w[i]?) = w.map some := by
  apply List.ext_getElem?
  intro i
  by_cases h : i < w.length
  · simp [h]
  · simp [h]
theorem j_nd_rng : ∀ (n : Nat), va_nd (List.range n) = true := by
  have key : ∀ l : List Nat, l.Nodup → va_nd l = true := by
    intro l
    induction l with
    | nil => intro _; rfl
    | cons a l ih =>
      intro h
      rw [List.nodup_cons] at h
      simp only [va_nd, Bool.and_eq_true, decide_eq_true_eq]
      exact ⟨h.1, ih h.2⟩
  exact fun n => key _ List.nodup_range
def CI (G : jG) (y : MethodName) (cc : ByteArray) (maxL : Nat) (rm : Room) (args : List Value) (w0 : va_W) {S : Type} (post : Int32 → S → Prop) (w1 : S → va_W) (mc ms : Nat) : Prop :=
  rm.cells = mc ∧ rm.slots = ms ∧ ∀ (l : Launch) (sz : Nat), Met l y (Cond.code y cc maxL (some .int) :: jAll) rm (va_Pc args (jPre G sz w0)) (va_Qi post (fun u => jPost G (va_A w0 sz) (w1 u)) (va_A w0 sz)) mc ms (va_A w0 sz)
theorem ci_intro {G : jG} {y : MethodName} {cc : ByteArray} {maxL f loc mc ms : Nat} {args : List Value} {w0 : va_W} {S : Type} {post : Int32 → S → Prop} {w1 : S → va_W} {own : String} (L0 : List (Option Value)) (hy : plainName y.cls = true) (hyo : y.cls = own) (hL : jl0 0 L0 = lv_args 0 args) (hLn : L0.length = maxL) (hsl : (lg_sl args).length ≤ maxL)
    (h : ∀ X : JX, JC G X (jrm f loc mc ms) cc own maxL → (∀ (pc : Nat) (L : List (Option Value)) (r : Int32) (u : S), decode cc pc = .ok (.ireturn, 1) → post r u → JW G X mc ms (w1 u) pc L [.int r]) → JW G X 0 0 w0 0 L0 []) : CI G y cc maxL (jrm f loc mc ms) args w0 post w1 mc ms := by
  refine ⟨rfl, rfl, fun l sz => ?_⟩
  refine Met.ofW (cc := cc) (maxL := maxL) (ret := (some .int)) hy rfl ?_
  intro p e s m args1 below meth c s₁ B hml hv
  obtain ⟨rfl, hsz, hP, hK, hN, hD0⟩ := hv
  have hx := B.exec
  have hb := B.bytes
  have hr := B.returns
  have hts := atoms_spec (ws := (Cond.code y cc maxL (some .int) :: jAll)) B.pre
  have hown : s.vm.findClass own = some m.cls := by rw [← hyo]; exact findClass_of_methodNamed B.named
  have hlocks := B.notSynchronized
  subst hsz
  have hD := hD0.self (sz := s.heap.size)
  have hA : ∀ q : Nat, s.heap.size ≤ q → va_A w0 s.heap.size q := fun q h => Or.inr h
  have hl := lv_entry args (n := maxL) hsl
  rw [lg_entry_eq]
  generalize (lg_sl args ++ List.replicate (maxL - (lg_sl args).length) Slot.unset).toArray = ls at hl ⊢
  rw [← hL] at hl
  have hl2 : lv_has ls L0.length (jl0 0 L0) := by rw [hLn]; exact hl
  have K := h (p, l, e, (jrm f loc mc ms), s, m, args.toArray, below, meth, c, MQ below (va_Qi post (fun u => jPost G (va_A w0 s.heap.size) (w1 u)) (va_A w0 s.heap.size)) args.toArray s mc ms (va_A w0 s.heap.size), va_A w0 s.heap.size) ⟨hx, hb, hml, hown, fun z hz => hts z (List.mem_cons_of_mem _ hz), hN, hK, hlocks, hA, rfl⟩ ?_
  · exact K s.heap [] ls hP hD va_S.rf hl2
  · intro pc L r u hd hp H locs ls hP hD hS hl
    exact W.iret hx hb hr (fun t ht hW => ⟨⟨r, u, rfl, hp, by rw [ht]; exact hP, va_K.moved hW.alike hK, hD⟩, hS.F ht⟩) hS.2.2 hd hlocks
def CV (G : jG) (y : MethodName) (cc : ByteArray) (maxL : Nat) (rm : Room) (args : List Value) (w0 : va_W) {S : Type} (post : S → Prop) (w1 : S → va_W) (mc ms : Nat) : Prop :=
  rm.cells = mc ∧ rm.slots = ms ∧ ∀ (l : Launch) (sz : Nat), Met l y (Cond.code y cc maxL none :: jAll) rm (va_Pc args (jPre G sz w0)) (va_Qv post (fun u => jPost G (va_A w0 sz) (w1 u)) (va_A w0 sz)) mc ms (va_A w0 sz)
theorem cv_intro {G : jG} {y : MethodName} {cc : ByteArray} {maxL f loc mc ms : Nat} {args : List Value} {w0 : va_W} {S : Type} {post : S → Prop} {w1 : S → va_W} {own : String} (L0 : List (Option Value)) (hy : plainName y.cls = true) (hyo : y.cls = own) (hL : jl0 0 L0 = lv_args 0 args) (hLn : L0.length = maxL) (hsl : (lg_sl args).length ≤ maxL)
    (h : ∀ X : JX, JC G X (jrm f loc mc ms) cc own maxL → (∀ (pc : Nat) (L : List (Option Value)) (u : S), decode cc pc = .ok (.return_, 1) → post u → JW G X mc ms (w1 u) pc L []) → JW G X 0 0 w0 0 L0 []) : CV G y cc maxL (jrm f loc mc ms) args w0 post w1 mc ms := by
  refine ⟨rfl, rfl, fun l sz => ?_⟩
  refine Met.ofW (cc := cc) (maxL := maxL) (ret := none) hy rfl ?_
  intro p e s m args1 below meth c s₁ B hml hv
  obtain ⟨rfl, hsz, hP, hK, hN, hD0⟩ := hv
  have hx := B.exec
  have hb := B.bytes
  have hr := B.returns
  have hts := atoms_spec (ws := (Cond.code y cc maxL none :: jAll)) B.pre
  have hown : s.vm.findClass own = some m.cls := by rw [← hyo]; exact findClass_of_methodNamed B.named
  have hlocks := B.notSynchronized
  subst hsz
  have hD := hD0.self (sz := s.heap.size)
  have hA : ∀ q : Nat, s.heap.size ≤ q → va_A w0 s.heap.size q := fun q h => Or.inr h
  have hl := lv_entry args (n := maxL) hsl
  rw [lg_entry_eq]
  generalize (lg_sl args ++ List.replicate (maxL - (lg_sl args).length) Slot.unset).toArray = ls at hl ⊢
  rw [← hL] at hl
  have hl2 : lv_has ls L0.length (jl0 0 L0) := by rw [hLn]; exact hl
  have K := h (p, l, e, (jrm f loc mc ms), s, m, args.toArray, below, meth, c, MQ below (va_Qv post (fun u => jPost G (va_A w0 s.heap.size) (w1 u)) (va_A w0 s.heap.size)) args.toArray s mc ms (va_A w0 s.heap.size), va_A w0 s.heap.size) ⟨hx, hb, hml, hown, fun z hz => hts z (List.mem_cons_of_mem _ hz), hN, hK, hlocks, hA, rfl⟩ ?_
  · exact K s.heap [] ls hP hD va_S.rf hl2
  · intro pc L u hd hp H locs ls hP hD hS hl
    exact W.vret hx hb hr (fun t ht hW => ⟨⟨u, rfl, hp, by rw [ht]; exact hP, va_K.moved hW.alike hK, hD⟩, hS.F ht⟩) hS.2.2 hd hlocks
def CL (G : jG) (y : MethodName) (cc : ByteArray) (maxL : Nat) (rm : Room) (args : List Value) (w0 : va_W) {S : Type} (post : Int64 → S → Prop) (w1 : S → va_W) (mc ms : Nat) : Prop :=
  rm.cells = mc ∧ rm.slots = ms ∧ ∀ (l : Launch) (sz : Nat), Met l y (Cond.code y cc maxL (some .long) :: jAll) rm (va_Pc args (jPre G sz w0)) (va_Ql post (fun u => jPost G (va_A w0 sz) (w1 u)) (va_A w0 sz)) mc ms (va_A w0 sz)
theorem cl_intro {G : jG} {y : MethodName} {cc : ByteArray} {maxL f loc mc ms : Nat} {args : List Value} {w0 : va_W} {S : Type} {post : Int64 → S → Prop} {w1 : S → va_W} {own : String} (L0 : List (Option Value)) (hy : plainName y.cls = true) (hyo : y.cls = own) (hL : jl0 0 L0 = lv_args 0 args) (hLn : L0.length = maxL) (hsl : (lg_sl args).length ≤ maxL)
    (h : ∀ X : JX, JC G X (jrm f loc mc ms) cc own maxL → (∀ (pc : Nat) (L : List (Option Value)) (r : Int64) (u : S), decode cc pc = .ok (.lreturn, 1) → post r u → JW G X mc ms (w1 u) pc L [.long r]) → JW G X 0 0 w0 0 L0 []) : CL G y cc maxL (jrm f loc mc ms) args w0 post w1 mc ms := by
  refine ⟨rfl, rfl, fun l sz => ?_⟩
  refine Met.ofW (cc := cc) (maxL := maxL) (ret := (some .long)) hy rfl ?_
  intro p e s m args1 below meth c s₁ B hml hv
  obtain ⟨rfl, hsz, hP, hK, hN, hD0⟩ := hv
  have hx := B.exec
  have hb := B.bytes
  have hr := B.returns
  have hts := atoms_spec (ws := (Cond.code y cc maxL (some .long) :: jAll)) B.pre
  have hown : s.vm.findClass own = some m.cls := by rw [← hyo]; exact findClass_of_methodNamed B.named
  have hlocks := B.notSynchronized
  subst hsz
  have hD := hD0.self (sz := s.heap.size)
  have hA : ∀ q : Nat, s.heap.size ≤ q → va_A w0 s.heap.size q := fun q h => Or.inr h
  have hl := lv_entry args (n := maxL) hsl
  rw [lg_entry_eq]
  generalize (lg_sl args ++ List.replicate (maxL - (lg_sl args).length) Slot.unset).toArray = ls at hl ⊢
  rw [← hL] at hl
  have hl2 : lv_has ls L0.length (jl0 0 L0) := by rw [hLn]; exact hl
  have K := h (p, l, e, (jrm f loc mc ms), s, m, args.toArray, below, meth, c, MQ below (va_Ql post (fun u => jPost G (va_A w0 s.heap.size) (w1 u)) (va_A w0 s.heap.size)) args.toArray s mc ms (va_A w0 s.heap.size), va_A w0 s.heap.size) ⟨hx, hb, hml, hown, fun z hz => hts z (List.mem_cons_of_mem _ hz), hN, hK, hlocks, hA, rfl⟩ ?_
  · exact K s.heap [] ls hP hD va_S.rf hl2
  · intro pc L r u hd hp H locs ls hP hD hS hl
    exact W.lret hx hb hr (fun t ht hW => ⟨⟨r, u, rfl, hp, by rw [ht]; exact hP, va_K.moved hW.alike hK, hD⟩, hS.F ht⟩) hS.2.2 hd hlocks
def CD (G : jG) (y : MethodName) (cc : ByteArray) (maxL : Nat) (rm : Room) (args : List Value) (w0 : va_W) {S : Type} (post : UInt64 → S → Prop) (w1 : S → va_W) (mc ms : Nat) : Prop :=
  rm.cells = mc ∧ rm.slots = ms ∧ ∀ (l : Launch) (sz : Nat), Met l y (Cond.code y cc maxL (some .double) :: jAll) rm (va_Pc args (jPre G sz w0)) (va_Qd post (fun u => jPost G (va_A w0 sz) (w1 u)) (va_A w0 sz)) mc ms (va_A w0 sz)
theorem cd_intro {G : jG} {y : MethodName} {cc : ByteArray} {maxL f loc mc ms : Nat} {args : List Value} {w0 : va_W} {S : Type} {post : UInt64 → S → Prop} {w1 : S → va_W} {own : String} (L0 : List (Option Value)) (hy : plainName y.cls = true) (hyo : y.cls = own) (hL : jl0 0 L0 = lv_args 0 args) (hLn : L0.length = maxL) (hsl : (lg_sl args).length ≤ maxL)
    (h : ∀ X : JX, JC G X (jrm f loc mc ms) cc own maxL → (∀ (pc : Nat) (L : List (Option Value)) (r : UInt64) (u : S), decode cc pc = .ok (.dreturn, 1) → post r u → JW G X mc ms (w1 u) pc L [.double r]) → JW G X 0 0 w0 0 L0 []) : CD G y cc maxL (jrm f loc mc ms) args w0 post w1 mc ms := by
  refine ⟨rfl, rfl, fun l sz => ?_⟩
  refine Met.ofW (cc := cc) (maxL := maxL) (ret := (some .double)) hy rfl ?_
  intro p e s m args1 below meth c s₁ B hml hv
  obtain ⟨rfl, hsz, hP, hK, hN, hD0⟩ := hv
  have hx := B.exec
  have hb := B.bytes
  have hr := B.returns
  have hts := atoms_spec (ws := (Cond.code y cc maxL (some .double) :: jAll)) B.pre
  have hown : s.vm.findClass own = some m.cls := by rw [← hyo]; exact findClass_of_methodNamed B.named
  have hlocks := B.notSynchronized
  subst hsz
  have hD := hD0.self (sz := s.heap.size)
  have hA : ∀ q : Nat, s.heap.size ≤ q → va_A w0 s.heap.size q := fun q h => Or.inr h
  have hl := lv_entry args (n := maxL) hsl
  rw [lg_entry_eq]
  generalize (lg_sl args ++ List.replicate (maxL - (lg_sl args).length) Slot.unset).toArray = ls at hl ⊢
  rw [← hL] at hl
  have hl2 : lv_has ls L0.length (jl0 0 L0) := by rw [hLn]; exact hl
  have K := h (p, l, e, (jrm f loc mc ms), s, m, args.toArray, below, meth, c, MQ below (va_Qd post (fun u => jPost G (va_A w0 s.heap.size) (w1 u)) (va_A w0 s.heap.size)) args.toArray s mc ms (va_A w0 s.heap.size), va_A w0 s.heap.size) ⟨hx, hb, hml, hown, fun z hz => hts z (List.mem_cons_of_mem _ hz), hN, hK, hlocks, hA, rfl⟩ ?_
  · exact K s.heap [] ls hP hD va_S.rf hl2
  · intro pc L r u hd hp H locs ls hP hD hS hl
    exact W.dret hx hb hr (fun t ht hW => ⟨⟨r, u, rfl, hp, by rw [ht]; exact hP, va_K.moved hW.alike hK, hD⟩, hS.F ht⟩) hS.2.2 hd hlocks
def CZ (G : jG) (y : MethodName) (cc : ByteArray) (maxL : Nat) (rm : Room) (args : List Value) (w0 : va_W) {S : Type} (post : Bool → S → Prop) (w1 : S → va_W) (mc ms : Nat) : Prop :=
  rm.cells = mc ∧ rm.slots = ms ∧ ∀ (l : Launch) (sz : Nat), Met l y (Cond.code y cc maxL (some .boolean) :: jAll) rm (va_Pc args (jPre G sz w0)) (va_Qi (fun r u => ∃ z : Bool, r = jb z ∧ post z u) (fun u => jPost G (va_A w0 sz) (w1 u)) (va_A w0 sz)) mc ms (va_A w0 sz)
theorem cz_intro {G : jG} {y : MethodName} {cc : ByteArray} {maxL f loc mc ms : Nat} {args : List Value} {w0 : va_W} {S : Type} {post : Bool → S → Prop} {w1 : S → va_W} {own : String} (L0 : List (Option Value)) (hy : plainName y.cls = true) (hyo : y.cls = own) (hL : jl0 0 L0 = lv_args 0 args) (hLn : L0.length = maxL) (hsl : (lg_sl args).length ≤ maxL)
    (h : ∀ X : JX, JC G X (jrm f loc mc ms) cc own maxL → (∀ (pc : Nat) (L : List (Option Value)) (r : Bool) (u : S), decode cc pc = .ok (.ireturn, 1) → post r u → JW G X mc ms (w1 u) pc L [.int (jb r)]) → JW G X 0 0 w0 0 L0 []) : CZ G y cc maxL (jrm f loc mc ms) args w0 post w1 mc ms := by
  refine ⟨rfl, rfl, fun l sz => ?_⟩
  refine Met.ofW (cc := cc) (maxL := maxL) (ret := (some .boolean)) hy rfl ?_
  intro p e s m args1 below meth c s₁ B hml hv
  obtain ⟨rfl, hsz, hP, hK, hN, hD0⟩ := hv
  have hx := B.exec
  have hb := B.bytes
  have hr := B.returns
  have hts := atoms_spec (ws := (Cond.code y cc maxL (some .boolean) :: jAll)) B.pre
  have hown : s.vm.findClass own = some m.cls := by rw [← hyo]; exact findClass_of_methodNamed B.named
  have hlocks := B.notSynchronized
  subst hsz
  have hD := hD0.self (sz := s.heap.size)
  have hA : ∀ q : Nat, s.heap.size ≤ q → va_A w0 s.heap.size q := fun q h => Or.inr h
  have hl := lv_entry args (n := maxL) hsl
  rw [lg_entry_eq]
  generalize (lg_sl args ++ List.replicate (maxL - (lg_sl args).length) Slot.unset).toArray = ls at hl ⊢
  rw [← hL] at hl
  have hl2 : lv_has ls L0.length (jl0 0 L0) := by rw [hLn]; exact hl
  have K := h (p, l, e, (jrm f loc mc ms), s, m, args.toArray, below, meth, c, MQ below (va_Qi (fun r u => ∃ z : Bool, r = jb z ∧ post z u) (fun u => jPost G (va_A w0 s.heap.size) (w1 u)) (va_A w0 s.heap.size)) args.toArray s mc ms (va_A w0 s.heap.size), va_A w0 s.heap.size) ⟨hx, hb, hml, hown, fun z hz => hts z (List.mem_cons_of_mem _ hz), hN, hK, hlocks, hA, rfl⟩ ?_
  · exact K s.heap [] ls hP hD va_S.rf hl2
  · intro pc L r u hd hp H locs ls hP hD hS hl
    exact W.zret (ty := .boolean) hx hb hr (by cases r <;> rfl) (fun t ht hW => ⟨⟨jb r, u, rfl, ⟨r, rfl, hp⟩, by rw [ht]; exact hP, va_K.moved hW.alike hK, hD⟩, hS.F ht⟩) hS.2.2 hd hlocks
section JCALL
variable {G : jG} {X : JX} {k n pc : Nat} {w : va_W} {L : List (Option Value)} {rest st0 : List Value} {rm : Room} {cc : ByteArray} {own : String} {nL : Nat} {y : MethodName} {bytes : ByteArray} {maxL f loc np idx b q0 ci N : Nat} {As : List Value} {w0 wr : va_W} {S : Type} {w1 : S → va_W} {Cn : String} {T : u_T} {fs : List Value}
theorem jw_sV_I {post : Int32 → S → Prop} (C : JC G X rm cc own nL) (ct : CI G y bytes maxL (jrm f loc 0 0) (.ref b :: As) w0 post w1 0 0) (wd : jWd y Cn bytes maxL (some .int) np) (link : Cond.methodLink own idx y ∈ jAll) (q0 : Nat) (hq : w[q0]? = some (b, .inr (ci, fs))) (hci : vwCl[ci]? = some (Cn, T, N))
    (isC isR : List Nat) (hC : isC.map (fun i => w[i]?) = w0.map some) (hR : isR.map (fun i => w[i]?) = wr.map some) (hnC : va_nd isC = true) (hn : va_nd isR = true) (hdis : ∀ i ∈ isR, i ∉ isC)
    (hAs : As.length = np) (hst : st0 = As.reverse ++ .ref b :: rest) (hrest : (rest.map fun v => v.category).sum ≤ 8) (hrm : f + 1 ≤ rm.frames ∧ 8 + (maxL + 11) + loc ≤ rm.locals) (hk : k ≤ rm.cells ∧ n ≤ rm.slots) (d : decode cc pc = .ok (.invokevirtual idx, 3)) (hL : L.length = nL)
    (kk : ∀ (r : Int32) (u : S), post r u → JW G X k n (wr ++ w1 u) (pc + 3) L (.int r :: rest)) : JW G X k n w pc L st0 := by
  obtain ⟨p, l, e, R, s, m, args, below, meth, c, Q, A⟩ := X
  obtain ⟨hx, hb, hml, hown, hts, hnw, hK, hlk, hA, hR⟩ := C
  subst hR
  intro H locs ls hP hD hS hl
  obtain ⟨wd1, wd2, wd3, wd4, wd5⟩ := wd
  have hPc := hP.sub isC (j_part hC)
  have hDc := j_nd hD hC hnC
  have hFc := va_free hD hS hA isC hC
  refine va_calli (va_runV (As := As) (rest := rest) ⟨hx, hb, hml, hown, hts⟩ (ct.2.2 l H.size) (cwV np hts (jAll_in (fun z hz => ?_)) rfl rfl rfl wd5 hrm) ⟨jPre_blind, va_recv hK hP hci hq, fun U hU hW => ⟨rfl, by rw [hU], by rw [hU]; exact hPc, va_K.moved hW.alike hK, fun z hz => jNest_warm hz hW (hnw z hz), hDc⟩⟩ rfl hAs (hl.1.trans hL) hst (lv_room hrest) d hk) hS (fun q _ h => hFc q h) hFc (fun r u t H1 locs1 ht hvm hw hB hz1 hk1 hS1 => ?_)
  · rcases List.mem_append.mp hz with h | h
    · simp only [List.mem_cons, List.not_mem_nil, or_false] at h
      rcases h with rfl | rfl | rfl | rfl
      · exact link
      · exact wd1
      · exact wd2
      · exact wd3
    · exact jAll_code wd4 z h
  · obtain ⟨hP1, hK1, hD1⟩ := hB
    rw [ht] at hP1
    obtain ⟨hP2, hD2⟩ := va_join hP hD isC isR hC hR hn hdis hk1 hFc hP1 hD1
    exact kk r u hw H1 locs1 ls hP2 hD2 hS1 hl
theorem jw_V_I {post : Int32 → S → Prop} (C : JC G X rm cc own nL) (ct : CI G y bytes maxL (jrm f loc 0 0) (.ref b :: As) w post w1 0 0) (wd : jWd y Cn bytes maxL (some .int) np) (link : Cond.methodLink own idx y ∈ jAll) (q0 : Nat) (hq : w[q0]? = some (b, .inr (ci, fs))) (hci : vwCl[ci]? = some (Cn, T, N))
    (hAs : As.length = np) (hst : st0 = As.reverse ++ .ref b :: rest) (hrest : (rest.map fun v => v.category).sum ≤ 8) (hrm : f + 1 ≤ rm.frames ∧ 8 + (maxL + 11) + loc ≤ rm.locals) (hk : k ≤ rm.cells ∧ n ≤ rm.slots) (d : decode cc pc = .ok (.invokevirtual idx, 3)) (hL : L.length = nL)
    (kk : ∀ (r : Int32) (u : S), post r u → JW G X k n (w1 u) (pc + 3) L (.int r :: rest)) : JW G X k n w pc L st0 :=
  jw_sV_I (wr := []) C ct wd link q0 hq hci (List.range w.length) [] (j_rng w) rfl (j_nd_rng _) rfl (fun _ h => by cases h) hAs hst hrest hrm hk d hL kk
theorem jw_sS_I {post : Int32 → S → Prop} (C : JC G X rm cc own nL) (ct : CI G y bytes maxL (jrm f loc 0 0) As w0 post w1 0 0) (wd : jWs y bytes maxL (some .int) np) (link : Cond.methodLink own idx y ∈ jAll)
    (isC isR : List Nat) (hC : isC.map (fun i => w[i]?) = w0.map some) (hR : isR.map (fun i => w[i]?) = wr.map some) (hnC : va_nd isC = true) (hn : va_nd isR = true) (hdis : ∀ i ∈ isR, i ∉ isC)
    (hAs : As.length = np) (hst : st0 = As.reverse ++ rest) (hrest : (rest.map fun v => v.category).sum ≤ 8) (hrm : f + 1 ≤ rm.frames ∧ 8 + (maxL + 11) + loc ≤ rm.locals) (hk : k ≤ rm.cells ∧ n ≤ rm.slots) (d : decode cc pc = .ok (.invokestatic idx, 3)) (hL : L.length = nL)
    (kk : ∀ (r : Int32) (u : S), post r u → JW G X k n (wr ++ w1 u) (pc + 3) L (.int r :: rest)) : JW G X k n w pc L st0 := by
  obtain ⟨p, l, e, R, s, m, args, below, meth, c, Q, A⟩ := X
  obtain ⟨hx, hb, hml, hown, hts, hnw, hK, hlk, hA, hR⟩ := C
  subst hR
  intro H locs ls hP hD hS hl
  obtain ⟨wd1, wd2, wd3, wd5⟩ := wd
  have hPc := hP.sub isC (j_part hC)
  have hDc := j_nd hD hC hnC
  have hFc := va_free hD hS hA isC hC
  refine va_calli (va_runS (As := As) (rest := rest) ⟨hx, hb, hml, hown, hts⟩ (ct.2.2 l H.size) (va_cwS np hts (jAll_in (fun z hz => ?_)) rfl rfl rfl wd5 hrm) ⟨jPre_blind, fun U hU hW => ⟨rfl, by rw [hU], by rw [hU]; exact hPc, va_K.moved hW.alike hK, fun z hz => jNest_warm hz hW (hnw z hz), hDc⟩⟩ rfl hAs (hl.1.trans hL) hst (lv_room hrest) d hk) hS (fun q _ h => hFc q h) hFc (fun r u t H1 locs1 ht hvm hw hB hz1 hk1 hS1 => ?_)
  · rcases List.mem_append.mp hz with h | h
    · simp only [List.mem_cons, List.not_mem_nil, or_false] at h
      rcases h with rfl | rfl | rfl
      · exact link
      · exact wd1
      · exact wd2
    · exact jAll_code wd3 z h
  · obtain ⟨hP1, hK1, hD1⟩ := hB
    rw [ht] at hP1
    obtain ⟨hP2, hD2⟩ := va_join hP hD isC isR hC hR hn hdis hk1 hFc hP1 hD1
    exact kk r u hw H1 locs1 ls hP2 hD2 hS1 hl
theorem jw_S0_I {post : Int32 → S → Prop} (C : JC G X rm cc own nL) (ct : CI G y bytes maxL (jrm f loc 0 0) As [] post (fun _ : S => []) 0 0) (wd : jWs y bytes maxL (some .int) np) (link : Cond.methodLink own idx y ∈ jAll)
    (hAs : As.length = np) (hst : st0 = As.reverse ++ rest) (hrest : (rest.map fun v => v.category).sum ≤ 8) (hrm : f + 1 ≤ rm.frames ∧ 8 + (maxL + 11) + loc ≤ rm.locals) (hk : k ≤ rm.cells ∧ n ≤ rm.slots) (d : decode cc pc = .ok (.invokestatic idx, 3)) (hL : L.length = nL)
    (kk : ∀ (r : Int32) (u : S), post r u → JW G X k n w (pc + 3) L (.int r :: rest)) : JW G X k n w pc L st0 :=
  jw_sS_I (wr := w) C ct wd link [] (List.range w.length) rfl (j_rng w) rfl (j_nd_rng _) (fun _ _ h => by cases h) hAs hst hrest hrm hk d hL (by simpa only [List.append_nil] using kk)
theorem jw_sSN_I {post : Int32 → S → Prop} {host : String} (C : JC G X rm cc own nL) (ct : CI G y bytes maxL (jrm f loc 0 0) As w0 post w1 0 0) (wd : jWs y bytes maxL (some .int) np) (link : Cond.methodLinkNest own idx y host ∈ jNest)
    (isC isR : List Nat) (hC : isC.map (fun i => w[i]?) = w0.map some) (hR : isR.map (fun i => w[i]?) = wr.map some) (hnC : va_nd isC = true) (hn : va_nd isR = true) (hdis : ∀ i ∈ isR, i ∉ isC)
    (hAs : As.length = np) (hst : st0 = As.reverse ++ rest) (hrest : (rest.map fun v => v.category).sum ≤ 8) (hrm : f + 1 ≤ rm.frames ∧ 8 + (maxL + 11) + loc ≤ rm.locals) (hk : k ≤ rm.cells ∧ n ≤ rm.slots) (d : decode cc pc = .ok (.invokestatic idx, 3)) (hL : L.length = nL)
    (kk : ∀ (r : Int32) (u : S), post r u → JW G X k n (wr ++ w1 u) (pc + 3) L (.int r :: rest)) : JW G X k n w pc L st0 := by
  obtain ⟨p, l, e, R, s, m, args, below, meth, c, Q, A⟩ := X
  obtain ⟨hx, hb, hml, hown, hts, hnw, hK, hlk, hA, hR⟩ := C
  subst hR
  intro H locs ls hP hD hS hl
  obtain ⟨wd1, wd2, wd3, wd5⟩ := wd
  have hPc := hP.sub isC (j_part hC)
  have hDc := j_nd hD hC hnC
  have hFc := va_free hD hS hA isC hC
  refine va_calli (va_runSN (As := As) (rest := rest) ⟨hx, hb, hml, hown, hts⟩ (ct.2.2 l H.size) ⟨va_cnB np hts (jAll_in (jAll_code wd3)) rfl rfl rfl (hnw _ link) (hts _ wd2) wd5 hrm, hts _ wd1, trivial⟩ ⟨jPre_blind, fun U hU hW => ⟨rfl, by rw [hU], by rw [hU]; exact hPc, va_K.moved hW.alike hK, fun z hz => jNest_warm hz hW (hnw z hz), hDc⟩⟩ rfl hAs (hl.1.trans hL) hst (lv_room hrest) d hk) hS (fun q _ h => hFc q h) hFc (fun r u t H1 locs1 ht hvm hw hB hz1 hk1 hS1 => ?_)
  · obtain ⟨hP1, hK1, hD1⟩ := hB
    rw [ht] at hP1
    obtain ⟨hP2, hD2⟩ := va_join hP hD isC isR hC hR hn hdis hk1 hFc hP1 hD1
    exact kk r u hw H1 locs1 ls hP2 hD2 hS1 hl
theorem jw_SN0_I {post : Int32 → S → Prop} {host : String} (C : JC G X rm cc own nL) (ct : CI G y bytes maxL (jrm f loc 0 0) As [] post (fun _ : S => []) 0 0) (wd : jWs y bytes maxL (some .int) np) (link : Cond.methodLinkNest own idx y host ∈ jNest)
    (hAs : As.length = np) (hst : st0 = As.reverse ++ rest) (hrest : (rest.map fun v => v.category).sum ≤ 8) (hrm : f + 1 ≤ rm.frames ∧ 8 + (maxL + 11) + loc ≤ rm.locals) (hk : k ≤ rm.cells ∧ n ≤ rm.slots) (d : decode cc pc = .ok (.invokestatic idx, 3)) (hL : L.length = nL)
    (kk : ∀ (r : Int32) (u : S), post r u → JW G X k n w (pc + 3) L (.int r :: rest)) : JW G X k n w pc L st0 :=
  jw_sSN_I (wr := w) C ct wd link [] (List.range w.length) rfl (j_rng w) rfl (j_nd_rng _) (fun _ _ h => by cases h) hAs hst hrest hrm hk d hL (by simpa only [List.append_nil] using kk)
theorem jw_sV_V {post : S → Prop} (C : JC G X rm cc own nL) (ct : CV G y bytes maxL (jrm f loc 0 0) (.ref b :: As) w0 post w1 0 0) (wd : jWd y Cn bytes maxL none np) (link : Cond.methodLink own idx y ∈ jAll) (q0 : Nat) (hq : w[q0]? = some (b, .inr (ci, fs))) (hci : vwCl[ci]? = some (Cn, T, N))
    (isC isR : List Nat) (hC : isC.map (fun i => w[i]?) = w0.map some) (hR : isR.map (fun i => w[i]?) = wr.map some) (hnC : va_nd isC = true) (hn : va_nd isR = true) (hdis : ∀ i ∈ isR, i ∉ isC)
    (hAs : As.length = np) (hst : st0 = As.reverse ++ .ref b :: rest) (hrest : (rest.map fun v => v.category).sum ≤ 8) (hrm : f + 1 ≤ rm.frames ∧ 8 + (maxL + 11) + loc ≤ rm.locals) (hk : k ≤ rm.cells ∧ n ≤ rm.slots) (d : decode cc pc = .ok (.invokevirtual idx, 3)) (hL : L.length = nL)
    (kk : ∀ (u : S), post u → JW G X k n (wr ++ w1 u) (pc + 3) L rest) : JW G X k n w pc L st0 := by
  obtain ⟨p, l, e, R, s, m, args, below, meth, c, Q, A⟩ := X
  obtain ⟨hx, hb, hml, hown, hts, hnw, hK, hlk, hA, hR⟩ := C
  subst hR
  intro H locs ls hP hD hS hl
  obtain ⟨wd1, wd2, wd3, wd4, wd5⟩ := wd
  have hPc := hP.sub isC (j_part hC)
  have hDc := j_nd hD hC hnC
  have hFc := va_free hD hS hA isC hC
  refine va_callv (va_runV (As := As) (rest := rest) ⟨hx, hb, hml, hown, hts⟩ (ct.2.2 l H.size) (cwV np hts (jAll_in (fun z hz => ?_)) rfl rfl rfl wd5 hrm) ⟨jPre_blind, va_recv hK hP hci hq, fun U hU hW => ⟨rfl, by rw [hU], by rw [hU]; exact hPc, va_K.moved hW.alike hK, fun z hz => jNest_warm hz hW (hnw z hz), hDc⟩⟩ rfl hAs (hl.1.trans hL) hst (lv_room hrest) d hk) hS (fun q _ h => hFc q h) hFc (fun u t H1 locs1 ht hvm hw hB hz1 hk1 hS1 => ?_)
  · rcases List.mem_append.mp hz with h | h
    · simp only [List.mem_cons, List.not_mem_nil, or_false] at h
      rcases h with rfl | rfl | rfl | rfl
      · exact link
      · exact wd1
      · exact wd2
      · exact wd3
    · exact jAll_code wd4 z h
  · obtain ⟨hP1, hK1, hD1⟩ := hB
    rw [ht] at hP1
    obtain ⟨hP2, hD2⟩ := va_join hP hD isC isR hC hR hn hdis hk1 hFc hP1 hD1
    exact kk u hw H1 locs1 ls hP2 hD2 hS1 hl
theorem jw_V_V {post : S → Prop} (C : JC G X rm cc own nL) (ct : CV G y bytes maxL (jrm f loc 0 0) (.ref b :: As) w post w1 0 0) (wd : jWd y Cn bytes maxL none np) (link : Cond.methodLink own idx y ∈ jAll) (q0 : Nat) (hq : w[q0]? = some (b, .inr (ci, fs))) (hci : vwCl[ci]? = some (Cn, T, N))
    (hAs : As.length = np) (hst : st0 = As.reverse ++ .ref b :: rest) (hrest : (rest.map fun v => v.category).sum ≤ 8) (hrm : f + 1 ≤ rm.frames ∧ 8 + (maxL + 11) + loc ≤ rm.locals) (hk : k ≤ rm.cells ∧ n ≤ rm.slots) (d : decode cc pc = .ok (.invokevirtual idx, 3)) (hL : L.length = nL)
    (kk : ∀ (u : S), post u → JW G X k n (w1 u) (pc + 3) L rest) : JW G X k n w pc L st0 :=
  jw_sV_V (wr := []) C ct wd link q0 hq hci (List.range w.length) [] (j_rng w) rfl (j_nd_rng _) rfl (fun _ h => by cases h) hAs hst hrest hrm hk d hL kk
theorem jw_sS_V {post : S → Prop} (C : JC G X rm cc own nL) (ct : CV G y bytes maxL (jrm f loc 0 0) As w0 post w1 0 0) (wd : jWs y bytes maxL none np) (link : Cond.methodLink own idx y ∈ jAll)
    (isC isR : List Nat) (hC : isC.map (fun i => w[i]?) = w0.map some) (hR : isR.map (fun i => w[i]?) = wr.map some) (hnC : va_nd isC = true) (hn : va_nd isR = true) (hdis : ∀ i ∈ isR, i ∉ isC)
    (hAs : As.length = np) (hst : st0 = As.reverse ++ rest) (hrest : (rest.map fun v => v.category).sum ≤ 8) (hrm : f + 1 ≤ rm.frames ∧ 8 + (maxL + 11) + loc ≤ rm.locals) (hk : k ≤ rm.cells ∧ n ≤ rm.slots) (d : decode cc pc = .ok (.invokestatic idx, 3)) (hL : L.length = nL)
    (kk : ∀ (u : S), post u → JW G X k n (wr ++ w1 u) (pc + 3) L rest) : JW G X k n w pc L st0 := by
  obtain ⟨p, l, e, R, s, m, args, below, meth, c, Q, A⟩ := X
  obtain ⟨hx, hb, hml, hown, hts, hnw, hK, hlk, hA, hR⟩ := C
  subst hR
  intro H locs ls hP hD hS hl
  obtain ⟨wd1, wd2, wd3, wd5⟩ := wd
  have hPc := hP.sub isC (j_part hC)
  have hDc := j_nd hD hC hnC
  have hFc := va_free hD hS hA isC hC
  refine va_callv (va_runS (As := As) (rest := rest) ⟨hx, hb, hml, hown, hts⟩ (ct.2.2 l H.size) (va_cwS np hts (jAll_in (fun z hz => ?_)) rfl rfl rfl wd5 hrm) ⟨jPre_blind, fun U hU hW => ⟨rfl, by rw [hU], by rw [hU]; exact hPc, va_K.moved hW.alike hK, fun z hz => jNest_warm hz hW (hnw z hz), hDc⟩⟩ rfl hAs (hl.1.trans hL) hst (lv_room hrest) d hk) hS (fun q _ h => hFc q h) hFc (fun u t H1 locs1 ht hvm hw hB hz1 hk1 hS1 => ?_)
  · rcases List.mem_append.mp hz with h | h
    · simp only [List.mem_cons, List.not_mem_nil, or_false] at h
      rcases h with rfl | rfl | rfl
      · exact link
      · exact wd1
      · exact wd2
    · exact jAll_code wd3 z h
  · obtain ⟨hP1, hK1, hD1⟩ := hB
    rw [ht] at hP1
    obtain ⟨hP2, hD2⟩ := va_join hP hD isC isR hC hR hn hdis hk1 hFc hP1 hD1
    exact kk u hw H1 locs1 ls hP2 hD2 hS1 hl
theorem jw_S0_V {post : S → Prop} (C : JC G X rm cc own nL) (ct : CV G y bytes maxL (jrm f loc 0 0) As [] post (fun _ : S => []) 0 0) (wd : jWs y bytes maxL none np) (link : Cond.methodLink own idx y ∈ jAll)
    (hAs : As.length = np) (hst : st0 = As.reverse ++ rest) (hrest : (rest.map fun v => v.category).sum ≤ 8) (hrm : f + 1 ≤ rm.frames ∧ 8 + (maxL + 11) + loc ≤ rm.locals) (hk : k ≤ rm.cells ∧ n ≤ rm.slots) (d : decode cc pc = .ok (.invokestatic idx, 3)) (hL : L.length = nL)
    (kk : ∀ (u : S), post u → JW G X k n w (pc + 3) L rest) : JW G X k n w pc L st0 :=
  jw_sS_V (wr := w) C ct wd link [] (List.range w.length) rfl (j_rng w) rfl (j_nd_rng _) (fun _ _ h => by cases h) hAs hst hrest hrm hk d hL (by simpa only [List.append_nil] using kk)
theorem jw_sSN_V {post : S → Prop} {host : String} (C : JC G X rm cc own nL) (ct : CV G y bytes maxL (jrm f loc 0 0) As w0 post w1 0 0) (wd : jWs y bytes maxL none np) (link : Cond.methodLinkNest own idx y host ∈ jNest)
    (isC isR : List Nat) (hC : isC.map (fun i => w[i]?) = w0.map some) (hR : isR.map (fun i => w[i]?) = wr.map some) (hnC : va_nd isC = true) (hn : va_nd isR = true) (hdis : ∀ i ∈ isR, i ∉ isC)
    (hAs : As.length = np) (hst : st0 = As.reverse ++ rest) (hrest : (rest.map fun v => v.category).sum ≤ 8) (hrm : f + 1 ≤ rm.frames ∧ 8 + (maxL + 11) + loc ≤ rm.locals) (hk : k ≤ rm.cells ∧ n ≤ rm.slots) (d : decode cc pc = .ok (.invokestatic idx, 3)) (hL : L.length = nL)
    (kk : ∀ (u : S), post u → JW G X k n (wr ++ w1 u) (pc + 3) L rest) : JW G X k n w pc L st0 := by
  obtain ⟨p, l, e, R, s, m, args, below, meth, c, Q, A⟩ := X
  obtain ⟨hx, hb, hml, hown, hts, hnw, hK, hlk, hA, hR⟩ := C
  subst hR
  intro H locs ls hP hD hS hl
  obtain ⟨wd1, wd2, wd3, wd5⟩ := wd
  have hPc := hP.sub isC (j_part hC)
  have hDc := j_nd hD hC hnC
  have hFc := va_free hD hS hA isC hC
  refine va_callv (va_runSN (As := As) (rest := rest) ⟨hx, hb, hml, hown, hts⟩ (ct.2.2 l H.size) ⟨va_cnB np hts (jAll_in (jAll_code wd3)) rfl rfl rfl (hnw _ link) (hts _ wd2) wd5 hrm, hts _ wd1, trivial⟩ ⟨jPre_blind, fun U hU hW => ⟨rfl, by rw [hU], by rw [hU]; exact hPc, va_K.moved hW.alike hK, fun z hz => jNest_warm hz hW (hnw z hz), hDc⟩⟩ rfl hAs (hl.1.trans hL) hst (lv_room hrest) d hk) hS (fun q _ h => hFc q h) hFc (fun u t H1 locs1 ht hvm hw hB hz1 hk1 hS1 => ?_)
  · obtain ⟨hP1, hK1, hD1⟩ := hB
    rw [ht] at hP1
    obtain ⟨hP2, hD2⟩ := va_join hP hD isC isR hC hR hn hdis hk1 hFc hP1 hD1
    exact kk u hw H1 locs1 ls hP2 hD2 hS1 hl
theorem jw_SN0_V {post : S → Prop} {host : String} (C : JC G X rm cc own nL) (ct : CV G y bytes maxL (jrm f loc 0 0) As [] post (fun _ : S => []) 0 0) (wd : jWs y bytes maxL none np) (link : Cond.methodLinkNest own idx y host ∈ jNest)
    (hAs : As.length = np) (hst : st0 = As.reverse ++ rest) (hrest : (rest.map fun v => v.category).sum ≤ 8) (hrm : f + 1 ≤ rm.frames ∧ 8 + (maxL + 11) + loc ≤ rm.locals) (hk : k ≤ rm.cells ∧ n ≤ rm.slots) (d : decode cc pc = .ok (.invokestatic idx, 3)) (hL : L.length = nL)
    (kk : ∀ (u : S), post u → JW G X k n w (pc + 3) L rest) : JW G X k n w pc L st0 :=
  jw_sSN_V (wr := w) C ct wd link [] (List.range w.length) rfl (j_rng w) rfl (j_nd_rng _) (fun _ _ h => by cases h) hAs hst hrest hrm hk d hL (by simpa only [List.append_nil] using kk)
theorem jw_sV_L {post : Int64 → S → Prop} (C : JC G X rm cc own nL) (ct : CL G y bytes maxL (jrm f loc 0 0) (.ref b :: As) w0 post w1 0 0) (wd : jWd y Cn bytes maxL (some .long) np) (link : Cond.methodLink own idx y ∈ jAll) (q0 : Nat) (hq : w[q0]? = some (b, .inr (ci, fs))) (hci : vwCl[ci]? = some (Cn, T, N))
    (isC isR : List Nat) (hC : isC.map (fun i => w[i]?) = w0.map some) (hR : isR.map (fun i => w[i]?) = wr.map some) (hnC : va_nd isC = true) (hn : va_nd isR = true) (hdis : ∀ i ∈ isR, i ∉ isC)
    (hAs : As.length = np) (hst : st0 = As.reverse ++ .ref b :: rest) (hrest : (rest.map fun v => v.category).sum ≤ 8) (hrm : f + 1 ≤ rm.frames ∧ 8 + (maxL + 11) + loc ≤ rm.locals) (hk : k ≤ rm.cells ∧ n ≤ rm.slots) (d : decode cc pc = .ok (.invokevirtual idx, 3)) (hL : L.length = nL)
    (kk : ∀ (r : Int64) (u : S), post r u → JW G X k n (wr ++ w1 u) (pc + 3) L (.long r :: rest)) : JW G X k n w pc L st0 := by
  obtain ⟨p, l, e, R, s, m, args, below, meth, c, Q, A⟩ := X
  obtain ⟨hx, hb, hml, hown, hts, hnw, hK, hlk, hA, hR⟩ := C
  subst hR
  intro H locs ls hP hD hS hl
  obtain ⟨wd1, wd2, wd3, wd4, wd5⟩ := wd
  have hPc := hP.sub isC (j_part hC)
  have hDc := j_nd hD hC hnC
  have hFc := va_free hD hS hA isC hC
  refine va_calll (va_runV (As := As) (rest := rest) ⟨hx, hb, hml, hown, hts⟩ (ct.2.2 l H.size) (cwV np hts (jAll_in (fun z hz => ?_)) rfl rfl rfl wd5 hrm) ⟨jPre_blind, va_recv hK hP hci hq, fun U hU hW => ⟨rfl, by rw [hU], by rw [hU]; exact hPc, va_K.moved hW.alike hK, fun z hz => jNest_warm hz hW (hnw z hz), hDc⟩⟩ rfl hAs (hl.1.trans hL) hst (lv_room hrest) d hk) hS (fun q _ h => hFc q h) hFc (fun r u t H1 locs1 ht hvm hw hB hz1 hk1 hS1 => ?_)
  · rcases List.mem_append.mp hz with h | h
    · simp only [List.mem_cons, List.not_mem_nil, or_false] at h
      rcases h with rfl | rfl | rfl | rfl
      · exact link
      · exact wd1
      · exact wd2
      · exact wd3
    · exact jAll_code wd4 z h
  · obtain ⟨hP1, hK1, hD1⟩ := hB
    rw [ht] at hP1
    obtain ⟨hP2, hD2⟩ := va_join hP hD isC isR hC hR hn hdis hk1 hFc hP1 hD1
    exact kk r u hw H1 locs1 ls hP2 hD2 hS1 hl
theorem jw_V_L {post : Int64 → S → Prop} (C : JC G X rm cc own nL) (ct : CL G y bytes maxL (jrm f loc 0 0) (.ref b :: As) w post w1 0 0) (wd : jWd y Cn bytes maxL (some .long) np) (link : Cond.methodLink own idx y ∈ jAll) (q0 : Nat) (hq : w[q0]? = some (b, .inr (ci, fs))) (hci : vwCl[ci]? = some (Cn, T, N))
    (hAs : As.length = np) (hst : st0 = As.reverse ++ .ref b :: rest) (hrest : (rest.map fun v => v.category).sum ≤ 8) (hrm : f + 1 ≤ rm.frames ∧ 8 + (maxL + 11) + loc ≤ rm.locals) (hk : k ≤ rm.cells ∧ n ≤ rm.slots) (d : decode cc pc = .ok (.invokevirtual idx, 3)) (hL : L.length = nL)
    (kk : ∀ (r : Int64) (u : S), post r u → JW G X k n (w1 u) (pc + 3) L (.long r :: rest)) : JW G X k n w pc L st0 :=
  jw_sV_L (wr := []) C ct wd link q0 hq hci (List.range w.length) [] (j_rng w) rfl (j_nd_rng _) rfl (fun _ h => by cases h) hAs hst hrest hrm hk d hL kk
theorem jw_sS_L {post : Int64 → S → Prop} (C : JC G X rm cc own nL) (ct : CL G y bytes maxL (jrm f loc 0 0) As w0 post w1 0 0) (wd : jWs y bytes maxL (some .long) np) (link : Cond.methodLink own idx y ∈ jAll)
    (isC isR : List Nat) (hC : isC.map (fun i => w[i]?) = w0.map some) (hR : isR.map (fun i => w[i]?) = wr.map some) (hnC : va_nd isC = true) (hn : va_nd isR = true) (hdis : ∀ i ∈ isR, i ∉ isC)
    (hAs : As.length = np) (hst : st0 = As.reverse ++ rest) (hrest : (rest.map fun v => v.category).sum ≤ 8) (hrm : f + 1 ≤ rm.frames ∧ 8 + (maxL + 11) + loc ≤ rm.locals) (hk : k ≤ rm.cells ∧ n ≤ rm.slots) (d : decode cc pc = .ok (.invokestatic idx, 3)) (hL : L.length = nL)
    (kk : ∀ (r : Int64) (u : S), post r u → JW G X k n (wr ++ w1 u) (pc + 3) L (.long r :: rest)) : JW G X k n w pc L st0 := by
  obtain ⟨p, l, e, R, s, m, args, below, meth, c, Q, A⟩ := X
  obtain ⟨hx, hb, hml, hown, hts, hnw, hK, hlk, hA, hR⟩ := C
  subst hR
  intro H locs ls hP hD hS hl
  obtain ⟨wd1, wd2, wd3, wd5⟩ := wd
  have hPc := hP.sub isC (j_part hC)
  have hDc := j_nd hD hC hnC
  have hFc := va_free hD hS hA isC hC
  refine va_calll (va_runS (As := As) (rest := rest) ⟨hx, hb, hml, hown, hts⟩ (ct.2.2 l H.size) (va_cwS np hts (jAll_in (fun z hz => ?_)) rfl rfl rfl wd5 hrm) ⟨jPre_blind, fun U hU hW => ⟨rfl, by rw [hU], by rw [hU]; exact hPc, va_K.moved hW.alike hK, fun z hz => jNest_warm hz hW (hnw z hz), hDc⟩⟩ rfl hAs (hl.1.trans hL) hst (lv_room hrest) d hk) hS (fun q _ h => hFc q h) hFc (fun r u t H1 locs1 ht hvm hw hB hz1 hk1 hS1 => ?_)
  · rcases List.mem_append.mp hz with h | h
    · simp only [List.mem_cons, List.not_mem_nil, or_false] at h
      rcases h with rfl | rfl | rfl
      · exact link
      · exact wd1
      · exact wd2
    · exact jAll_code wd3 z h
  · obtain ⟨hP1, hK1, hD1⟩ := hB
    rw [ht] at hP1
    obtain ⟨hP2, hD2⟩ := va_join hP hD isC isR hC hR hn hdis hk1 hFc hP1 hD1
    exact kk r u hw H1 locs1 ls hP2 hD2 hS1 hl
theorem jw_S0_L {post : Int64 → S → Prop} (C : JC G X rm cc own nL) (ct : CL G y bytes maxL (jrm f loc 0 0) As [] post (fun _ : S => []) 0 0) (wd : jWs y bytes maxL (some .long) np) (link : Cond.methodLink own idx y ∈ jAll)
    (hAs : As.length = np) (hst : st0 = As.reverse ++ rest) (hrest : (rest.map fun v => v.category).sum ≤ 8) (hrm : f + 1 ≤ rm.frames ∧ 8 + (maxL + 11) + loc ≤ rm.locals) (hk : k ≤ rm.cells ∧ n ≤ rm.slots) (d : decode cc pc = .ok (.invokestatic idx, 3)) (hL : L.length = nL)
    (kk : ∀ (r : Int64) (u : S), post r u → JW G X k n w (pc + 3) L (.long r :: rest)) : JW G X k n w pc L st0 :=
  jw_sS_L (wr := w) C ct wd link [] (List.range w.length) rfl (j_rng w) rfl (j_nd_rng _) (fun _ _ h => by cases h) hAs hst hrest hrm hk d hL (by simpa only [List.append_nil] using kk)
theorem jw_sSN_L {post : Int64 → S → Prop} {host : String} (C : JC G X rm cc own nL) (ct : CL G y bytes maxL (jrm f loc 0 0) As w0 post w1 0 0) (wd : jWs y bytes maxL (some .long) np) (link : Cond.methodLinkNest own idx y host ∈ jNest)
    (isC isR : List Nat) (hC : isC.map (fun i => w[i]?) = w0.map some) (hR : isR.map (fun i => w[i]?) = wr.map some) (hnC : va_nd isC = true) (hn : va_nd isR = true) (hdis : ∀ i ∈ isR, i ∉ isC)
    (hAs : As.length = np) (hst : st0 = As.reverse ++ rest) (hrest : (rest.map fun v => v.category).sum ≤ 8) (hrm : f + 1 ≤ rm.frames ∧ 8 + (maxL + 11) + loc ≤ rm.locals) (hk : k ≤ rm.cells ∧ n ≤ rm.slots) (d : decode cc pc = .ok (.invokestatic idx, 3)) (hL : L.length = nL)
    (kk : ∀ (r : Int64) (u : S), post r u → JW G X k n (wr ++ w1 u) (pc + 3) L (.long r :: rest)) : JW G X k n w pc L st0 := by
  obtain ⟨p, l, e, R, s, m, args, below, meth, c, Q, A⟩ := X
  obtain ⟨hx, hb, hml, hown, hts, hnw, hK, hlk, hA, hR⟩ := C
  subst hR
  intro H locs ls hP hD hS hl
  obtain ⟨wd1, wd2, wd3, wd5⟩ := wd
  have hPc := hP.sub isC (j_part hC)
  have hDc := j_nd hD hC hnC
  have hFc := va_free hD hS hA isC hC
  refine va_calll (va_runSN (As := As) (rest := rest) ⟨hx, hb, hml, hown, hts⟩ (ct.2.2 l H.size) ⟨va_cnB np hts (jAll_in (jAll_code wd3)) rfl rfl rfl (hnw _ link) (hts _ wd2) wd5 hrm, hts _ wd1, trivial⟩ ⟨jPre_blind, fun U hU hW => ⟨rfl, by rw [hU], by rw [hU]; exact hPc, va_K.moved hW.alike hK, fun z hz => jNest_warm hz hW (hnw z hz), hDc⟩⟩ rfl hAs (hl.1.trans hL) hst (lv_room hrest) d hk) hS (fun q _ h => hFc q h) hFc (fun r u t H1 locs1 ht hvm hw hB hz1 hk1 hS1 => ?_)
  · obtain ⟨hP1, hK1, hD1⟩ := hB
    rw [ht] at hP1
    obtain ⟨hP2, hD2⟩ := va_join hP hD isC isR hC hR hn hdis hk1 hFc hP1 hD1
    exact kk r u hw H1 locs1 ls hP2 hD2 hS1 hl
theorem jw_SN0_L {post : Int64 → S → Prop} {host : String} (C : JC G X rm cc own nL) (ct : CL G y bytes maxL (jrm f loc 0 0) As [] post (fun _ : S => []) 0 0) (wd : jWs y bytes maxL (some .long) np) (link : Cond.methodLinkNest own idx y host ∈ jNest)
    (hAs : As.length = np) (hst : st0 = As.reverse ++ rest) (hrest : (rest.map fun v => v.category).sum ≤ 8) (hrm : f + 1 ≤ rm.frames ∧ 8 + (maxL + 11) + loc ≤ rm.locals) (hk : k ≤ rm.cells ∧ n ≤ rm.slots) (d : decode cc pc = .ok (.invokestatic idx, 3)) (hL : L.length = nL)
    (kk : ∀ (r : Int64) (u : S), post r u → JW G X k n w (pc + 3) L (.long r :: rest)) : JW G X k n w pc L st0 :=
  jw_sSN_L (wr := w) C ct wd link [] (List.range w.length) rfl (j_rng w) rfl (j_nd_rng _) (fun _ _ h => by cases h) hAs hst hrest hrm hk d hL (by simpa only [List.append_nil] using kk)
theorem jw_sV_D {post : UInt64 → S → Prop} (C : JC G X rm cc own nL) (ct : CD G y bytes maxL (jrm f loc 0 0) (.ref b :: As) w0 post w1 0 0) (wd : jWd y Cn bytes maxL (some .double) np) (link : Cond.methodLink own idx y ∈ jAll) (q0 : Nat) (hq : w[q0]? = some (b, .inr (ci, fs))) (hci : vwCl[ci]? = some (Cn, T, N))
    (isC isR : List Nat) (hC : isC.map (fun i => w[i]?) = w0.map some) (hR : isR.map (fun i => w[i]?) = wr.map some) (hnC : va_nd isC = true) (hn : va_nd isR = true) (hdis : ∀ i ∈ isR, i ∉ isC)
    (hAs : As.length = np) (hst : st0 = As.reverse ++ .ref b :: rest) (hrest : (rest.map fun v => v.category).sum ≤ 8) (hrm : f + 1 ≤ rm.frames ∧ 8 + (maxL + 11) + loc ≤ rm.locals) (hk : k ≤ rm.cells ∧ n ≤ rm.slots) (d : decode cc pc = .ok (.invokevirtual idx, 3)) (hL : L.length = nL)
    (kk : ∀ (r : UInt64) (u : S), post r u → JW G X k n (wr ++ w1 u) (pc + 3) L (.double r :: rest)) : JW G X k n w pc L st0 := by
  obtain ⟨p, l, e, R, s, m, args, below, meth, c, Q, A⟩ := X
  obtain ⟨hx, hb, hml, hown, hts, hnw, hK, hlk, hA, hR⟩ := C
  subst hR
  intro H locs ls hP hD hS hl
  obtain ⟨wd1, wd2, wd3, wd4, wd5⟩ := wd
  have hPc := hP.sub isC (j_part hC)
  have hDc := j_nd hD hC hnC
  have hFc := va_free hD hS hA isC hC
  refine va_calld (va_runV (As := As) (rest := rest) ⟨hx, hb, hml, hown, hts⟩ (ct.2.2 l H.size) (cwV np hts (jAll_in (fun z hz => ?_)) rfl rfl rfl wd5 hrm) ⟨jPre_blind, va_recv hK hP hci hq, fun U hU hW => ⟨rfl, by rw [hU], by rw [hU]; exact hPc, va_K.moved hW.alike hK, fun z hz => jNest_warm hz hW (hnw z hz), hDc⟩⟩ rfl hAs (hl.1.trans hL) hst (lv_room hrest) d hk) hS (fun q _ h => hFc q h) hFc (fun r u t H1 locs1 ht hvm hw hB hz1 hk1 hS1 => ?_)
  · rcases List.mem_append.mp hz with h | h
    · simp only [List.mem_cons, List.not_mem_nil, or_false] at h
      rcases h with rfl | rfl | rfl | rfl
      · exact link
      · exact wd1
      · exact wd2
      · exact wd3
    · exact jAll_code wd4 z h
  · obtain ⟨hP1, hK1, hD1⟩ := hB
    rw [ht] at hP1
    obtain ⟨hP2, hD2⟩ := va_join hP hD isC isR hC hR hn hdis hk1 hFc hP1 hD1
    exact kk r u hw H1 locs1 ls hP2 hD2 hS1 hl
theorem jw_V_D {post : UInt64 → S → Prop} (C : JC G X rm cc own nL) (ct : CD G y bytes maxL (jrm f loc 0 0) (.ref b :: As) w post w1 0 0) (wd : jWd y Cn bytes maxL (some .double) np) (link : Cond.methodLink own idx y ∈ jAll) (q0 : Nat) (hq : w[q0]? = some (b, .inr (ci, fs))) (hci : vwCl[ci]? = some (Cn, T, N))
    (hAs : As.length = np) (hst : st0 = As.reverse ++ .ref b :: rest) (hrest : (rest.map fun v => v.category).sum ≤ 8) (hrm : f + 1 ≤ rm.frames ∧ 8 + (maxL + 11) + loc ≤ rm.locals) (hk : k ≤ rm.cells ∧ n ≤ rm.slots) (d : decode cc pc = .ok (.invokevirtual idx, 3)) (hL : L.length = nL)
    (kk : ∀ (r : UInt64) (u : S), post r u → JW G X k n (w1 u) (pc + 3) L (.double r :: rest)) : JW G X k n w pc L st0 :=
  jw_sV_D (wr := []) C ct wd link q0 hq hci (List.range w.length) [] (j_rng w) rfl (j_nd_rng _) rfl (fun _ h => by cases h) hAs hst hrest hrm hk d hL kk
theorem jw_sS_D {post : UInt64 → S → Prop} (C : JC G X rm cc own nL) (ct : CD G y bytes maxL (jrm f loc 0 0) As w0 post w1 0 0) (wd : jWs y bytes maxL (some .double) np) (link : Cond.methodLink own idx y ∈ jAll)
    (isC isR : List Nat) (hC : isC.map (fun i => w[i]?) = w0.map some) (hR : isR.map (fun i => w[i]?) = wr.map some) (hnC : va_nd isC = true) (hn : va_nd isR = true) (hdis : ∀ i ∈ isR, i ∉ isC)
    (hAs : As.length = np) (hst : st0 = As.reverse ++ rest) (hrest : (rest.map fun v => v.category).sum ≤ 8) (hrm : f + 1 ≤ rm.frames ∧ 8 + (maxL + 11) + loc ≤ rm.locals) (hk : k ≤ rm.cells ∧ n ≤ rm.slots) (d : decode cc pc = .ok (.invokestatic idx, 3)) (hL : L.length = nL)
    (kk : ∀ (r : UInt64) (u : S), post r u → JW G X k n (wr ++ w1 u) (pc + 3) L (.double r :: rest)) : JW G X k n w pc L st0 := by
  obtain ⟨p, l, e, R, s, m, args, below, meth, c, Q, A⟩ := X
  obtain ⟨hx, hb, hml, hown, hts, hnw, hK, hlk, hA, hR⟩ := C
  subst hR
  intro H locs ls hP hD hS hl
  obtain ⟨wd1, wd2, wd3, wd5⟩ := wd
  have hPc := hP.sub isC (j_part hC)
  have hDc := j_nd hD hC hnC
  have hFc := va_free hD hS hA isC hC
  refine va_calld (va_runS (As := As) (rest := rest) ⟨hx, hb, hml, hown, hts⟩ (ct.2.2 l H.size) (va_cwS np hts (jAll_in (fun z hz => ?_)) rfl rfl rfl wd5 hrm) ⟨jPre_blind, fun U hU hW => ⟨rfl, by rw [hU], by rw [hU]; exact hPc, va_K.moved hW.alike hK, fun z hz => jNest_warm hz hW (hnw z hz), hDc⟩⟩ rfl hAs (hl.1.trans hL) hst (lv_room hrest) d hk) hS (fun q _ h => hFc q h) hFc (fun r u t H1 locs1 ht hvm hw hB hz1 hk1 hS1 => ?_)
  · rcases List.mem_append.mp hz with h | h
    · simp only [List.mem_cons, List.not_mem_nil, or_false] at h
      rcases h with rfl | rfl | rfl
      · exact link
      · exact wd1
      · exact wd2
    · exact jAll_code wd3 z h
  · obtain ⟨hP1, hK1, hD1⟩ := hB
    rw [ht] at hP1
    obtain ⟨hP2, hD2⟩ := va_join hP hD isC isR hC hR hn hdis hk1 hFc hP1 hD1
    exact kk r u hw H1 locs1 ls hP2 hD2 hS1 hl
theorem jw_S0_D {post : UInt64 → S → Prop} (C : JC G X rm cc own nL) (ct : CD G y bytes maxL (jrm f loc 0 0) As [] post (fun _ : S => []) 0 0) (wd : jWs y bytes maxL (some .double) np) (link : Cond.methodLink own idx y ∈ jAll)
    (hAs : As.length = np) (hst : st0 = As.reverse ++ rest) (hrest : (rest.map fun v => v.category).sum ≤ 8) (hrm : f + 1 ≤ rm.frames ∧ 8 + (maxL + 11) + loc ≤ rm.locals) (hk : k ≤ rm.cells ∧ n ≤ rm.slots) (d : decode cc pc = .ok (.invokestatic idx, 3)) (hL : L.length = nL)
    (kk : ∀ (r : UInt64) (u : S), post r u → JW G X k n w (pc + 3) L (.double r :: rest)) : JW G X k n w pc L st0 :=
  jw_sS_D (wr := w) C ct wd link [] (List.range w.length) rfl (j_rng w) rfl (j_nd_rng _) (fun _ _ h => by cases h) hAs hst hrest hrm hk d hL (by simpa only [List.append_nil] using kk)
theorem jw_sSN_D {post : UInt64 → S → Prop} {host : String} (C : JC G X rm cc own nL) (ct : CD G y bytes maxL (jrm f loc 0 0) As w0 post w1 0 0) (wd : jWs y bytes maxL (some .double) np) (link : Cond.methodLinkNest own idx y host ∈ jNest)
    (isC isR : List Nat) (hC : isC.map (fun i => w[i]?) = w0.map some) (hR : isR.map (fun i => w[i]?) = wr.map some) (hnC : va_nd isC = true) (hn : va_nd isR = true) (hdis : ∀ i ∈ isR, i ∉ isC)
    (hAs : As.length = np) (hst : st0 = As.reverse ++ rest) (hrest : (rest.map fun v => v.category).sum ≤ 8) (hrm : f + 1 ≤ rm.frames ∧ 8 + (maxL + 11) + loc ≤ rm.locals) (hk : k ≤ rm.cells ∧ n ≤ rm.slots) (d : decode cc pc = .ok (.invokestatic idx, 3)) (hL : L.length = nL)
    (kk : ∀ (r : UInt64) (u : S), post r u → JW G X k n (wr ++ w1 u) (pc + 3) L (.double r :: rest)) : JW G X k n w pc L st0 := by
  obtain ⟨p, l, e, R, s, m, args, below, meth, c, Q, A⟩ := X
  obtain ⟨hx, hb, hml, hown, hts, hnw, hK, hlk, hA, hR⟩ := C
  subst hR
  intro H locs ls hP hD hS hl
  obtain ⟨wd1, wd2, wd3, wd5⟩ := wd
  have hPc := hP.sub isC (j_part hC)
  have hDc := j_nd hD hC hnC
  have hFc := va_free hD hS hA isC hC
  refine va_calld (va_runSN (As := As) (rest := rest) ⟨hx, hb, hml, hown, hts⟩ (ct.2.2 l H.size) ⟨va_cnB np hts (jAll_in (jAll_code wd3)) rfl rfl rfl (hnw _ link) (hts _ wd2) wd5 hrm, hts _ wd1, trivial⟩ ⟨jPre_blind, fun U hU hW => ⟨rfl, by rw [hU], by rw [hU]; exact hPc, va_K.moved hW.alike hK, fun z hz => jNest_warm hz hW (hnw z hz), hDc⟩⟩ rfl hAs (hl.1.trans hL) hst (lv_room hrest) d hk) hS (fun q _ h => hFc q h) hFc (fun r u t H1 locs1 ht hvm hw hB hz1 hk1 hS1 => ?_)
  · obtain ⟨hP1, hK1, hD1⟩ := hB
    rw [ht] at hP1
    obtain ⟨hP2, hD2⟩ := va_join hP hD isC isR hC hR hn hdis hk1 hFc hP1 hD1
    exact kk r u hw H1 locs1 ls hP2 hD2 hS1 hl
theorem jw_SN0_D {post : UInt64 → S → Prop} {host : String} (C : JC G X rm cc own nL) (ct : CD G y bytes maxL (jrm f loc 0 0) As [] post (fun _ : S => []) 0 0) (wd : jWs y bytes maxL (some .double) np) (link : Cond.methodLinkNest own idx y host ∈ jNest)
    (hAs : As.length = np) (hst : st0 = As.reverse ++ rest) (hrest : (rest.map fun v => v.category).sum ≤ 8) (hrm : f + 1 ≤ rm.frames ∧ 8 + (maxL + 11) + loc ≤ rm.locals) (hk : k ≤ rm.cells ∧ n ≤ rm.slots) (d : decode cc pc = .ok (.invokestatic idx, 3)) (hL : L.length = nL)
    (kk : ∀ (r : UInt64) (u : S), post r u → JW G X k n w (pc + 3) L (.double r :: rest)) : JW G X k n w pc L st0 :=
  jw_sSN_D (wr := w) C ct wd link [] (List.range w.length) rfl (j_rng w) rfl (j_nd_rng _) (fun _ _ h => by cases h) hAs hst hrest hrm hk d hL (by simpa only [List.append_nil] using kk)
theorem jw_sV_Z {post : Bool → S → Prop} (C : JC G X rm cc own nL) (ct : CZ G y bytes maxL (jrm f loc 0 0) (.ref b :: As) w0 post w1 0 0) (wd : jWd y Cn bytes maxL (some .boolean) np) (link : Cond.methodLink own idx y ∈ jAll) (q0 : Nat) (hq : w[q0]? = some (b, .inr (ci, fs))) (hci : vwCl[ci]? = some (Cn, T, N))
    (isC isR : List Nat) (hC : isC.map (fun i => w[i]?) = w0.map some) (hR : isR.map (fun i => w[i]?) = wr.map some) (hnC : va_nd isC = true) (hn : va_nd isR = true) (hdis : ∀ i ∈ isR, i ∉ isC)
    (hAs : As.length = np) (hst : st0 = As.reverse ++ .ref b :: rest) (hrest : (rest.map fun v => v.category).sum ≤ 8) (hrm : f + 1 ≤ rm.frames ∧ 8 + (maxL + 11) + loc ≤ rm.locals) (hk : k ≤ rm.cells ∧ n ≤ rm.slots) (d : decode cc pc = .ok (.invokevirtual idx, 3)) (hL : L.length = nL)
    (kk : ∀ (r : Bool) (u : S), post r u → JW G X k n (wr ++ w1 u) (pc + 3) L (.int (jb r) :: rest)) : JW G X k n w pc L st0 := by
  obtain ⟨p, l, e, R, s, m, args, below, meth, c, Q, A⟩ := X
  obtain ⟨hx, hb, hml, hown, hts, hnw, hK, hlk, hA, hR⟩ := C
  subst hR
  intro H locs ls hP hD hS hl
  obtain ⟨wd1, wd2, wd3, wd4, wd5⟩ := wd
  have hPc := hP.sub isC (j_part hC)
  have hDc := j_nd hD hC hnC
  have hFc := va_free hD hS hA isC hC
  refine va_calli (va_runV (As := As) (rest := rest) ⟨hx, hb, hml, hown, hts⟩ (ct.2.2 l H.size) (cwV np hts (jAll_in (fun z hz => ?_)) rfl rfl rfl wd5 hrm) ⟨jPre_blind, va_recv hK hP hci hq, fun U hU hW => ⟨rfl, by rw [hU], by rw [hU]; exact hPc, va_K.moved hW.alike hK, fun z hz => jNest_warm hz hW (hnw z hz), hDc⟩⟩ rfl hAs (hl.1.trans hL) hst (lv_room hrest) d hk) hS (fun q _ h => hFc q h) hFc (fun r u t H1 locs1 ht hvm hw hB hz1 hk1 hS1 => ?_)
  · rcases List.mem_append.mp hz with h | h
    · simp only [List.mem_cons, List.not_mem_nil, or_false] at h
      rcases h with rfl | rfl | rfl | rfl
      · exact link
      · exact wd1
      · exact wd2
      · exact wd3
    · exact jAll_code wd4 z h
  · obtain ⟨hP1, hK1, hD1⟩ := hB
    rw [ht] at hP1
    obtain ⟨z, rfl, hw⟩ := hw
    obtain ⟨hP2, hD2⟩ := va_join hP hD isC isR hC hR hn hdis hk1 hFc hP1 hD1
    exact kk z u hw H1 locs1 ls hP2 hD2 hS1 hl
theorem jw_V_Z {post : Bool → S → Prop} (C : JC G X rm cc own nL) (ct : CZ G y bytes maxL (jrm f loc 0 0) (.ref b :: As) w post w1 0 0) (wd : jWd y Cn bytes maxL (some .boolean) np) (link : Cond.methodLink own idx y ∈ jAll) (q0 : Nat) (hq : w[q0]? = some (b, .inr (ci, fs))) (hci : vwCl[ci]? = some (Cn, T, N))
    (hAs : As.length = np) (hst : st0 = As.reverse ++ .ref b :: rest) (hrest : (rest.map fun v => v.category).sum ≤ 8) (hrm : f + 1 ≤ rm.frames ∧ 8 + (maxL + 11) + loc ≤ rm.locals) (hk : k ≤ rm.cells ∧ n ≤ rm.slots) (d : decode cc pc = .ok (.invokevirtual idx, 3)) (hL : L.length = nL)
    (kk : ∀ (r : Bool) (u : S), post r u → JW G X k n (w1 u) (pc + 3) L (.int (jb r) :: rest)) : JW G X k n w pc L st0 :=
  jw_sV_Z (wr := []) C ct wd link q0 hq hci (List.range w.length) [] (j_rng w) rfl (j_nd_rng _) rfl (fun _ h => by cases h) hAs hst hrest hrm hk d hL kk
theorem jw_sS_Z {post : Bool → S → Prop} (C : JC G X rm cc own nL) (ct : CZ G y bytes maxL (jrm f loc 0 0) As w0 post w1 0 0) (wd : jWs y bytes maxL (some .boolean) np) (link : Cond.methodLink own idx y ∈ jAll)
    (isC isR : List Nat) (hC : isC.map (fun i => w[i]?) = w0.map some) (hR : isR.map (fun i => w[i]?) = wr.map some) (hnC : va_nd isC = true) (hn : va_nd isR = true) (hdis : ∀ i ∈ isR, i ∉ isC)
    (hAs : As.length = np) (hst : st0 = As.reverse ++ rest) (hrest : (rest.map fun v => v.category).sum ≤ 8) (hrm : f + 1 ≤ rm.frames ∧ 8 + (maxL + 11) + loc ≤ rm.locals) (hk : k ≤ rm.cells ∧ n ≤ rm.slots) (d : decode cc pc = .ok (.invokestatic idx, 3)) (hL : L.length = nL)
    (kk : ∀ (r : Bool) (u : S), post r u → JW G X k n (wr ++ w1 u) (pc + 3) L (.int (jb r) :: rest)) : JW G X k n w pc L st0 := by
  obtain ⟨p, l, e, R, s, m, args, below, meth, c, Q, A⟩ := X
  obtain ⟨hx, hb, hml, hown, hts, hnw, hK, hlk, hA, hR⟩ := C
  subst hR
  intro H locs ls hP hD hS hl
  obtain ⟨wd1, wd2, wd3, wd5⟩ := wd
  have hPc := hP.sub isC (j_part hC)
  have hDc := j_nd hD hC hnC
  have hFc := va_free hD hS hA isC hC
  refine va_calli (va_runS (As := As) (rest := rest) ⟨hx, hb, hml, hown, hts⟩ (ct.2.2 l H.size) (va_cwS np hts (jAll_in (fun z hz => ?_)) rfl rfl rfl wd5 hrm) ⟨jPre_blind, fun U hU hW => ⟨rfl, by rw [hU], by rw [hU]; exact hPc, va_K.moved hW.alike hK, fun z hz => jNest_warm hz hW (hnw z hz), hDc⟩⟩ rfl hAs (hl.1.trans hL) hst (lv_room hrest) d hk) hS (fun q _ h => hFc q h) hFc (fun r u t H1 locs1 ht hvm hw hB hz1 hk1 hS1 => ?_)
  · rcases List.mem_append.mp hz with h | h
    · simp only [List.mem_cons, List.not_mem_nil, or_false] at h
      rcases h with rfl | rfl | rfl
      · exact link
      · exact wd1
      · exact wd2
    · exact jAll_code wd3 z h
  · obtain ⟨hP1, hK1, hD1⟩ := hB
    rw [ht] at hP1
    obtain ⟨z, rfl, hw⟩ := hw
    obtain ⟨hP2, hD2⟩ := va_join hP hD isC isR hC hR hn hdis hk1 hFc hP1 hD1
    exact kk z u hw H1 locs1 ls hP2 hD2 hS1 hl
theorem jw_S0_Z {post : Bool → S → Prop} (C : JC G X rm cc own nL) (ct : CZ G y bytes maxL (jrm f loc 0 0) As [] post (fun _ : S => []) 0 0) (wd : jWs y bytes maxL (some .boolean) np) (link : Cond.methodLink own idx y ∈ jAll)
    (hAs : As.length = np) (hst : st0 = As.reverse ++ rest) (hrest : (rest.map fun v => v.category).sum ≤ 8) (hrm : f + 1 ≤ rm.frames ∧ 8 + (maxL + 11) + loc ≤ rm.locals) (hk : k ≤ rm.cells ∧ n ≤ rm.slots) (d : decode cc pc = .ok (.invokestatic idx, 3)) (hL : L.length = nL)
    (kk : ∀ (r : Bool) (u : S), post r u → JW G X k n w (pc + 3) L (.int (jb r) :: rest)) : JW G X k n w pc L st0 :=
  jw_sS_Z (wr := w) C ct wd link [] (List.range w.length) rfl (j_rng w) rfl (j_nd_rng _) (fun _ _ h => by cases h) hAs hst hrest hrm hk d hL (by simpa only [List.append_nil] using kk)
theorem jw_sSN_Z {post : Bool → S → Prop} {host : String} (C : JC G X rm cc own nL) (ct : CZ G y bytes maxL (jrm f loc 0 0) As w0 post w1 0 0) (wd : jWs y bytes maxL (some .boolean) np) (link : Cond.methodLinkNest own idx y host ∈ jNest)
    (isC isR : List Nat) (hC : isC.map (fun i => w[i]?) = w0.map some) (hR : isR.map (fun i => w[i]?) = wr.map some) (hnC : va_nd isC = true) (hn : va_nd isR = true) (hdis : ∀ i ∈ isR, i ∉ isC)
    (hAs : As.length = np) (hst : st0 = As.reverse ++ rest) (hrest : (rest.map fun v => v.category).sum ≤ 8) (hrm : f + 1 ≤ rm.frames ∧ 8 + (maxL + 11) + loc ≤ rm.locals) (hk : k ≤ rm.cells ∧ n ≤ rm.slots) (d : decode cc pc = .ok (.invokestatic idx, 3)) (hL : L.length = nL)
    (kk : ∀ (r : Bool) (u : S), post r u → JW G X k n (wr ++ w1 u) (pc + 3) L (.int (jb r) :: rest)) : JW G X k n w pc L st0 := by
  obtain ⟨p, l, e, R, s, m, args, below, meth, c, Q, A⟩ := X
  obtain ⟨hx, hb, hml, hown, hts, hnw, hK, hlk, hA, hR⟩ := C
  subst hR
  intro H locs ls hP hD hS hl
  obtain ⟨wd1, wd2, wd3, wd5⟩ := wd
  have hPc := hP.sub isC (j_part hC)
  have hDc := j_nd hD hC hnC
  have hFc := va_free hD hS hA isC hC
  refine va_calli (va_runSN (As := As) (rest := rest) ⟨hx, hb, hml, hown, hts⟩ (ct.2.2 l H.size) ⟨va_cnB np hts (jAll_in (jAll_code wd3)) rfl rfl rfl (hnw _ link) (hts _ wd2) wd5 hrm, hts _ wd1, trivial⟩ ⟨jPre_blind, fun U hU hW => ⟨rfl, by rw [hU], by rw [hU]; exact hPc, va_K.moved hW.alike hK, fun z hz => jNest_warm hz hW (hnw z hz), hDc⟩⟩ rfl hAs (hl.1.trans hL) hst (lv_room hrest) d hk) hS (fun q _ h => hFc q h) hFc (fun r u t H1 locs1 ht hvm hw hB hz1 hk1 hS1 => ?_)
  · obtain ⟨hP1, hK1, hD1⟩ := hB
    rw [ht] at hP1
    obtain ⟨z, rfl, hw⟩ := hw
    obtain ⟨hP2, hD2⟩ := va_join hP hD isC isR hC hR hn hdis hk1 hFc hP1 hD1
    exact kk z u hw H1 locs1 ls hP2 hD2 hS1 hl
theorem jw_SN0_Z {post : Bool → S → Prop} {host : String} (C : JC G X rm cc own nL) (ct : CZ G y bytes maxL (jrm f loc 0 0) As [] post (fun _ : S => []) 0 0) (wd : jWs y bytes maxL (some .boolean) np) (link : Cond.methodLinkNest own idx y host ∈ jNest)
    (hAs : As.length = np) (hst : st0 = As.reverse ++ rest) (hrest : (rest.map fun v => v.category).sum ≤ 8) (hrm : f + 1 ≤ rm.frames ∧ 8 + (maxL + 11) + loc ≤ rm.locals) (hk : k ≤ rm.cells ∧ n ≤ rm.slots) (d : decode cc pc = .ok (.invokestatic idx, 3)) (hL : L.length = nL)
    (kk : ∀ (r : Bool) (u : S), post r u → JW G X k n w (pc + 3) L (.int (jb r) :: rest)) : JW G X k n w pc L st0 :=
  jw_sSN_Z (wr := w) C ct wd link [] (List.range w.length) rfl (j_rng w) rfl (j_nd_rng _) (fun _ _ h => by cases h) hAs hst hrest hrm hk d hL (by simpa only [List.append_nil] using kk)
theorem jw_sI {post : S → Prop} {mc ms : Nat} (C : JC G X rm cc own nL) (ct : CV G y bytes maxL (jrm f loc mc ms) (.ref b :: As) w0 post w1 mc ms) (wd : jWi y bytes maxL np) (link : Cond.methodLink own idx y ∈ jAll)
    (isC isR : List Nat) (hC : isC.map (fun i => w[i]?) = w0.map some) (hR : isR.map (fun i => w[i]?) = wr.map some) (hnC : va_nd isC = true) (hn : va_nd isR = true) (hdis : ∀ i ∈ isR, i ∉ isC)
    (hAs : As.length = np) (hst : st0 = As.reverse ++ .ref b :: rest) (hrest : (rest.map fun v => v.category).sum ≤ 8) (hrm : f + 1 ≤ rm.frames ∧ 8 + (maxL + 11) + loc ≤ rm.locals) (hk : k + mc ≤ rm.cells ∧ n + ms ≤ rm.slots) (d : decode cc pc = .ok (.invokespecial idx, 3)) (hL : L.length = nL)
    (kk : ∀ (u : S), post u → JW G X (k + mc) (n + ms) (wr ++ w1 u) (pc + 3) L rest) : JW G X k n w pc L st0 := by
  obtain ⟨p, l, e, R, s, m, args, below, meth, c, Q, A⟩ := X
  obtain ⟨hx, hb, hml, hown, hts, hnw, hK, hlk, hA, hR⟩ := C
  subst hR
  intro H locs ls hP hD hS hl
  obtain ⟨wd1, wd2, wd3, wd4, wd5⟩ := wd
  have hPc := hP.sub isC (j_part hC)
  have hDc := j_nd hD hC hnC
  have hFc := va_free hD hS hA isC hC
  refine va_callv (va_runI (As := As) (rest := rest) ⟨hx, hb, hml, hown, hts⟩ (ct.2.2 l H.size) (cwI np hts (jAll_in (jAll_code wd3)) rfl rfl rfl (hts _ wd2) (hts _ link) (hts _ wd1) wd4 wd5 hrm) ⟨jPre_blind, fun U hU hW => ⟨rfl, by rw [hU], by rw [hU]; exact hPc, va_K.moved hW.alike hK, fun z hz => jNest_warm hz hW (hnw z hz), hDc⟩⟩ rfl hAs (hl.1.trans hL) hst (lv_room hrest) d hk) hS (fun q _ h => hFc q h) hFc (fun u t H1 locs1 ht hvm hw hB hz1 hk1 hS1 => ?_)
  obtain ⟨hP1, hK1, hD1⟩ := hB
  rw [ht] at hP1
  obtain ⟨hP2, hD2⟩ := va_join hP hD isC isR hC hR hn hdis hk1 hFc hP1 hD1
  exact kk u hw H1 locs1 ls hP2 hD2 hS1 hl
theorem jw_sIN {post : S → Prop} {mc ms : Nat} {host : String} (C : JC G X rm cc own nL) (ct : CV G y bytes maxL (jrm f loc mc ms) (.ref b :: As) w0 post w1 mc ms) (wd : jWi y bytes maxL np) (link : Cond.methodLinkNest own idx y host ∈ jNest)
    (isC isR : List Nat) (hC : isC.map (fun i => w[i]?) = w0.map some) (hR : isR.map (fun i => w[i]?) = wr.map some) (hnC : va_nd isC = true) (hn : va_nd isR = true) (hdis : ∀ i ∈ isR, i ∉ isC)
    (hAs : As.length = np) (hst : st0 = As.reverse ++ .ref b :: rest) (hrest : (rest.map fun v => v.category).sum ≤ 8) (hrm : f + 1 ≤ rm.frames ∧ 8 + (maxL + 11) + loc ≤ rm.locals) (hk : k + mc ≤ rm.cells ∧ n + ms ≤ rm.slots) (d : decode cc pc = .ok (.invokespecial idx, 3)) (hL : L.length = nL)
    (kk : ∀ (u : S), post u → JW G X (k + mc) (n + ms) (wr ++ w1 u) (pc + 3) L rest) : JW G X k n w pc L st0 := by
  obtain ⟨p, l, e, R, s, m, args, below, meth, c, Q, A⟩ := X
  obtain ⟨hx, hb, hml, hown, hts, hnw, hK, hlk, hA, hR⟩ := C
  subst hR
  intro H locs ls hP hD hS hl
  obtain ⟨wd1, wd2, wd3, wd4, wd5⟩ := wd
  have hPc := hP.sub isC (j_part hC)
  have hDc := j_nd hD hC hnC
  have hFc := va_free hD hS hA isC hC
  refine va_callv (va_runIN (As := As) (rest := rest) ⟨hx, hb, hml, hown, hts⟩ (ct.2.2 l H.size) ⟨va_cnB np hts (jAll_in (jAll_code wd3)) rfl rfl rfl (hnw _ link) (hts _ wd2) wd5 hrm, wd4, hts _ wd1⟩ ⟨jPre_blind, fun U hU hW => ⟨rfl, by rw [hU], by rw [hU]; exact hPc, va_K.moved hW.alike hK, fun z hz => jNest_warm hz hW (hnw z hz), hDc⟩⟩ rfl hAs (hl.1.trans hL) hst (lv_room hrest) d hk) hS (fun q _ h => hFc q h) hFc (fun u t H1 locs1 ht hvm hw hB hz1 hk1 hS1 => ?_)
  obtain ⟨hP1, hK1, hD1⟩ := hB
  rw [ht] at hP1
  obtain ⟨hP2, hD2⟩ := va_join hP hD isC isR hC hR hn hdis hk1 hFc hP1 hD1
  exact kk u hw H1 locs1 ls hP2 hD2 hS1 hl
end JCALL
end
section
/-! LINKS: what a call needs of a method; the field rows, by class and place in the constant pool (gen_links.py) -/
theorem wi_X0_init : jWi yX0_init cX0_init 2 1 := ⟨kim_X0_init, kini_X0, kco_X0_init, rfl, by decide +kernel⟩
theorem wi_X1_init : jWi yX1_init cX1_init 1 0 := ⟨kim_X1_init, kini_X1, kco_X1_init, rfl, by decide +kernel⟩
theorem wd_X1_clear : jWd yX1_clear RX1 cX1_clear 1 none 0 := ⟨kim_X1_clear, kse_X1_clear, kini_X1, kco_X1_clear, by decide +kernel⟩
theorem wd_X1_add : jWd yX1_add RX1 cX1_add 3 none 2 := ⟨kim_X1_add, kse_X1_add, kini_X1, kco_X1_add, by decide +kernel⟩
theorem wi_X2_init : jWi yX2_init cX2_init 2 1 := ⟨kim_X2_init, kini_X2, kco_X2_init, rfl, by decide +kernel⟩
theorem wd_X2_search : jWd yX2_search RX2 cX2_search 2 (some .int) 1 := ⟨kim_X2_search, kse_X2_search, kini_X2, kco_X2_search, by decide +kernel⟩
theorem wd_X2_collectSuccessors : jWd yX2_collectSuccessors RX2 cX2_collectSuccessors 2 none 0 := ⟨kim_X2_collectSuccessors, kse_X2_collectSuccessors, kini_X2, kco_X2_collectSuccessors, by decide +kernel⟩
theorem wd_X2_buildLayers : jWd yX2_buildLayers RX2 cX2_buildLayers 3 none 0 := ⟨kim_X2_buildLayers, kse_X2_buildLayers, kini_X2, kco_X2_buildLayers, by decide +kernel⟩
theorem wd_X2_leadingTo : jWd yX2_leadingTo RX2 cX2_leadingTo 4 (some .int) 1 := ⟨kim_X2_leadingTo, kse_X2_leadingTo, kini_X2, kco_X2_leadingTo, by decide +kernel⟩
theorem wd_X2_shortestFrom : jWd yX2_shortestFrom RX2 cX2_shortestFrom 3 (some .int) 1 := ⟨kim_X2_shortestFrom, kse_X2_shortestFrom, kini_X2, kco_X2_shortestFrom, by decide +kernel⟩
theorem wd_X2_trace : jWd yX2_trace RX2 cX2_trace 6 (some .boolean) 1 := ⟨kim_X2_trace, kse_X2_trace, kini_X2, kco_X2_trace, by decide +kernel⟩
theorem wd_X2_firstMovable : jWd yX2_firstMovable RX2 cX2_firstMovable 4 (some .int) 2 := ⟨kim_X2_firstMovable, kse_X2_firstMovable, kini_X2, kco_X2_firstMovable, by decide +kernel⟩
theorem wi_X3_init : jWi yX3_init cX3_init 4 3 := ⟨kim_X3_init, kini_X3, kco_X3_init, rfl, by decide +kernel⟩
theorem wd_X3_runOnce : jWd yX3_runOnce RX3 cX3_runOnce 4 (some .int) 0 := ⟨kim_X3_runOnce, kse_X3_runOnce, kini_X3, kco_X3_runOnce, by decide +kernel⟩
theorem wd_X3_nextToTry : jWd yX3_nextToTry RX3 cX3_nextToTry 3 (some .int) 0 := ⟨kim_X3_nextToTry, kse_X3_nextToTry, kini_X3, kco_X3_nextToTry, by decide +kernel⟩
theorem wd_X3_isServedBefore : jWd yX3_isServedBefore RX3 cX3_isServedBefore 5 (some .boolean) 2 := ⟨kim_X3_isServedBefore, kse_X3_isServedBefore, kini_X3, kco_X3_isServedBefore, by decide +kernel⟩
theorem wd_X3_tryToPlace : jWd yX3_tryToPlace RX3 cX3_tryToPlace 3 (some .boolean) 1 := ⟨kim_X3_tryToPlace, kse_X3_tryToPlace, kini_X3, kco_X3_tryToPlace, by decide +kernel⟩
theorem wd_X3_placeAlongPath : jWd yX3_placeAlongPath RX3 cX3_placeAlongPath 5 none 1 := ⟨kim_X3_placeAlongPath, kse_X3_placeAlongPath, kini_X3, kco_X3_placeAlongPath, by decide +kernel⟩
theorem wi_X4_init : jWi yX4_init cX4_init 2 0 := ⟨kim_X4_init, kini_X4, kco_X4_init, rfl, by decide +kernel⟩
theorem wd_X4_maskOfAll : jWd yX4_maskOfAll RX4 cX4_maskOfAll 1 (some .int) 0 := ⟨kim_X4_maskOfAll, kse_X4_maskOfAll, kini_X4, kco_X4_maskOfAll, by decide +kernel⟩
theorem wd_X4_isWaiting : jWd yX4_isWaiting RX4 cX4_isWaiting 2 (some .boolean) 1 := ⟨kim_X4_isWaiting, kse_X4_isWaiting, kini_X4, kco_X4_isWaiting, by decide +kernel⟩
theorem wd_X4_isAssigned : jWd yX4_isAssigned RX4 cX4_isAssigned 2 (some .boolean) 1 := ⟨kim_X4_isAssigned, kse_X4_isAssigned, kini_X4, kco_X4_isAssigned, by decide +kernel⟩
theorem wd_X4_isDeparted : jWd yX4_isDeparted RX4 cX4_isDeparted 2 (some .boolean) 1 := ⟨kim_X4_isDeparted, kse_X4_isDeparted, kini_X4, kco_X4_isDeparted, by decide +kernel⟩
theorem wd_X4_stateNumber : jWd yX4_stateNumber RX4 cX4_stateNumber 2 (some .int) 1 := ⟨kim_X4_stateNumber, kse_X4_stateNumber, kini_X4, kco_X4_stateNumber, by decide +kernel⟩
theorem wd_X4_canBeMoved : jWd yX4_canBeMoved RX4 cX4_canBeMoved 2 (some .boolean) 1 := ⟨kim_X4_canBeMoved, kse_X4_canBeMoved, kini_X4, kco_X4_canBeMoved, by decide +kernel⟩
theorem wd_X4_resourceHasRoom : jWd yX4_resourceHasRoom RX4 cX4_resourceHasRoom 2 (some .boolean) 1 := ⟨kim_X4_resourceHasRoom, kse_X4_resourceHasRoom, kini_X4, kco_X4_resourceHasRoom, by decide +kernel⟩
theorem wd_X4_groupHasRoom : jWd yX4_groupHasRoom RX4 cX4_groupHasRoom 2 (some .boolean) 1 := ⟨kim_X4_groupHasRoom, kse_X4_groupHasRoom, kini_X4, kco_X4_groupHasRoom, by decide +kernel⟩
theorem wd_X4_openResource : jWd yX4_openResource RX4 cX4_openResource 3 (some .int) 1 := ⟨kim_X4_openResource, kse_X4_openResource, kini_X4, kco_X4_openResource, by decide +kernel⟩
theorem wd_X4_dismiss : jWd yX4_dismiss RX4 cX4_dismiss 2 none 1 := ⟨kim_X4_dismiss, kse_X4_dismiss, kini_X4, kco_X4_dismiss, by decide +kernel⟩
theorem wd_X4_accept : jWd yX4_accept RX4 cX4_accept 3 none 2 := ⟨kim_X4_accept, kse_X4_accept, kini_X4, kco_X4_accept, by decide +kernel⟩
theorem wd_X4_assign : jWd yX4_assign RX4 cX4_assign 3 none 2 := ⟨kim_X4_assign, kse_X4_assign, kini_X4, kco_X4_assign, by decide +kernel⟩
theorem wd_X4_move : jWd yX4_move RX4 cX4_move 3 none 2 := ⟨kim_X4_move, kse_X4_move, kini_X4, kco_X4_move, by decide +kernel⟩
theorem wd_X4_putBack : jWd yX4_putBack RX4 cX4_putBack 2 none 1 := ⟨kim_X4_putBack, kse_X4_putBack, kini_X4, kco_X4_putBack, by decide +kernel⟩
theorem wd_X4_putBackBeyondQuota : jWd yX4_putBackBeyondQuota RX4 cX4_putBackBeyondQuota 4 (some .int) 1 := ⟨kim_X4_putBackBeyondQuota, kse_X4_putBackBeyondQuota, kini_X4, kco_X4_putBackBeyondQuota, by decide +kernel⟩
theorem wi_X5_init : jWi yX5_init cX5_init 1 0 := ⟨kim_X5_init, kini_X5, kco_X5_init, rfl, by decide +kernel⟩
theorem wd_X5_addResource : jWd yX5_addResource RX5 cX5_addResource 3 (some .int) 1 := ⟨kim_X5_addResource, kse_X5_addResource, kini_X5, kco_X5_addResource, by decide +kernel⟩
theorem wd_X5_setGroup : jWd yX5_setGroup RX5 cX5_setGroup 5 (some .int) 3 := ⟨kim_X5_setGroup, kse_X5_setGroup, kini_X5, kco_X5_setGroup, by decide +kernel⟩
theorem wd_X5_setLimits : jWd yX5_setLimits RX5 cX5_setLimits 3 (some .int) 2 := ⟨kim_X5_setLimits, kse_X5_setLimits, kini_X5, kco_X5_setLimits, by decide +kernel⟩
theorem wd_X5_arrive : jWd yX5_arrive RX5 cX5_arrive 4 (some .int) 2 := ⟨kim_X5_arrive, kse_X5_arrive, kini_X5, kco_X5_arrive, by decide +kernel⟩
theorem wd_X5_depart : jWd yX5_depart RX5 cX5_depart 2 (some .int) 1 := ⟨kim_X5_depart, kse_X5_depart, kini_X5, kco_X5_depart, by decide +kernel⟩
theorem wd_X5_setAccepts : jWd yX5_setAccepts RX5 cX5_setAccepts 3 (some .boolean) 2 := ⟨kim_X5_setAccepts, kse_X5_setAccepts, kini_X5, kco_X5_setAccepts, by decide +kernel⟩
theorem wd_X5_resourceCount : jWd yX5_resourceCount RX5 cX5_resourceCount 1 (some .int) 0 := ⟨kim_X5_resourceCount, kse_X5_resourceCount, kini_X5, kco_X5_resourceCount, by decide +kernel⟩
theorem wd_X5_arrivedCount : jWd yX5_arrivedCount RX5 cX5_arrivedCount 1 (some .int) 0 := ⟨kim_X5_arrivedCount, kse_X5_arrivedCount, kini_X5, kco_X5_arrivedCount, by decide +kernel⟩
theorem wd_X5_state : jWd yX5_state RX5 cX5_state 2 (some .int) 1 := ⟨kim_X5_state, kse_X5_state, kini_X5, kco_X5_state, by decide +kernel⟩
theorem wd_X5_resourceOf : jWd yX5_resourceOf RX5 cX5_resourceOf 2 (some .int) 1 := ⟨kim_X5_resourceOf, kse_X5_resourceOf, kini_X5, kco_X5_resourceOf, by decide +kernel⟩
theorem wd_X5_movesOf : jWd yX5_movesOf RX5 cX5_movesOf 2 (some .int) 1 := ⟨kim_X5_movesOf, kse_X5_movesOf, kini_X5, kco_X5_movesOf, by decide +kernel⟩
theorem wd_X5_moveCount : jWd yX5_moveCount RX5 cX5_moveCount 1 (some .int) 0 := ⟨kim_X5_moveCount, kse_X5_moveCount, kini_X5, kco_X5_moveCount, by decide +kernel⟩
theorem wd_X5_movedRequest : jWd yX5_movedRequest RX5 cX5_movedRequest 2 (some .int) 1 := ⟨kim_X5_movedRequest, kse_X5_movedRequest, kini_X5, kco_X5_movedRequest, by decide +kernel⟩
theorem wd_X5_movedTo : jWd yX5_movedTo RX5 cX5_movedTo 2 (some .int) 1 := ⟨kim_X5_movedTo, kse_X5_movedTo, kini_X5, kco_X5_movedTo, by decide +kernel⟩
theorem wd_X5_requireGroup : jWd yX5_requireGroup RX5 cX5_requireGroup 2 none 1 := ⟨kim_X5_requireGroup, kse_X5_requireGroup, kini_X5, kco_X5_requireGroup, by decide +kernel⟩
theorem wd_X5_requireRequest : jWd yX5_requireRequest RX5 cX5_requireRequest 2 none 1 := ⟨kim_X5_requireRequest, kse_X5_requireRequest, kini_X5, kco_X5_requireRequest, by decide +kernel⟩
theorem wd_X5_requirePresent : jWd yX5_requirePresent RX5 cX5_requirePresent 2 none 1 := ⟨kim_X5_requirePresent, kse_X5_requirePresent, kini_X5, kco_X5_requirePresent, by decide +kernel⟩
theorem wd_X5_requireMask : jWd yX5_requireMask RX5 cX5_requireMask 2 none 1 := ⟨kim_X5_requireMask, kse_X5_requireMask, kini_X5, kco_X5_requireMask, by decide +kernel⟩
theorem wd_X5_requireLogged : jWd yX5_requireLogged RX5 cX5_requireLogged 2 none 1 := ⟨kim_X5_requireLogged, kse_X5_requireLogged, kini_X5, kco_X5_requireLogged, by decide +kernel⟩
theorem ws_X5_isWithin : jWs yX5_isWithin cX5_isWithin 3 (some .boolean) 3 := ⟨kst_X5_isWithin, kini_X5, kco_X5_isWithin, by decide +kernel⟩
theorem ws_X5_hasBit : jWs yX5_hasBit cX5_hasBit 2 (some .boolean) 2 := ⟨kst_X5_hasBit, kini_X5, kco_X5_hasBit, by decide +kernel⟩
theorem ws_X5_lowestResource : jWs yX5_lowestResource cX5_lowestResource 2 (some .int) 1 := ⟨kst_X5_lowestResource, kini_X5, kco_X5_lowestResource, by decide +kernel⟩
theorem ws_L_below : jWs yL_below cL_below 2 (some .int) 2 := ⟨kst_L_below, kini_L, kco_L_below, by decide +kernel⟩
theorem ws_L_cell : jWs yL_cell cL_cell 2 (some .int) 2 := ⟨kst_L_cell, kini_L, kco_L_cell, by decide +kernel⟩
theorem ws_L_isPath : jWs yL_isPath cL_isPath 13 (some .boolean) 9 := ⟨kst_L_isPath, kini_L, kco_L_isPath, by decide +kernel⟩
theorem ws_L_bestPath : jWs yL_bestPath cL_bestPath 10 (some .int) 7 := ⟨kst_L_bestPath, kini_L, kco_L_bestPath, by decide +kernel⟩
theorem ws_L_place : jWs yL_place cL_place 11 (some .int) 8 := ⟨kst_L_place, kini_L, kco_L_place, by decide +kernel⟩
theorem ws_L_isSame : jWs yL_isSame cL_isSame 7 (some .boolean) 6 := ⟨kst_L_isSame, kini_L, kco_L_isSame, by decide +kernel⟩
section JLINK
variable {G : jG} {X : JX} {k n pc : Nat} {w : va_W} {L : List (Option Value)} {rest : List Value} {rm : Room} {cc : ByteArray} {nL a : Nat} {fs : List Value}
theorem fg_X4_46 {v : Value} (C : JC G X rm cc RX4 nL) (q0 : Nat) (he : w[q0]? = some (a, .inr (4, fs))) (hv : fs[0]? = some v) (d : decode cc pc = .ok (.getfield 46, 3)) (kk : JW G X k n w (pc + 3) L (v :: rest)) : JW G X k n w pc L (.ref a :: rest) :=
  jw_get jU_X4 rfl 0 (by decide) rfl C kfl_X4_46 q0 he hv d kk
theorem fp_X4_46 {v : Int32} (C : JC G X rm cc RX4 nL) (q0 : Nat) (he : w[q0]? = some (a, .inr (4, fs))) (hl : 0 < fs.length) (d : decode cc pc = .ok (.putfield 46, 3)) (kk : JW G X k n (w.set q0 (a, .inr (4, fs.set 0 (.int v)))) (pc + 3) L rest) : JW G X k n w pc L (.int v :: .ref a :: rest) :=
  jw_put (ty := .int) jU_X4 tyX4_ok nmX4 rfl 0 (by decide) rfl rfl (by decide +kernel) C kfl_X4_46 q0 he rfl rfl hl d kk
theorem fg_X5_59 {v : Value} (C : JC G X rm cc RX5 nL) (q0 : Nat) (he : w[q0]? = some (a, .inr (4, fs))) (hv : fs[0]? = some v) (d : decode cc pc = .ok (.getfield 59, 3)) (kk : JW G X k n w (pc + 3) L (v :: rest)) : JW G X k n w pc L (.ref a :: rest) :=
  jw_getN jU_X4 rfl 0 (by decide) rfl C kfn_X5_59 q0 he hv d kk
theorem fp_X5_59 {v : Int32} (C : JC G X rm cc RX5 nL) (q0 : Nat) (he : w[q0]? = some (a, .inr (4, fs))) (hl : 0 < fs.length) (d : decode cc pc = .ok (.putfield 59, 3)) (kk : JW G X k n (w.set q0 (a, .inr (4, fs.set 0 (.int v)))) (pc + 3) L rest) : JW G X k n w pc L (.int v :: .ref a :: rest) :=
  jw_putN (ty := .int) jU_X4 tyX4_ok nmX4 rfl 0 (by decide) rfl rfl (by decide +kernel) C kfn_X5_59 q0 he rfl rfl hl d kk
theorem fg_X2_51 {v : Value} (C : JC G X rm cc RX2 nL) (q0 : Nat) (he : w[q0]? = some (a, .inr (4, fs))) (hv : fs[0]? = some v) (d : decode cc pc = .ok (.getfield 51, 3)) (kk : JW G X k n w (pc + 3) L (v :: rest)) : JW G X k n w pc L (.ref a :: rest) :=
  jw_getN jU_X4 rfl 0 (by decide) rfl C kfn_X2_51 q0 he hv d kk
theorem fp_X2_51 {v : Int32} (C : JC G X rm cc RX2 nL) (q0 : Nat) (he : w[q0]? = some (a, .inr (4, fs))) (hl : 0 < fs.length) (d : decode cc pc = .ok (.putfield 51, 3)) (kk : JW G X k n (w.set q0 (a, .inr (4, fs.set 0 (.int v)))) (pc + 3) L rest) : JW G X k n w pc L (.int v :: .ref a :: rest) :=
  jw_putN (ty := .int) jU_X4 tyX4_ok nmX4 rfl 0 (by decide) rfl rfl (by decide +kernel) C kfn_X2_51 q0 he rfl rfl hl d kk
theorem fg_X4_9 {v : Value} (C : JC G X rm cc RX4 nL) (q0 : Nat) (he : w[q0]? = some (a, .inr (4, fs))) (hv : fs[1]? = some v) (d : decode cc pc = .ok (.getfield 9, 3)) (kk : JW G X k n w (pc + 3) L (v :: rest)) : JW G X k n w pc L (.ref a :: rest) :=
  jw_get jU_X4 rfl 1 (by decide) rfl C kfl_X4_9 q0 he hv d kk
theorem fg_X4_15 {v : Value} (C : JC G X rm cc RX4 nL) (q0 : Nat) (he : w[q0]? = some (a, .inr (4, fs))) (hv : fs[2]? = some v) (d : decode cc pc = .ok (.getfield 15, 3)) (kk : JW G X k n w (pc + 3) L (v :: rest)) : JW G X k n w pc L (.ref a :: rest) :=
  jw_get jU_X4 rfl 2 (by decide) rfl C kfl_X4_15 q0 he hv d kk
theorem fg_X4_18 {v : Value} (C : JC G X rm cc RX4 nL) (q0 : Nat) (he : w[q0]? = some (a, .inr (4, fs))) (hv : fs[3]? = some v) (d : decode cc pc = .ok (.getfield 18, 3)) (kk : JW G X k n w (pc + 3) L (v :: rest)) : JW G X k n w pc L (.ref a :: rest) :=
  jw_get jU_X4 rfl 3 (by decide) rfl C kfl_X4_18 q0 he hv d kk
theorem fg_X5_97 {v : Value} (C : JC G X rm cc RX5 nL) (q0 : Nat) (he : w[q0]? = some (a, .inr (4, fs))) (hv : fs[3]? = some v) (d : decode cc pc = .ok (.getfield 97, 3)) (kk : JW G X k n w (pc + 3) L (v :: rest)) : JW G X k n w pc L (.ref a :: rest) :=
  jw_getN jU_X4 rfl 3 (by decide) rfl C kfn_X5_97 q0 he hv d kk
theorem fg_X4_21 {v : Value} (C : JC G X rm cc RX4 nL) (q0 : Nat) (he : w[q0]? = some (a, .inr (4, fs))) (hv : fs[4]? = some v) (d : decode cc pc = .ok (.getfield 21, 3)) (kk : JW G X k n w (pc + 3) L (v :: rest)) : JW G X k n w pc L (.ref a :: rest) :=
  jw_get jU_X4 rfl 4 (by decide) rfl C kfl_X4_21 q0 he hv d kk
theorem fg_X3_55 {v : Value} (C : JC G X rm cc RX3 nL) (q0 : Nat) (he : w[q0]? = some (a, .inr (4, fs))) (hv : fs[4]? = some v) (d : decode cc pc = .ok (.getfield 55, 3)) (kk : JW G X k n w (pc + 3) L (v :: rest)) : JW G X k n w pc L (.ref a :: rest) :=
  jw_getN jU_X4 rfl 4 (by decide) rfl C kfn_X3_55 q0 he hv d kk
theorem fg_X5_100 {v : Value} (C : JC G X rm cc RX5 nL) (q0 : Nat) (he : w[q0]? = some (a, .inr (4, fs))) (hv : fs[4]? = some v) (d : decode cc pc = .ok (.getfield 100, 3)) (kk : JW G X k n w (pc + 3) L (v :: rest)) : JW G X k n w pc L (.ref a :: rest) :=
  jw_getN jU_X4 rfl 4 (by decide) rfl C kfn_X5_100 q0 he hv d kk
theorem fg_X4_24 {v : Value} (C : JC G X rm cc RX4 nL) (q0 : Nat) (he : w[q0]? = some (a, .inr (4, fs))) (hv : fs[5]? = some v) (d : decode cc pc = .ok (.getfield 24, 3)) (kk : JW G X k n w (pc + 3) L (v :: rest)) : JW G X k n w pc L (.ref a :: rest) :=
  jw_get jU_X4 rfl 5 (by decide) rfl C kfl_X4_24 q0 he hv d kk
theorem fg_X3_52 {v : Value} (C : JC G X rm cc RX3 nL) (q0 : Nat) (he : w[q0]? = some (a, .inr (4, fs))) (hv : fs[5]? = some v) (d : decode cc pc = .ok (.getfield 52, 3)) (kk : JW G X k n w (pc + 3) L (v :: rest)) : JW G X k n w pc L (.ref a :: rest) :=
  jw_getN jU_X4 rfl 5 (by decide) rfl C kfn_X3_52 q0 he hv d kk
theorem fg_X3_27 {v : Value} (C : JC G X rm cc RX3 nL) (q0 : Nat) (he : w[q0]? = some (a, .inr (4, fs))) (hv : fs[6]? = some v) (d : decode cc pc = .ok (.getfield 27, 3)) (kk : JW G X k n w (pc + 3) L (v :: rest)) : JW G X k n w pc L (.ref a :: rest) :=
  jw_getN jU_X4 rfl 6 (by decide) rfl C kfn_X3_27 q0 he hv d kk
theorem fp_X3_27 {v : Int32} (C : JC G X rm cc RX3 nL) (q0 : Nat) (he : w[q0]? = some (a, .inr (4, fs))) (hl : 6 < fs.length) (d : decode cc pc = .ok (.putfield 27, 3)) (kk : JW G X k n (w.set q0 (a, .inr (4, fs.set 6 (.int v)))) (pc + 3) L rest) : JW G X k n w pc L (.int v :: .ref a :: rest) :=
  jw_putN (ty := .int) jU_X4 tyX4_ok nmX4 rfl 6 (by decide) rfl rfl (by decide +kernel) C kfn_X3_27 q0 he rfl rfl hl d kk
theorem fg_X2_54 {v : Value} (C : JC G X rm cc RX2 nL) (q0 : Nat) (he : w[q0]? = some (a, .inr (4, fs))) (hv : fs[6]? = some v) (d : decode cc pc = .ok (.getfield 54, 3)) (kk : JW G X k n w (pc + 3) L (v :: rest)) : JW G X k n w pc L (.ref a :: rest) :=
  jw_getN jU_X4 rfl 6 (by decide) rfl C kfn_X2_54 q0 he hv d kk
theorem fp_X2_54 {v : Int32} (C : JC G X rm cc RX2 nL) (q0 : Nat) (he : w[q0]? = some (a, .inr (4, fs))) (hl : 6 < fs.length) (d : decode cc pc = .ok (.putfield 54, 3)) (kk : JW G X k n (w.set q0 (a, .inr (4, fs.set 6 (.int v)))) (pc + 3) L rest) : JW G X k n w pc L (.int v :: .ref a :: rest) :=
  jw_putN (ty := .int) jU_X4 tyX4_ok nmX4 rfl 6 (by decide) rfl rfl (by decide +kernel) C kfn_X2_54 q0 he rfl rfl hl d kk
theorem fg_X5_119 {v : Value} (C : JC G X rm cc RX5 nL) (q0 : Nat) (he : w[q0]? = some (a, .inr (4, fs))) (hv : fs[6]? = some v) (d : decode cc pc = .ok (.getfield 119, 3)) (kk : JW G X k n w (pc + 3) L (v :: rest)) : JW G X k n w pc L (.ref a :: rest) :=
  jw_getN jU_X4 rfl 6 (by decide) rfl C kfn_X5_119 q0 he hv d kk
theorem fp_X5_119 {v : Int32} (C : JC G X rm cc RX5 nL) (q0 : Nat) (he : w[q0]? = some (a, .inr (4, fs))) (hl : 6 < fs.length) (d : decode cc pc = .ok (.putfield 119, 3)) (kk : JW G X k n (w.set q0 (a, .inr (4, fs.set 6 (.int v)))) (pc + 3) L rest) : JW G X k n w pc L (.int v :: .ref a :: rest) :=
  jw_putN (ty := .int) jU_X4 tyX4_ok nmX4 rfl 6 (by decide) rfl rfl (by decide +kernel) C kfn_X5_119 q0 he rfl rfl hl d kk
theorem fg_X4_56 {v : Value} (C : JC G X rm cc RX4 nL) (q0 : Nat) (he : w[q0]? = some (a, .inr (4, fs))) (hv : fs[6]? = some v) (d : decode cc pc = .ok (.getfield 56, 3)) (kk : JW G X k n w (pc + 3) L (v :: rest)) : JW G X k n w pc L (.ref a :: rest) :=
  jw_get jU_X4 rfl 6 (by decide) rfl C kfl_X4_56 q0 he hv d kk
theorem fp_X4_56 {v : Int32} (C : JC G X rm cc RX4 nL) (q0 : Nat) (he : w[q0]? = some (a, .inr (4, fs))) (hl : 6 < fs.length) (d : decode cc pc = .ok (.putfield 56, 3)) (kk : JW G X k n (w.set q0 (a, .inr (4, fs.set 6 (.int v)))) (pc + 3) L rest) : JW G X k n w pc L (.int v :: .ref a :: rest) :=
  jw_put (ty := .int) jU_X4 tyX4_ok nmX4 rfl 6 (by decide) rfl rfl (by decide +kernel) C kfl_X4_56 q0 he rfl rfl hl d kk
theorem fg_X4_27 {v : Value} (C : JC G X rm cc RX4 nL) (q0 : Nat) (he : w[q0]? = some (a, .inr (4, fs))) (hv : fs[7]? = some v) (d : decode cc pc = .ok (.getfield 27, 3)) (kk : JW G X k n w (pc + 3) L (v :: rest)) : JW G X k n w pc L (.ref a :: rest) :=
  jw_get jU_X4 rfl 7 (by decide) rfl C kfl_X4_27 q0 he hv d kk
theorem fg_X3_44 {v : Value} (C : JC G X rm cc RX3 nL) (q0 : Nat) (he : w[q0]? = some (a, .inr (4, fs))) (hv : fs[7]? = some v) (d : decode cc pc = .ok (.getfield 44, 3)) (kk : JW G X k n w (pc + 3) L (v :: rest)) : JW G X k n w pc L (.ref a :: rest) :=
  jw_getN jU_X4 rfl 7 (by decide) rfl C kfn_X3_44 q0 he hv d kk
theorem fg_X4_30 {v : Value} (C : JC G X rm cc RX4 nL) (q0 : Nat) (he : w[q0]? = some (a, .inr (4, fs))) (hv : fs[8]? = some v) (d : decode cc pc = .ok (.getfield 30, 3)) (kk : JW G X k n w (pc + 3) L (v :: rest)) : JW G X k n w pc L (.ref a :: rest) :=
  jw_get jU_X4 rfl 8 (by decide) rfl C kfl_X4_30 q0 he hv d kk
theorem fg_X2_34 {v : Value} (C : JC G X rm cc RX2 nL) (q0 : Nat) (he : w[q0]? = some (a, .inr (4, fs))) (hv : fs[8]? = some v) (d : decode cc pc = .ok (.getfield 34, 3)) (kk : JW G X k n w (pc + 3) L (v :: rest)) : JW G X k n w pc L (.ref a :: rest) :=
  jw_getN jU_X4 rfl 8 (by decide) rfl C kfn_X2_34 q0 he hv d kk
theorem fg_X4_33 {v : Value} (C : JC G X rm cc RX4 nL) (q0 : Nat) (he : w[q0]? = some (a, .inr (4, fs))) (hv : fs[9]? = some v) (d : decode cc pc = .ok (.getfield 33, 3)) (kk : JW G X k n w (pc + 3) L (v :: rest)) : JW G X k n w pc L (.ref a :: rest) :=
  jw_get jU_X4 rfl 9 (by decide) rfl C kfl_X4_33 q0 he hv d kk
theorem fg_X2_60 {v : Value} (C : JC G X rm cc RX2 nL) (q0 : Nat) (he : w[q0]? = some (a, .inr (4, fs))) (hv : fs[9]? = some v) (d : decode cc pc = .ok (.getfield 60, 3)) (kk : JW G X k n w (pc + 3) L (v :: rest)) : JW G X k n w pc L (.ref a :: rest) :=
  jw_getN jU_X4 rfl 9 (by decide) rfl C kfn_X2_60 q0 he hv d kk
theorem fg_X5_168 {v : Value} (C : JC G X rm cc RX5 nL) (q0 : Nat) (he : w[q0]? = some (a, .inr (4, fs))) (hv : fs[9]? = some v) (d : decode cc pc = .ok (.getfield 168, 3)) (kk : JW G X k n w (pc + 3) L (v :: rest)) : JW G X k n w pc L (.ref a :: rest) :=
  jw_getN jU_X4 rfl 9 (by decide) rfl C kfn_X5_168 q0 he hv d kk
theorem fg_X4_36 {v : Value} (C : JC G X rm cc RX4 nL) (q0 : Nat) (he : w[q0]? = some (a, .inr (4, fs))) (hv : fs[10]? = some v) (d : decode cc pc = .ok (.getfield 36, 3)) (kk : JW G X k n w (pc + 3) L (v :: rest)) : JW G X k n w pc L (.ref a :: rest) :=
  jw_get jU_X4 rfl 10 (by decide) rfl C kfl_X4_36 q0 he hv d kk
theorem fg_X5_171 {v : Value} (C : JC G X rm cc RX5 nL) (q0 : Nat) (he : w[q0]? = some (a, .inr (4, fs))) (hv : fs[10]? = some v) (d : decode cc pc = .ok (.getfield 171, 3)) (kk : JW G X k n w (pc + 3) L (v :: rest)) : JW G X k n w pc L (.ref a :: rest) :=
  jw_getN jU_X4 rfl 10 (by decide) rfl C kfn_X5_171 q0 he hv d kk
theorem fg_X4_39 {v : Value} (C : JC G X rm cc RX4 nL) (q0 : Nat) (he : w[q0]? = some (a, .inr (4, fs))) (hv : fs[11]? = some v) (d : decode cc pc = .ok (.getfield 39, 3)) (kk : JW G X k n w (pc + 3) L (v :: rest)) : JW G X k n w pc L (.ref a :: rest) :=
  jw_get jU_X4 rfl 11 (by decide) rfl C kfl_X4_39 q0 he hv d kk
theorem fp_X4_39 {v : Int32} (C : JC G X rm cc RX4 nL) (q0 : Nat) (he : w[q0]? = some (a, .inr (4, fs))) (hl : 11 < fs.length) (d : decode cc pc = .ok (.putfield 39, 3)) (kk : JW G X k n (w.set q0 (a, .inr (4, fs.set 11 (.int v)))) (pc + 3) L rest) : JW G X k n w pc L (.int v :: .ref a :: rest) :=
  jw_put (ty := .int) jU_X4 tyX4_ok nmX4 rfl 11 (by decide) rfl rfl (by decide +kernel) C kfl_X4_39 q0 he rfl rfl hl d kk
theorem fg_X3_67 {v : Value} (C : JC G X rm cc RX3 nL) (q0 : Nat) (he : w[q0]? = some (a, .inr (4, fs))) (hv : fs[11]? = some v) (d : decode cc pc = .ok (.getfield 67, 3)) (kk : JW G X k n w (pc + 3) L (v :: rest)) : JW G X k n w pc L (.ref a :: rest) :=
  jw_getN jU_X4 rfl 11 (by decide) rfl C kfn_X3_67 q0 he hv d kk
theorem fp_X3_67 {v : Int32} (C : JC G X rm cc RX3 nL) (q0 : Nat) (he : w[q0]? = some (a, .inr (4, fs))) (hl : 11 < fs.length) (d : decode cc pc = .ok (.putfield 67, 3)) (kk : JW G X k n (w.set q0 (a, .inr (4, fs.set 11 (.int v)))) (pc + 3) L rest) : JW G X k n w pc L (.int v :: .ref a :: rest) :=
  jw_putN (ty := .int) jU_X4 tyX4_ok nmX4 rfl 11 (by decide) rfl rfl (by decide +kernel) C kfn_X3_67 q0 he rfl rfl hl d kk
theorem fg_X5_110 {v : Value} (C : JC G X rm cc RX5 nL) (q0 : Nat) (he : w[q0]? = some (a, .inr (4, fs))) (hv : fs[11]? = some v) (d : decode cc pc = .ok (.getfield 110, 3)) (kk : JW G X k n w (pc + 3) L (v :: rest)) : JW G X k n w pc L (.ref a :: rest) :=
  jw_getN jU_X4 rfl 11 (by decide) rfl C kfn_X5_110 q0 he hv d kk
theorem fp_X5_110 {v : Int32} (C : JC G X rm cc RX5 nL) (q0 : Nat) (he : w[q0]? = some (a, .inr (4, fs))) (hl : 11 < fs.length) (d : decode cc pc = .ok (.putfield 110, 3)) (kk : JW G X k n (w.set q0 (a, .inr (4, fs.set 11 (.int v)))) (pc + 3) L rest) : JW G X k n w pc L (.int v :: .ref a :: rest) :=
  jw_putN (ty := .int) jU_X4 tyX4_ok nmX4 rfl 11 (by decide) rfl rfl (by decide +kernel) C kfn_X5_110 q0 he rfl rfl hl d kk
theorem fg_X4_43 {v : Value} (C : JC G X rm cc RX4 nL) (q0 : Nat) (he : w[q0]? = some (a, .inr (4, fs))) (hv : fs[12]? = some v) (d : decode cc pc = .ok (.getfield 43, 3)) (kk : JW G X k n w (pc + 3) L (v :: rest)) : JW G X k n w pc L (.ref a :: rest) :=
  jw_get jU_X4 rfl 12 (by decide) rfl C kfl_X4_43 q0 he hv d kk
theorem fp_X4_43 {v : Int32} (C : JC G X rm cc RX4 nL) (q0 : Nat) (he : w[q0]? = some (a, .inr (4, fs))) (hl : 12 < fs.length) (d : decode cc pc = .ok (.putfield 43, 3)) (kk : JW G X k n (w.set q0 (a, .inr (4, fs.set 12 (.int v)))) (pc + 3) L rest) : JW G X k n w pc L (.int v :: .ref a :: rest) :=
  jw_put (ty := .int) jU_X4 tyX4_ok nmX4 rfl 12 (by decide) rfl rfl (by decide +kernel) C kfl_X4_43 q0 he rfl rfl hl d kk
theorem fg_X5_113 {v : Value} (C : JC G X rm cc RX5 nL) (q0 : Nat) (he : w[q0]? = some (a, .inr (4, fs))) (hv : fs[12]? = some v) (d : decode cc pc = .ok (.getfield 113, 3)) (kk : JW G X k n w (pc + 3) L (v :: rest)) : JW G X k n w pc L (.ref a :: rest) :=
  jw_getN jU_X4 rfl 12 (by decide) rfl C kfn_X5_113 q0 he hv d kk
theorem fp_X5_113 {v : Int32} (C : JC G X rm cc RX5 nL) (q0 : Nat) (he : w[q0]? = some (a, .inr (4, fs))) (hl : 12 < fs.length) (d : decode cc pc = .ok (.putfield 113, 3)) (kk : JW G X k n (w.set q0 (a, .inr (4, fs.set 12 (.int v)))) (pc + 3) L rest) : JW G X k n w pc L (.int v :: .ref a :: rest) :=
  jw_putN (ty := .int) jU_X4 tyX4_ok nmX4 rfl 12 (by decide) rfl rfl (by decide +kernel) C kfn_X5_113 q0 he rfl rfl hl d kk
theorem fg_X1_11 {v : Value} (C : JC G X rm cc RX1 nL) (q0 : Nat) (he : w[q0]? = some (a, .inr (1, fs))) (hv : fs[0]? = some v) (d : decode cc pc = .ok (.getfield 11, 3)) (kk : JW G X k n w (pc + 3) L (v :: rest)) : JW G X k n w pc L (.ref a :: rest) :=
  jw_get jU_X1 rfl 0 (by decide) rfl C kfl_X1_11 q0 he hv d kk
theorem fg_X5_180 {v : Value} (C : JC G X rm cc RX5 nL) (q0 : Nat) (he : w[q0]? = some (a, .inr (1, fs))) (hv : fs[0]? = some v) (d : decode cc pc = .ok (.getfield 180, 3)) (kk : JW G X k n w (pc + 3) L (v :: rest)) : JW G X k n w pc L (.ref a :: rest) :=
  jw_getN jU_X1 rfl 0 (by decide) rfl C kfn_X5_180 q0 he hv d kk
theorem fg_X1_15 {v : Value} (C : JC G X rm cc RX1 nL) (q0 : Nat) (he : w[q0]? = some (a, .inr (1, fs))) (hv : fs[1]? = some v) (d : decode cc pc = .ok (.getfield 15, 3)) (kk : JW G X k n w (pc + 3) L (v :: rest)) : JW G X k n w pc L (.ref a :: rest) :=
  jw_get jU_X1 rfl 1 (by decide) rfl C kfl_X1_15 q0 he hv d kk
theorem fg_X5_183 {v : Value} (C : JC G X rm cc RX5 nL) (q0 : Nat) (he : w[q0]? = some (a, .inr (1, fs))) (hv : fs[1]? = some v) (d : decode cc pc = .ok (.getfield 183, 3)) (kk : JW G X k n w (pc + 3) L (v :: rest)) : JW G X k n w pc L (.ref a :: rest) :=
  jw_getN jU_X1 rfl 1 (by decide) rfl C kfn_X5_183 q0 he hv d kk
theorem fg_X1_18 {v : Value} (C : JC G X rm cc RX1 nL) (q0 : Nat) (he : w[q0]? = some (a, .inr (1, fs))) (hv : fs[2]? = some v) (d : decode cc pc = .ok (.getfield 18, 3)) (kk : JW G X k n w (pc + 3) L (v :: rest)) : JW G X k n w pc L (.ref a :: rest) :=
  jw_get jU_X1 rfl 2 (by decide) rfl C kfl_X1_18 q0 he hv d kk
theorem fp_X1_18 {v : Int32} (C : JC G X rm cc RX1 nL) (q0 : Nat) (he : w[q0]? = some (a, .inr (1, fs))) (hl : 2 < fs.length) (d : decode cc pc = .ok (.putfield 18, 3)) (kk : JW G X k n (w.set q0 (a, .inr (1, fs.set 2 (.int v)))) (pc + 3) L rest) : JW G X k n w pc L (.int v :: .ref a :: rest) :=
  jw_put (ty := .int) jU_X1 tyX1_ok nmX1 rfl 2 (by decide) rfl rfl (by decide +kernel) C kfl_X1_18 q0 he rfl rfl hl d kk
theorem fg_X5_174 {v : Value} (C : JC G X rm cc RX5 nL) (q0 : Nat) (he : w[q0]? = some (a, .inr (1, fs))) (hv : fs[2]? = some v) (d : decode cc pc = .ok (.getfield 174, 3)) (kk : JW G X k n w (pc + 3) L (v :: rest)) : JW G X k n w pc L (.ref a :: rest) :=
  jw_getN jU_X1 rfl 2 (by decide) rfl C kfn_X5_174 q0 he hv d kk
theorem fp_X5_174 {v : Int32} (C : JC G X rm cc RX5 nL) (q0 : Nat) (he : w[q0]? = some (a, .inr (1, fs))) (hl : 2 < fs.length) (d : decode cc pc = .ok (.putfield 174, 3)) (kk : JW G X k n (w.set q0 (a, .inr (1, fs.set 2 (.int v)))) (pc + 3) L rest) : JW G X k n w pc L (.int v :: .ref a :: rest) :=
  jw_putN (ty := .int) jU_X1 tyX1_ok nmX1 rfl 2 (by decide) rfl rfl (by decide +kernel) C kfn_X5_174 q0 he rfl rfl hl d kk
theorem fg_X2_24 {v : Value} (C : JC G X rm cc RX2 nL) (q0 : Nat) (he : w[q0]? = some (a, .inr (2, fs))) (hv : fs[0]? = some v) (d : decode cc pc = .ok (.getfield 24, 3)) (kk : JW G X k n w (pc + 3) L (v :: rest)) : JW G X k n w pc L (.ref a :: rest) :=
  jw_get jU_X2 rfl 0 (by decide) rfl C kfl_X2_24 q0 he hv d kk
theorem fg_X2_9 {v : Value} (C : JC G X rm cc RX2 nL) (q0 : Nat) (he : w[q0]? = some (a, .inr (2, fs))) (hv : fs[1]? = some v) (d : decode cc pc = .ok (.getfield 9, 3)) (kk : JW G X k n w (pc + 3) L (v :: rest)) : JW G X k n w pc L (.ref a :: rest) :=
  jw_get jU_X2 rfl 1 (by decide) rfl C kfl_X2_9 q0 he hv d kk
theorem fg_X2_15 {v : Value} (C : JC G X rm cc RX2 nL) (q0 : Nat) (he : w[q0]? = some (a, .inr (2, fs))) (hv : fs[2]? = some v) (d : decode cc pc = .ok (.getfield 15, 3)) (kk : JW G X k n w (pc + 3) L (v :: rest)) : JW G X k n w pc L (.ref a :: rest) :=
  jw_get jU_X2 rfl 2 (by decide) rfl C kfl_X2_15 q0 he hv d kk
theorem fg_X2_18 {v : Value} (C : JC G X rm cc RX2 nL) (q0 : Nat) (he : w[q0]? = some (a, .inr (2, fs))) (hv : fs[3]? = some v) (d : decode cc pc = .ok (.getfield 18, 3)) (kk : JW G X k n w (pc + 3) L (v :: rest)) : JW G X k n w pc L (.ref a :: rest) :=
  jw_get jU_X2 rfl 3 (by decide) rfl C kfl_X2_18 q0 he hv d kk
theorem fg_X3_74 {v : Value} (C : JC G X rm cc RX3 nL) (q0 : Nat) (he : w[q0]? = some (a, .inr (2, fs))) (hv : fs[3]? = some v) (d : decode cc pc = .ok (.getfield 74, 3)) (kk : JW G X k n w (pc + 3) L (v :: rest)) : JW G X k n w pc L (.ref a :: rest) :=
  jw_getN jU_X2 rfl 3 (by decide) rfl C kfn_X3_74 q0 he hv d kk
theorem fg_X2_21 {v : Value} (C : JC G X rm cc RX2 nL) (q0 : Nat) (he : w[q0]? = some (a, .inr (2, fs))) (hv : fs[4]? = some v) (d : decode cc pc = .ok (.getfield 21, 3)) (kk : JW G X k n w (pc + 3) L (v :: rest)) : JW G X k n w pc L (.ref a :: rest) :=
  jw_get jU_X2 rfl 4 (by decide) rfl C kfl_X2_21 q0 he hv d kk
theorem fg_X3_84 {v : Value} (C : JC G X rm cc RX3 nL) (q0 : Nat) (he : w[q0]? = some (a, .inr (2, fs))) (hv : fs[4]? = some v) (d : decode cc pc = .ok (.getfield 84, 3)) (kk : JW G X k n w (pc + 3) L (v :: rest)) : JW G X k n w pc L (.ref a :: rest) :=
  jw_getN jU_X2 rfl 4 (by decide) rfl C kfn_X3_84 q0 he hv d kk
theorem fg_X2_43 {v : Value} (C : JC G X rm cc RX2 nL) (q0 : Nat) (he : w[q0]? = some (a, .inr (2, fs))) (hv : fs[5]? = some v) (d : decode cc pc = .ok (.getfield 43, 3)) (kk : JW G X k n w (pc + 3) L (v :: rest)) : JW G X k n w pc L (.ref a :: rest) :=
  jw_get jU_X2 rfl 5 (by decide) rfl C kfl_X2_43 q0 he hv d kk
theorem fp_X2_43 {v : Int32} (C : JC G X rm cc RX2 nL) (q0 : Nat) (he : w[q0]? = some (a, .inr (2, fs))) (hl : 5 < fs.length) (d : decode cc pc = .ok (.putfield 43, 3)) (kk : JW G X k n (w.set q0 (a, .inr (2, fs.set 5 (.int v)))) (pc + 3) L rest) : JW G X k n w pc L (.int v :: .ref a :: rest) :=
  jw_put (ty := .int) jU_X2 tyX2_ok nmX2 rfl 5 (by decide) rfl rfl (by decide +kernel) C kfl_X2_43 q0 he rfl rfl hl d kk
theorem fg_X3_81 {v : Value} (C : JC G X rm cc RX3 nL) (q0 : Nat) (he : w[q0]? = some (a, .inr (2, fs))) (hv : fs[5]? = some v) (d : decode cc pc = .ok (.getfield 81, 3)) (kk : JW G X k n w (pc + 3) L (v :: rest)) : JW G X k n w pc L (.ref a :: rest) :=
  jw_getN jU_X2 rfl 5 (by decide) rfl C kfn_X3_81 q0 he hv d kk
theorem fp_X3_81 {v : Int32} (C : JC G X rm cc RX3 nL) (q0 : Nat) (he : w[q0]? = some (a, .inr (2, fs))) (hl : 5 < fs.length) (d : decode cc pc = .ok (.putfield 81, 3)) (kk : JW G X k n (w.set q0 (a, .inr (2, fs.set 5 (.int v)))) (pc + 3) L rest) : JW G X k n w pc L (.int v :: .ref a :: rest) :=
  jw_putN (ty := .int) jU_X2 tyX2_ok nmX2 rfl 5 (by decide) rfl rfl (by decide +kernel) C kfn_X3_81 q0 he rfl rfl hl d kk
theorem fg_X3_15 {v : Value} (C : JC G X rm cc RX3 nL) (q0 : Nat) (he : w[q0]? = some (a, .inr (3, fs))) (hv : fs[0]? = some v) (d : decode cc pc = .ok (.getfield 15, 3)) (kk : JW G X k n w (pc + 3) L (v :: rest)) : JW G X k n w pc L (.ref a :: rest) :=
  jw_get jU_X3 rfl 0 (by decide) rfl C kfl_X3_15 q0 he hv d kk
theorem fg_X3_19 {v : Value} (C : JC G X rm cc RX3 nL) (q0 : Nat) (he : w[q0]? = some (a, .inr (3, fs))) (hv : fs[1]? = some v) (d : decode cc pc = .ok (.getfield 19, 3)) (kk : JW G X k n w (pc + 3) L (v :: rest)) : JW G X k n w pc L (.ref a :: rest) :=
  jw_get jU_X3 rfl 1 (by decide) rfl C kfl_X3_19 q0 he hv d kk
theorem fg_X3_23 {v : Value} (C : JC G X rm cc RX3 nL) (q0 : Nat) (he : w[q0]? = some (a, .inr (3, fs))) (hv : fs[2]? = some v) (d : decode cc pc = .ok (.getfield 23, 3)) (kk : JW G X k n w (pc + 3) L (v :: rest)) : JW G X k n w pc L (.ref a :: rest) :=
  jw_get jU_X3 rfl 2 (by decide) rfl C kfl_X3_23 q0 he hv d kk
theorem fg_X3_9 {v : Value} (C : JC G X rm cc RX3 nL) (q0 : Nat) (he : w[q0]? = some (a, .inr (3, fs))) (hv : fs[3]? = some v) (d : decode cc pc = .ok (.getfield 9, 3)) (kk : JW G X k n w (pc + 3) L (v :: rest)) : JW G X k n w pc L (.ref a :: rest) :=
  jw_get jU_X3 rfl 3 (by decide) rfl C kfl_X3_9 q0 he hv d kk
theorem fg_X0_37 {v : Value} (C : JC G X rm cc RX0 nL) (q0 : Nat) (he : w[q0]? = some (a, .inr (0, fs))) (hv : fs[0]? = some v) (d : decode cc pc = .ok (.getfield 37, 3)) (kk : JW G X k n w (pc + 3) L (v :: rest)) : JW G X k n w pc L (.ref a :: rest) :=
  jw_get jU_X0 rfl 0 (by decide) rfl C kfl_X0_37 q0 he hv d kk
theorem fg_X0_9 {v : Value} (C : JC G X rm cc RX0 nL) (q0 : Nat) (he : w[q0]? = some (a, .inr (0, fs))) (hv : fs[1]? = some v) (d : decode cc pc = .ok (.getfield 9, 3)) (kk : JW G X k n w (pc + 3) L (v :: rest)) : JW G X k n w pc L (.ref a :: rest) :=
  jw_get jU_X0 rfl 1 (by decide) rfl C kfl_X0_9 q0 he hv d kk
theorem fg_X0_15 {v : Value} (C : JC G X rm cc RX0 nL) (q0 : Nat) (he : w[q0]? = some (a, .inr (0, fs))) (hv : fs[2]? = some v) (d : decode cc pc = .ok (.getfield 15, 3)) (kk : JW G X k n w (pc + 3) L (v :: rest)) : JW G X k n w pc L (.ref a :: rest) :=
  jw_get jU_X0 rfl 2 (by decide) rfl C kfl_X0_15 q0 he hv d kk
theorem fg_X0_18 {v : Value} (C : JC G X rm cc RX0 nL) (q0 : Nat) (he : w[q0]? = some (a, .inr (0, fs))) (hv : fs[3]? = some v) (d : decode cc pc = .ok (.getfield 18, 3)) (kk : JW G X k n w (pc + 3) L (v :: rest)) : JW G X k n w pc L (.ref a :: rest) :=
  jw_get jU_X0 rfl 3 (by decide) rfl C kfl_X0_18 q0 he hv d kk
theorem fg_X0_21 {v : Value} (C : JC G X rm cc RX0 nL) (q0 : Nat) (he : w[q0]? = some (a, .inr (0, fs))) (hv : fs[4]? = some v) (d : decode cc pc = .ok (.getfield 21, 3)) (kk : JW G X k n w (pc + 3) L (v :: rest)) : JW G X k n w pc L (.ref a :: rest) :=
  jw_get jU_X0 rfl 4 (by decide) rfl C kfl_X0_21 q0 he hv d kk
theorem fg_X0_24 {v : Value} (C : JC G X rm cc RX0 nL) (q0 : Nat) (he : w[q0]? = some (a, .inr (0, fs))) (hv : fs[5]? = some v) (d : decode cc pc = .ok (.getfield 24, 3)) (kk : JW G X k n w (pc + 3) L (v :: rest)) : JW G X k n w pc L (.ref a :: rest) :=
  jw_get jU_X0 rfl 5 (by decide) rfl C kfl_X0_24 q0 he hv d kk
theorem fg_X0_27 {v : Value} (C : JC G X rm cc RX0 nL) (q0 : Nat) (he : w[q0]? = some (a, .inr (0, fs))) (hv : fs[7]? = some v) (d : decode cc pc = .ok (.getfield 27, 3)) (kk : JW G X k n w (pc + 3) L (v :: rest)) : JW G X k n w pc L (.ref a :: rest) :=
  jw_get jU_X0 rfl 7 (by decide) rfl C kfl_X0_27 q0 he hv d kk
theorem fg_X0_31 {v : Value} (C : JC G X rm cc RX0 nL) (q0 : Nat) (he : w[q0]? = some (a, .inr (0, fs))) (hv : fs[8]? = some v) (d : decode cc pc = .ok (.getfield 31, 3)) (kk : JW G X k n w (pc + 3) L (v :: rest)) : JW G X k n w pc L (.ref a :: rest) :=
  jw_get jU_X0 rfl 8 (by decide) rfl C kfl_X0_31 q0 he hv d kk
theorem fg_X0_34 {v : Value} (C : JC G X rm cc RX0 nL) (q0 : Nat) (he : w[q0]? = some (a, .inr (0, fs))) (hv : fs[9]? = some v) (d : decode cc pc = .ok (.getfield 34, 3)) (kk : JW G X k n w (pc + 3) L (v :: rest)) : JW G X k n w pc L (.ref a :: rest) :=
  jw_get jU_X0 rfl 9 (by decide) rfl C kfl_X0_34 q0 he hv d kk
theorem fg_X5_10 {v : Value} (C : JC G X rm cc RX5 nL) (q0 : Nat) (he : w[q0]? = some (a, .inr (5, fs))) (hv : fs[0]? = some v) (d : decode cc pc = .ok (.getfield 10, 3)) (kk : JW G X k n w (pc + 3) L (v :: rest)) : JW G X k n w pc L (.ref a :: rest) :=
  jw_get jU_X5 rfl 0 (by decide) rfl C kfl_X5_10 q0 he hv d kk
theorem fg_X5_19 {v : Value} (C : JC G X rm cc RX5 nL) (q0 : Nat) (he : w[q0]? = some (a, .inr (5, fs))) (hv : fs[1]? = some v) (d : decode cc pc = .ok (.getfield 19, 3)) (kk : JW G X k n w (pc + 3) L (v :: rest)) : JW G X k n w pc L (.ref a :: rest) :=
  jw_get jU_X5 rfl 1 (by decide) rfl C kfl_X5_19 q0 he hv d kk
theorem fg_X5_28 {v : Value} (C : JC G X rm cc RX5 nL) (q0 : Nat) (he : w[q0]? = some (a, .inr (5, fs))) (hv : fs[2]? = some v) (d : decode cc pc = .ok (.getfield 28, 3)) (kk : JW G X k n w (pc + 3) L (v :: rest)) : JW G X k n w pc L (.ref a :: rest) :=
  jw_get jU_X5 rfl 2 (by decide) rfl C kfl_X5_28 q0 he hv d kk
theorem fg_X5_37 {v : Value} (C : JC G X rm cc RX5 nL) (q0 : Nat) (he : w[q0]? = some (a, .inr (5, fs))) (hv : fs[3]? = some v) (d : decode cc pc = .ok (.getfield 37, 3)) (kk : JW G X k n w (pc + 3) L (v :: rest)) : JW G X k n w pc L (.ref a :: rest) :=
  jw_get jU_X5 rfl 3 (by decide) rfl C kfl_X5_37 q0 he hv d kk
theorem fg_X5_44 {v : Value} (C : JC G X rm cc RX5 nL) (q0 : Nat) (he : w[q0]? = some (a, .inr (5, fs))) (hv : fs[4]? = some v) (d : decode cc pc = .ok (.getfield 44, 3)) (kk : JW G X k n w (pc + 3) L (v :: rest)) : JW G X k n w pc L (.ref a :: rest) :=
  jw_get jU_X5 rfl 4 (by decide) rfl C kfl_X5_44 q0 he hv d kk
end JLINK
end
section
/-! THE STATES: the pool QP (as the class holds it), its log QL, the searches' rows; the world wC of the service's thirty cells; the model's state QR and its world wR -/
abbrev QP : Type := Int × (Nat → Int) × (Nat → Int) × (Nat → Int) × (Nat → Int) × (Nat → Int) × Int × (Nat → Int) × (Nat → Int32) × (Nat → Int) × (Nat → Int) × Int × Int
abbrev QP.res (P : QP) : Int := P.1
abbrev QP.cap (P : QP) : Nat → Int := P.2.1
abbrev QP.load (P : QP) : Nat → Int := P.2.2.1
abbrev QP.quo (P : QP) : Nat → Int := P.2.2.2.1
abbrev QP.wei (P : QP) : Nat → Int := P.2.2.2.2.1
abbrev QP.asg (P : QP) : Nat → Int := P.2.2.2.2.2.1
abbrev QP.req (P : QP) : Int := P.2.2.2.2.2.2.1
abbrev QP.grp (P : QP) : Nat → Int := P.2.2.2.2.2.2.2.1
abbrev QP.acc (P : QP) : Nat → Int32 := P.2.2.2.2.2.2.2.2.1
abbrev QP.plc (P : QP) : Nat → Int := P.2.2.2.2.2.2.2.2.2.1
abbrev QP.mov (P : QP) : Nat → Int := P.2.2.2.2.2.2.2.2.2.2.1
abbrev QP.pl (P : QP) : Int := P.2.2.2.2.2.2.2.2.2.2.2.1
abbrev QP.ml (P : QP) : Int := P.2.2.2.2.2.2.2.2.2.2.2.2
abbrev QL : Type := (Nat → Int) × (Nat → Int) × Int
abbrev QL.rq (s : QL) : Nat → Int := s.1
abbrev QL.tg (s : QL) : Nat → Int := s.2.1
abbrev QL.sz (s : QL) : Int := s.2.2
abbrev QA : Type := (Nat → Int32) × (Nat → Int32) × (Nat → Int) × (Nat → Int) × Int
abbrev QA.suc (s : QA) : Nat → Int32 := s.1
abbrev QA.lay (s : QA) : Nat → Int32 := s.2.1
abbrev QA.rs (s : QA) : Nat → Int := s.2.2.1
abbrev QA.rq (s : QA) : Nat → Int := s.2.2.2.1
abbrev QA.len (s : QA) : Int := s.2.2.2.2
abbrev QF : Type := (Nat → Int) × (Nat → Int32) × (Nat → Int) × (Nat → Int) × (Nat → Int) × Int × (Nat → Bool) × (Nat → Int) × (Nat → Int)
abbrev QF.node (s : QF) : Nat → Int := s.1
abbrev QF.acc (s : QF) : Nat → Int32 := s.2.1
abbrev QF.load (s : QF) : Nat → Int := s.2.2.1
abbrev QF.used (s : QF) : Nat → Int := s.2.2.2.1
abbrev QF.que (s : QF) : Nat → Int := s.2.2.2.2.1
abbrev QF.qd (s : QF) : Int := s.2.2.2.2.2.1
abbrev QF.seen (s : QF) : Nat → Bool := s.2.2.2.2.2.2.1
abbrev QF.bef (s : QF) : Nat → Int := s.2.2.2.2.2.2.2.1
abbrev QF.car (s : QF) : Nat → Int := s.2.2.2.2.2.2.2.2
abbrev jAI (G : jG) (a : Nat) (N : Nat) (f : Nat → Int32) : Nat × va_E := (a, .inl (G.2 0, N, .inl f))
abbrev jAZ (G : jG) (a : Nat) (N : Nat) (f : Nat → Int32) : Nat × va_E := (a, .inl (G.2 1, N, .inl f))
/-- the thirty cells of a service -/
abbrev wC (G : jG) (ad : Nat → Nat) (P : QP) (l : QL) (A : QA) (T : Nat → Bool) (F : QF) : va_W :=
  [(ad 0, .inr (5, [.ref (ad 1), .ref (ad 2), .ref (ad 3), .ref (ad 4), .ref (ad 5)])),
   (ad 1, .inr (4, [.int (iI P.res), .ref (ad 6), .ref (ad 7), .ref (ad 8), .ref (ad 9), .ref (ad 10), .int (iI P.req), .ref (ad 11), .ref (ad 12), .ref (ad 13), .ref (ad 14), .int (iI P.pl), .int (iI P.ml)])),
   (ad 2, .inr (1, [.ref (ad 15), .ref (ad 16), .int (iI l.sz)])),
   (ad 3, .inr (2, [.ref (ad 1), .ref (ad 17), .ref (ad 18), .ref (ad 19), .ref (ad 20), .int (iI A.len)])),
   (ad 4, .inr (3, [.ref (ad 1), .ref (ad 3), .ref (ad 2), .ref (ad 21)])),
   (ad 5, .inr (0, [.ref (ad 1), .ref (ad 22), .ref (ad 23), .ref (ad 24), .ref (ad 25), .ref (ad 26), .int (iI F.qd), .ref (ad 27), .ref (ad 28), .ref (ad 29)])),
   jAI G (ad 6) 12 (jiI P.cap), jAI G (ad 7) 12 (jiI P.load), jAI G (ad 8) 4 (jiI P.quo), jAI G (ad 9) 4 (jiI P.wei), jAI G (ad 10) 4 (jiI P.asg),
   jAI G (ad 11) 40 (jiI P.grp), jAI G (ad 12) 40 P.acc, jAI G (ad 13) 40 (jiI P.plc), jAI G (ad 14) 40 (jiI P.mov),
   jAI G (ad 15) 200 (jiI l.rq), jAI G (ad 16) 200 (jiI l.tg),
   jAI G (ad 17) 12 A.suc, jAI G (ad 18) 13 A.lay, jAI G (ad 19) 12 (jiI A.rs), jAI G (ad 20) 12 (jiI A.rq),
   jAZ G (ad 21) 40 (jbF T),
   jAI G (ad 22) 40 (jiI F.node), jAI G (ad 23) 40 F.acc, jAI G (ad 24) 12 (jiI F.load), jAI G (ad 25) 4 (jiI F.used), jAI G (ad 26) 16 (jiI F.que),
   jAZ G (ad 27) 16 (jbF F.seen), jAI G (ad 28) 16 (jiI F.bef), jAI G (ad 29) 16 (jiI F.car)]
/-- the model's state, as it holds it -/
abbrev QR : Type := Int × Int × (Nat → Int) × (Nat → Int) × (Nat → Int) × Int × (Nat → Int) × (Nat → Int32) × (Nat → Int) × (Nat → Int) × (Nat → Int) × Int × Int × Int × (Nat → Int) × (Nat → Int) × (Nat → Int) × (Nat → Bool) × (Nat → Int) × (Nat → Int)
abbrev QR.thr (R : QR) : Int := R.1
abbrev QR.res (R : QR) : Int := R.2.1
abbrev QR.cap (R : QR) : Nat → Int := R.2.2.1
abbrev QR.quo (R : QR) : Nat → Int := R.2.2.2.1
abbrev QR.wei (R : QR) : Nat → Int := R.2.2.2.2.1
abbrev QR.req (R : QR) : Int := R.2.2.2.2.2.1
abbrev QR.grp (R : QR) : Nat → Int := R.2.2.2.2.2.2.1
abbrev QR.msk (R : QR) : Nat → Int32 := R.2.2.2.2.2.2.2.1
abbrev QR.st (R : QR) : Nat → Int := R.2.2.2.2.2.2.2.2.1
abbrev QR.pls (R : QR) : Nat → Int := R.2.2.2.2.2.2.2.2.2.1
abbrev QR.mov (R : QR) : Nat → Int := R.2.2.2.2.2.2.2.2.2.2.1
abbrev QR.pl (R : QR) : Int := R.2.2.2.2.2.2.2.2.2.2.2.1
abbrev QR.ml (R : QR) : Int := R.2.2.2.2.2.2.2.2.2.2.2.2.1
abbrev QR.lgd (R : QR) : Int := R.2.2.2.2.2.2.2.2.2.2.2.2.2.1
abbrev QR.lr (R : QR) : Nat → Int := R.2.2.2.2.2.2.2.2.2.2.2.2.2.2.1
abbrev QR.lp (R : QR) : Nat → Int := R.2.2.2.2.2.2.2.2.2.2.2.2.2.2.2.1
abbrev QR.far (R : QR) : Nat → Int := R.2.2.2.2.2.2.2.2.2.2.2.2.2.2.2.2.1
abbrev QR.tri (R : QR) : Nat → Bool := R.2.2.2.2.2.2.2.2.2.2.2.2.2.2.2.2.2.1
abbrev QR.pr (R : QR) : Nat → Int := R.2.2.2.2.2.2.2.2.2.2.2.2.2.2.2.2.2.2.1
abbrev QR.pp (R : QR) : Nat → Int := R.2.2.2.2.2.2.2.2.2.2.2.2.2.2.2.2.2.2.2
/-- the model's fifteen cells -/
abbrev wR (G : jG) (ad : Nat → Nat) (s : QR) : va_W :=
  [(ad 0, .inr (6, [.int (iI s.thr), .int (iI s.res), .ref (ad 1), .ref (ad 2), .ref (ad 3), .int (iI s.req), .ref (ad 4), .ref (ad 5), .ref (ad 6), .ref (ad 7), .ref (ad 8), .int (iI s.pl), .int (iI s.ml), .int (iI s.lgd), .ref (ad 9), .ref (ad 10), .ref (ad 11), .ref (ad 12), .ref (ad 13), .ref (ad 14)])),
   jAI G (ad 1) 12 (jiI s.cap), jAI G (ad 2) 4 (jiI s.quo), jAI G (ad 3) 4 (jiI s.wei), jAI G (ad 4) 40 (jiI s.grp), jAI G (ad 5) 40 s.msk, jAI G (ad 6) 40 (jiI s.st), jAI G (ad 7) 40 (jiI s.pls), jAI G (ad 8) 40 (jiI s.mov),
   jAI G (ad 9) 400 (jiI s.lr), jAI G (ad 10) 400 (jiI s.lp), jAI G (ad 11) 12 (jiI s.far), jAZ G (ad 12) 40 (jbF s.tri), jAI G (ad 13) 12 (jiI s.pr), jAI G (ad 14) 12 (jiI s.pp)]
/-- how many numbers below n have p -/
def cntF (p : Nat → Bool) : Nat → Int
  | 0 => 0
  | n + 1 => cntF p n + (if p n then 1 else 0)
/-- the ranges of a pool's numbers, and its counts -/
def PR (P : QP) : Prop := (0 ≤ P.res ∧ P.res ≤ 12) ∧ (0 ≤ P.req ∧ P.req ≤ 40) ∧ (0 ≤ P.pl ∧ P.pl ≤ 5) ∧ (0 ≤ P.ml ∧ P.ml ≤ 20) ∧ (∀ i, 0 ≤ P.cap i ∧ P.cap i ≤ 4) ∧ (∀ i, 0 ≤ P.quo i ∧ P.quo i ≤ 40) ∧ (∀ i, 0 ≤ P.wei i ∧ P.wei i ≤ 10) ∧ (∀ i, i < 4 → 1 ≤ P.wei i) ∧ (∀ i, 0 ≤ P.grp i ∧ P.grp i ≤ 3) ∧ (∀ i, -2 ≤ P.plc i ∧ P.plc i ≤ 11) ∧ (∀ i, 0 ≤ P.mov i ∧ P.mov i ≤ 20) ∧ (∀ i : Nat, (i : Int) < P.req → P.plc i < P.res)
def PCt (P : QP) : Prop := (∀ a : Nat, P.load a = cntF (fun r => decide (P.plc r = (a : Int))) P.req.toNat) ∧ (∀ g : Nat, P.asg g = cntF (fun r => decide (0 ≤ P.plc r ∧ P.grp r = (g : Int))) P.req.toNat)
def PI (P : QP) : Prop := PR P ∧ PCt P
section
variable {P : QP}
theorem PI.res (h : PI P) : 0 ≤ P.res ∧ P.res ≤ 12 := h.1.1
theorem PI.req (h : PI P) : 0 ≤ P.req ∧ P.req ≤ 40 := h.1.2.1
theorem PI.pl (h : PI P) : 0 ≤ P.pl ∧ P.pl ≤ 5 := h.1.2.2.1
theorem PI.ml (h : PI P) : 0 ≤ P.ml ∧ P.ml ≤ 20 := h.1.2.2.2.1
theorem PI.cap (h : PI P) (i : Nat) : 0 ≤ P.cap i ∧ P.cap i ≤ 4 := h.1.2.2.2.2.1 i
theorem PI.quo (h : PI P) (i : Nat) : 0 ≤ P.quo i ∧ P.quo i ≤ 40 := h.1.2.2.2.2.2.1 i
theorem PI.wei (h : PI P) (i : Nat) : 0 ≤ P.wei i ∧ P.wei i ≤ 10 := h.1.2.2.2.2.2.2.1 i
theorem PI.wei1 (h : PI P) (i : Nat) (hi : i < 4) : 1 ≤ P.wei i := h.1.2.2.2.2.2.2.2.1 i hi
theorem PI.grp (h : PI P) (i : Nat) : 0 ≤ P.grp i ∧ P.grp i ≤ 3 := h.1.2.2.2.2.2.2.2.2.1 i
theorem PI.plc (h : PI P) (i : Nat) : -2 ≤ P.plc i ∧ P.plc i ≤ 11 := h.1.2.2.2.2.2.2.2.2.2.1 i
theorem PI.mov (h : PI P) (i : Nat) : 0 ≤ P.mov i ∧ P.mov i ≤ 20 := h.1.2.2.2.2.2.2.2.2.2.2.1 i
theorem PI.plr (h : PI P) (i : Nat) (hi : (i : Int) < P.req) : P.plc i < P.res := h.1.2.2.2.2.2.2.2.2.2.2.2 i hi
end
theorem cntF_nn (p : Nat → Bool) : ∀ n, 0 ≤ cntF p n
  | 0 => Int.le_refl 0
  | n + 1 => by
    have := cntF_nn p n
    simp only [cntF]
    split <;> omega
theorem cntF_le (p : Nat → Bool) : ∀ n : Nat, cntF p n ≤ n
  | 0 => Int.le_refl 0
  | n + 1 => by
    have := cntF_le p n
    simp only [cntF]
    split <;> omega
theorem PI.load {P : QP} (h : PI P) (a : Nat) : 0 ≤ P.load a ∧ P.load a ≤ 40 := by
  have h1 := h.2.1 a
  have h2 := cntF_nn (fun r => decide (P.plc r = (a : Int))) P.req.toNat
  have h3 := cntF_le (fun r => decide (P.plc r = (a : Int))) P.req.toNat
  have h4 := h.req
  omega
theorem PI.asg {P : QP} (h : PI P) (g : Nat) : 0 ≤ P.asg g ∧ P.asg g ≤ 40 := by
  have h1 := h.2.2 g
  have h2 := cntF_nn (fun r => decide (0 ≤ P.plc r ∧ P.grp r = (g : Int))) P.req.toNat
  have h3 := cntF_le (fun r => decide (0 ≤ P.plc r ∧ P.grp r = (g : Int))) P.req.toNat
  have h4 := h.req
  omega
end
section
/-! WHAT THE POOL'S METHODS DO, in words of QP -/
theorem cntF_congr {p q : Nat → Bool} : ∀ {n : Nat}, (∀ j, j < n → q j = p j) → cntF q n = cntF p n
  | 0, _ => rfl
  | n + 1, h => by
    simp only [cntF]
    rw [cntF_congr (fun j hj => h j (by omega)), h n (by omega)]
theorem cntF_upd {p q : Nat → Bool} {k : Nat} : ∀ {n : Nat}, k < n → (∀ j, j ≠ k → q j = p j) → cntF q n = cntF p n - (if p k then 1 else 0) + (if q k then 1 else 0)
  | 0, hk, _ => absurd hk (Nat.not_lt_zero _)
  | n + 1, hk, h => by
    simp only [cntF]
    by_cases e : k = n
    · subst e
      rw [cntF_congr (fun j hj => h j (by omega))]
      omega
    · rw [cntF_upd (k := k) (by omega) h, h n (by omega)]
      omega
theorem cntF_pos {p : Nat → Bool} {k : Nat} : ∀ {n : Nat}, k < n → p k = true → 1 ≤ cntF p n
  | 0, hk, _ => absurd hk (Nat.not_lt_zero _)
  | n + 1, hk, h => by
    simp only [cntF]
    by_cases e : k = n
    · subst e
      have := cntF_nn p k
      rw [if_pos h]
      omega
    · have := cntF_pos (n := n) (k := k) (by omega) h
      split <;> omega
theorem cntF_mono {p q : Nat → Bool} : ∀ {n : Nat}, (∀ j, j < n → p j = true → q j = true) → cntF p n ≤ cntF q n
  | 0, _ => Int.le_refl 0
  | n + 1, h => by
    have h1 := cntF_mono (n := n) (fun j hj => h j (by omega))
    simp only [cntF]
    have h2 := h n (by omega)
    cases e : p n
    · simp only [Bool.false_eq_true, if_false]
      split <;> omega
    · rw [if_pos (h2 e)]
      simp only [if_true]
      omega
theorem updf_same {α : Type} (f : Nat → α) (k : Nat) (v : α) : updf f k v k = v := by simp [updf]
theorem updf_ne {α : Type} (f : Nat → α) {k j : Nat} (v : α) (h : j ≠ k) : updf f k v j = f j := by simp [updf, h]
def stN (p : Int) : Int := if p = -1 then 0 else if 0 ≤ p then 1 else 2
abbrev pPutT (P : QP) (r : Nat) : QP := (P.res, P.cap, updf P.load (P.plc r).toNat (P.load (P.plc r).toNat - 1), P.quo, P.wei, updf P.asg (P.grp r).toNat (P.asg (P.grp r).toNat - 1), P.req, P.grp, P.acc, updf P.plc r (-1), P.mov, P.pl, P.ml)
def pPut (P : QP) (r : Nat) : QP := if 0 ≤ P.plc r then pPutT P r else P
def pAssign (P : QP) (r a : Nat) : QP := (P.res, P.cap, updf P.load a (P.load a + 1), P.quo, P.wei, updf P.asg (P.grp r).toNat (P.asg (P.grp r).toNat + 1), P.req, P.grp, P.acc, updf P.plc r (a : Int), P.mov, P.pl, P.ml)
def pBump (P : QP) (r : Nat) : QP := (P.res, P.cap, P.load, P.quo, P.wei, P.asg, P.req, P.grp, P.acc, P.plc, updf P.mov r (P.mov r + 1), P.pl, P.ml)
def pMove (P : QP) (r a : Nat) : QP := pBump (pAssign (pPut P r) r a) r
def pOpen (P : QP) (c : Int) : QP := (P.res + 1, updf P.cap P.res.toNat c, P.load, P.quo, P.wei, P.asg, P.req, P.grp, P.acc, P.plc, P.mov, P.pl, P.ml)
def pAdmit (P : QP) (g : Int) (m : Int32) : QP := (P.res, P.cap, P.load, P.quo, P.wei, P.asg, P.req + 1, updf P.grp P.req.toNat g, updf P.acc P.req.toNat m, updf P.plc P.req.toNat (-1), P.mov, P.pl, P.ml)
def pGone (P : QP) (r : Nat) : QP := (P.res, P.cap, P.load, P.quo, P.wei, P.asg, P.req, P.grp, P.acc, updf P.plc r (-2), P.mov, P.pl, P.ml)
def pDismiss (P : QP) (r : Nat) : QP := pGone (pPut P r) r
def pMask (P : QP) (r : Nat) (m : Int32) : QP := (P.res, P.cap, P.load, P.quo, P.wei, P.asg, P.req, P.grp, updf P.acc r m, P.plc, P.mov, P.pl, P.ml)
def pCap (P : QP) (a : Nat) (c : Int) : QP := (P.res, updf P.cap a c, P.load, P.quo, P.wei, P.asg, P.req, P.grp, P.acc, P.plc, P.mov, P.pl, P.ml)
def pGrp (P : QP) (g : Nat) (q w : Int) : QP := (P.res, P.cap, P.load, updf P.quo g q, updf P.wei g w, P.asg, P.req, P.grp, P.acc, P.plc, P.mov, P.pl, P.ml)
def pLim (P : QP) (x y : Int) : QP := (P.res, P.cap, P.load, P.quo, P.wei, P.asg, P.req, P.grp, P.acc, P.plc, P.mov, x, y)
/-- a mask's bit, as the class asks for it -/
def bitB (m : Int32) (k : Nat) : Bool := decide (¬ ((m >>> (iI (k : Int) &&& 31)) &&& iI 1) = 0)
def pAccept (P : QP) (r : Nat) (m : Int32) : QP := if 0 ≤ P.plc r ∧ bitB m (P.plc r).toNat = false then pPut (pMask P r m) r else pMask P r m
def pBackC (a : Nat) : Nat → QP → Int → QP × Int
  | 0, P, c => (P, c)
  | k + 1, P, c => if P.load a ≤ P.cap a then (P, c) else if P.plc k = (a : Int) then pBackC a k (pPut P k) (c + 1) else pBackC a k P c
def pBackQ (g : Nat) : Nat → QP → Int → QP × Int
  | 0, P, c => (P, c)
  | k + 1, P, c => if P.asg g ≤ P.quo g then (P, c) else if P.grp k = (g : Int) ∧ 0 ≤ P.plc k then pBackQ g k (pPut P k) (c + 1) else pBackQ g k P c
theorem pPut_pos {P : QP} {r : Nat} (h : 0 ≤ P.plc r) : pPut P r = pPutT P r := if_pos h
theorem pPut_neg {P : QP} {r : Nat} (h : ¬ 0 ≤ P.plc r) : pPut P r = P := if_neg h
theorem PI_put {P : QP} {r : Nat} (hI : PI P) (hr : (r : Int) < P.req) : PI (pPut P r) := by
  by_cases h : 0 ≤ P.plc r
  · rw [pPut_pos h]
    obtain ⟨⟨h1, h2, h3, h4, h5, h6, h7, h8, h9, h10, h11, h12⟩, h13, h14⟩ := hI
    have hrn : r < P.req.toNat := by omega
    refine ⟨⟨h1, h2, h3, h4, h5, h6, h7, h8, h9, fun i => ?_, h11, fun i hi => ?_⟩, fun a => ?_, fun g => ?_⟩
    · show -2 ≤ updf P.plc r (-1) i ∧ updf P.plc r (-1) i ≤ 11
      by_cases e : i = r
      · subst e; rw [updf_same]; omega
      · rw [updf_ne _ _ e]; exact h10 i
    · show updf P.plc r (-1) i < P.res
      by_cases e : i = r
      · subst e; rw [updf_same]; omega
      · rw [updf_ne _ _ e]; exact h12 i hi
    · show updf P.load (P.plc r).toNat (P.load (P.plc r).toNat - 1) a = cntF (fun x => decide (updf P.plc r (-1) x = (a : Int))) P.req.toNat
      have hq := cntF_upd (p := fun x => decide (P.plc x = (a : Int))) (q := fun x => decide (updf P.plc r (-1) x = (a : Int))) hrn (fun j hj => by simp only [updf_ne _ _ hj])
      rw [hq, updf_same, ← h13 a]
      have e1 : decide ((-1 : Int) = (a : Int)) = false := by simp <;> omega
      rw [e1]
      by_cases e : a = (P.plc r).toNat
      · subst e
        have e2 : decide (P.plc r = ((P.plc r).toNat : Int)) = true := by simp <;> omega
        rw [updf_same, e2]
        simp
      · have e2 : decide (P.plc r = (a : Int)) = false := by simp <;> omega
        rw [updf_ne _ _ e, e2]
        simp
    · show updf P.asg (P.grp r).toNat (P.asg (P.grp r).toNat - 1) g = cntF (fun x => decide (0 ≤ updf P.plc r (-1) x ∧ P.grp x = (g : Int))) P.req.toNat
      have hq := cntF_upd (p := fun x => decide (0 ≤ P.plc x ∧ P.grp x = (g : Int))) (q := fun x => decide (0 ≤ updf P.plc r (-1) x ∧ P.grp x = (g : Int))) hrn (fun j hj => by simp only [updf_ne _ _ hj])
      rw [hq, updf_same, ← h14 g]
      have hg := h9 r
      have e1 : decide (0 ≤ (-1 : Int) ∧ P.grp r = (g : Int)) = false := by simp
      rw [e1]
      by_cases e : g = (P.grp r).toNat
      · subst e
        have e2 : decide (0 ≤ P.plc r ∧ P.grp r = ((P.grp r).toNat : Int)) = true := by simp <;> omega
        rw [updf_same, e2]
        simp
      · have e2 : decide (0 ≤ P.plc r ∧ P.grp r = (g : Int)) = false := by simp <;> omega
        rw [updf_ne _ _ e, e2]
        simp
  · rw [pPut_neg h]; exact hI
theorem PI_assign {P : QP} {r a : Nat} (hI : PI P) (hr : (r : Int) < P.req) (h : P.plc r < 0) (ha : (a : Int) < P.res) : PI (pAssign P r a) := by
  obtain ⟨⟨h1, h2, h3, h4, h5, h6, h7, h8, h9, h10, h11, h12⟩, h13, h14⟩ := hI
  have hrn : r < P.req.toNat := by omega
  refine ⟨⟨h1, h2, h3, h4, h5, h6, h7, h8, h9, fun i => ?_, h11, fun i hi => ?_⟩, fun b => ?_, fun g => ?_⟩
  · show -2 ≤ updf P.plc r (a : Int) i ∧ updf P.plc r (a : Int) i ≤ 11
    by_cases e : i = r
    · subst e; rw [updf_same]; omega
    · rw [updf_ne _ _ e]; exact h10 i
  · show updf P.plc r (a : Int) i < P.res
    by_cases e : i = r
    · subst e; rw [updf_same]; omega
    · rw [updf_ne _ _ e]; exact h12 i hi
  · show updf P.load a (P.load a + 1) b = cntF (fun x => decide (updf P.plc r (a : Int) x = (b : Int))) P.req.toNat
    have hq := cntF_upd (p := fun x => decide (P.plc x = (b : Int))) (q := fun x => decide (updf P.plc r (a : Int) x = (b : Int))) hrn (fun j hj => by simp only [updf_ne _ _ hj])
    rw [hq, updf_same, ← h13 b]
    have e1 : decide (P.plc r = (b : Int)) = false := by simp <;> omega
    rw [e1]
    by_cases e : b = a
    · subst e
      rw [updf_same]
      simp
    · have e2 : decide ((a : Int) = (b : Int)) = false := by simp <;> omega
      rw [updf_ne _ _ e, e2]
      simp
  · show updf P.asg (P.grp r).toNat (P.asg (P.grp r).toNat + 1) g = cntF (fun x => decide (0 ≤ updf P.plc r (a : Int) x ∧ P.grp x = (g : Int))) P.req.toNat
    have hq := cntF_upd (p := fun x => decide (0 ≤ P.plc x ∧ P.grp x = (g : Int))) (q := fun x => decide (0 ≤ updf P.plc r (a : Int) x ∧ P.grp x = (g : Int))) hrn (fun j hj => by simp only [updf_ne _ _ hj])
    rw [hq, updf_same, ← h14 g]
    have hg := h9 r
    have e1 : decide (0 ≤ P.plc r ∧ P.grp r = (g : Int)) = false := by simp <;> omega
    rw [e1]
    by_cases e : g = (P.grp r).toNat
    · subst e
      have e2 : decide (0 ≤ (a : Int) ∧ P.grp r = ((P.grp r).toNat : Int)) = true := by simp <;> omega
      rw [updf_same, e2]
      simp
    · have e2 : decide (0 ≤ (a : Int) ∧ P.grp r = (g : Int)) = false := by simp <;> omega
      rw [updf_ne _ _ e, e2]
      simp
theorem PI_bump {P : QP} {r : Nat} (hI : PI P) (h : P.mov r < 20) : PI (pBump P r) := by
  obtain ⟨⟨h1, h2, h3, h4, h5, h6, h7, h8, h9, h10, h11, h12⟩, h13, h14⟩ := hI
  refine ⟨⟨h1, h2, h3, h4, h5, h6, h7, h8, h9, h10, fun i => ?_, h12⟩, h13, h14⟩
  show 0 ≤ updf P.mov r (P.mov r + 1) i ∧ updf P.mov r (P.mov r + 1) i ≤ 20
  by_cases e : i = r
  · subst e; rw [updf_same]; have := h11 i; omega
  · rw [updf_ne _ _ e]; exact h11 i
theorem pPut_plc (P : QP) (r : Nat) : (pPut P r).plc r < 0 := by
  by_cases h : 0 ≤ P.plc r
  · rw [pPut_pos h]; show updf P.plc r (-1) r < 0; rw [updf_same]; omega
  · rw [pPut_neg h]; omega
theorem pPut_req (P : QP) (r : Nat) : (pPut P r).req = P.req := by unfold pPut; split <;> rfl
theorem pPut_res (P : QP) (r : Nat) : (pPut P r).res = P.res := by unfold pPut; split <;> rfl
theorem pPut_cap (P : QP) (r : Nat) : (pPut P r).cap = P.cap := by unfold pPut; split <;> rfl
theorem pPut_quo (P : QP) (r : Nat) : (pPut P r).quo = P.quo := by unfold pPut; split <;> rfl
theorem pPut_wei (P : QP) (r : Nat) : (pPut P r).wei = P.wei := by unfold pPut; split <;> rfl
theorem pPut_grp (P : QP) (r : Nat) : (pPut P r).grp = P.grp := by unfold pPut; split <;> rfl
theorem pPut_acc (P : QP) (r : Nat) : (pPut P r).acc = P.acc := by unfold pPut; split <;> rfl
theorem pPut_mov (P : QP) (r : Nat) : (pPut P r).mov = P.mov := by unfold pPut; split <;> rfl
theorem pPut_pl (P : QP) (r : Nat) : (pPut P r).pl = P.pl := by unfold pPut; split <;> rfl
theorem pPut_ml (P : QP) (r : Nat) : (pPut P r).ml = P.ml := by unfold pPut; split <;> rfl
theorem PI_move {P : QP} {r a : Nat} (hI : PI P) (hr : (r : Int) < P.req) (ha : (a : Int) < P.res) (hm : P.mov r < 20) : PI (pMove P r a) := by
  refine PI_bump (PI_assign (PI_put hI hr) (by rw [pPut_req]; exact hr) (pPut_plc P r) (by rw [pPut_res]; exact ha)) ?_
  show (pPut P r).mov r < 20
  rw [pPut_mov]
  exact hm
def sumF (f : Nat → Int) : Nat → Int
  | 0 => 0
  | n + 1 => sumF f n + f n
def lAdd (l : QL) (r a : Int) : QL := if l.sz < 200 then (updf l.rq l.sz.toNat r, updf l.tg l.sz.toNat a, l.sz + 1) else l
theorem updf_fill {α : Type} {f : Nat → α} {v : α} {i : Nat} (h : ∀ a, a < i → f a = v) : ∀ a, a < i + 1 → updf f i v a = v := by
  intro a ha
  by_cases e : a = i
  · subst e; exact updf_same _ _ _
  · rw [updf_ne _ _ e]; exact h a (by omega)
end
section
/-! ===== Int32 by its bits: bt x i ===== -/
def bt (x : Int32) (i : Nat) : Bool := x.toBitVec.getLsbD i
theorem b_ext {x y : Int32} (h : ∀ i, i < 32 → bt x i = bt y i) : x = y := Int32.toBitVec_inj.mp (BitVec.eq_of_getLsbD_eq (fun i hi => h i hi))
theorem b_or (x y : Int32) (i : Nat) : bt (x ||| y) i = (bt x i || bt y i) := by unfold bt; rw [Int32.toBitVec_or, BitVec.getLsbD_or]
theorem b_and (x y : Int32) (i : Nat) : bt (x &&& y) i = (bt x i && bt y i) := by unfold bt; rw [Int32.toBitVec_and, BitVec.getLsbD_and]
theorem b_xor (x y : Int32) (i : Nat) : bt (x ^^^ y) i = (bt x i ^^ bt y i) := by unfold bt; rw [Int32.toBitVec_xor, BitVec.getLsbD_xor]
theorem b_big {x : Int32} {i : Nat} (h : 32 ≤ i) : bt x i = false := BitVec.getLsbD_of_ge _ _ h
theorem b_255 (i : Nat) : bt 255 i = decide (i < 8) := by
  rcases Nat.lt_or_ge i 32 with h | h
  · exact (by decide +kernel : ∀ i, i < 32 → bt 255 i = decide (i < 8)) i h
  · rw [b_big h, decide_eq_false (by omega)]
theorem b_65535 (i : Nat) : bt 65535 i = decide (i < 16) := by
  rcases Nat.lt_or_ge i 32 with h | h
  · exact (by decide +kernel : ∀ i, i < 32 → bt 65535 i = decide (i < 16)) i h
  · rw [b_big h, decide_eq_false (by omega)]
theorem b_m1 : ∀ i, i < 32 → bt (-1) i = true := by decide +kernel
theorem b_0 (i : Nat) : bt 0 i = false := BitVec.getLsbD_zero
theorem s_l : ∀ n, n < 32 → ((nI n &&& 31).toBitVec.smod 32).toNat = n := by decide +kernel
theorem s_u : ∀ n, n < 32 → (((nI n).toUInt32 &&& Int32.toUInt32 31).toBitVec % 32).toNat = n := by decide +kernel
theorem b_shl (n : Nat) (hn : n < 32) (x : Int32) {i : Nat} (hi : i < 32) : bt (x <<< (nI n &&& 31)) i = (decide (n ≤ i) && bt x (i - n)) := by
  unfold bt
  rw [Int32.toBitVec_shiftLeft]
  show (x.toBitVec <<< ((nI n &&& 31).toBitVec.smod 32).toNat).getLsbD i = _
  rw [s_l n hn, BitVec.getLsbD_shiftLeft]
  rcases Nat.lt_or_ge i n with h | h
  · simp [h, Nat.not_le.mpr h]
  · simp [hi, h, Nat.not_lt.mpr h]
theorem b_ushr (n : Nat) (hn : n < 32) (x : Int32) (i : Nat) : bt ((x.toUInt32 >>> ((nI n).toUInt32 &&& Int32.toUInt32 31)).toInt32) i = bt x (n + i) := by
  show (x.toUInt32 >>> ((nI n).toUInt32 &&& Int32.toUInt32 31)).toBitVec.getLsbD i = x.toUInt32.toBitVec.getLsbD (n + i)
  rw [UInt32.toBitVec_shiftRight]
  show (x.toUInt32.toBitVec >>> (((nI n).toUInt32 &&& Int32.toUInt32 31).toBitVec % 32).toNat).getLsbD i = _
  rw [s_u n hn, BitVec.getLsbD_ushiftRight]
theorem b_sshr (n : Nat) (hn : n < 32) (x : Int32) {i : Nat} (hi : i < 32) : bt (x >>> (nI n &&& 31)) i = if n + i < 32 then bt x (n + i) else bt x 31 := by
  unfold bt
  rw [Int32.toBitVec_shiftRight]
  show (x.toBitVec.sshiftRight ((nI n &&& 31).toBitVec.smod 32).toNat).getLsbD i = _
  rw [s_l n hn, BitVec.getLsbD_sshiftRight, BitVec.msb_eq_getLsbD_last]
  simp [hi]
theorem b_shl8 (x : Int32) {i : Nat} (hi : i < 32) : bt (x <<< ((8 : Int32) &&& 31)) i = (decide (8 ≤ i) && bt x (i - 8)) := b_shl 8 (by omega) x hi
theorem b_shl16 (x : Int32) {i : Nat} (hi : i < 32) : bt (x <<< ((16 : Int32) &&& 31)) i = (decide (16 ≤ i) && bt x (i - 16)) := b_shl 16 (by omega) x hi
theorem b_shl24 (x : Int32) {i : Nat} (hi : i < 32) : bt (x <<< ((24 : Int32) &&& 31)) i = (decide (24 ≤ i) && bt x (i - 24)) := b_shl 24 (by omega) x hi
theorem b_sshr8 (x : Int32) {i : Nat} (hi : i < 32) : bt (x >>> ((8 : Int32) &&& 31)) i = if 8 + i < 32 then bt x (8 + i) else bt x 31 := b_sshr 8 (by omega) x hi
/-! my rows on masks -/
theorem iI_nI (k : Nat) : iI (k : Int) = nI k := by
  first | rfl | (unfold iI nI; simp)
theorem b_and0 {a b : Int32} : a &&& b = 0 ↔ ∀ k, k < 32 → (bt a k && bt b k) = false := by
  constructor
  · intro h k hk
    rw [← b_and, h, b_0]
  · intro h
    apply b_ext
    intro i hi
    rw [b_and, b_0]
    exact h i hi
theorem b_one : ∀ j, j < 32 → bt (iI 1) j = decide (j = 0) := by decide +kernel
theorem bitB_bt (m : Int32) {k : Nat} (hk : k < 31) : bitB m k = bt m k := by
  unfold bitB
  rw [iI_nI]
  have key : ((m >>> (nI k &&& 31)) &&& iI 1) = 0 ↔ bt m k = false := by
    rw [b_and0]
    constructor
    · intro h
      have h0 := h 0 (by omega)
      rw [b_sshr k (by omega) m (by omega), if_pos (by omega), b_one 0 (by omega)] at h0
      simpa using h0
    · intro h j hj
      rw [b_one j hj]
      by_cases e : j = 0
      · subst e
        rw [b_sshr k (by omega) m (by omega), if_pos (by omega)]
        simpa using h
      · simp [e]
  cases hb : bt m k
  · simp [key.mpr hb]
  · simp only [decide_eq_true_eq]
    intro h
    rw [key.mp h] at hb
    cases hb
theorem b_pow {k j : Nat} (hk : k < 32) (hj : j < 32) : bt (iI 1 <<< (iI (k : Int) &&& 31)) j = decide (j = k) := by
  rw [iI_nI, b_shl k hk _ hj]
  rcases Nat.lt_or_ge j k with h | h
  · have e1 : decide (k ≤ j) = false := decide_eq_false (by omega)
    rw [e1]
    have e2 : decide (j = k) = false := decide_eq_false (by omega)
    rw [e2]
    rfl
  · have e1 : decide (k ≤ j) = true := decide_eq_true h
    rw [e1, b_one _ (by omega), Bool.true_and]
    apply decide_eq_decide.mpr
    omega
theorem b_not {m : Int32} {j : Nat} (hj : j < 32) : bt (m ^^^ iI (-1)) j = !bt m j := by
  rw [b_xor, show iI (-1) = -1 from rfl, b_m1 j hj]
  cases bt m j <;> rfl
theorem b_all : ∀ n, n < 13 → ∀ j, j < 32 → bt (iI 1 <<< (iI ((n : Nat) : Int) &&& 31) - iI 1) j = decide (j < n) := by decide +kernel
end
section
/-! PATHS, by numbers: exB (some number below n has p), lstI (the first such, or -1), sn (a resource has a path of at most k resources), dS (how many resources its shortest path has; 100: none) -/
def exB (p : Nat → Bool) : Nat → Bool
  | 0 => false
  | n + 1 => exB p n || p n
theorem exB_iff {p : Nat → Bool} : ∀ {n : Nat}, exB p n = true ↔ ∃ k, k < n ∧ p k = true
  | 0 => by simp [exB]
  | n + 1 => by
    simp only [exB, Bool.or_eq_true, exB_iff (n := n)]
    constructor
    · rintro (⟨k, h1, h2⟩ | h)
      · exact ⟨k, by omega, h2⟩
      · exact ⟨n, by omega, h⟩
    · rintro ⟨k, h1, h2⟩
      by_cases e : k = n
      · subst e; exact Or.inr h2
      · exact Or.inl ⟨k, by omega, h2⟩
theorem exB_no {p : Nat → Bool} {n : Nat} : exB p n = false ↔ ∀ k, k < n → p k = false := by
  rw [← Bool.not_eq_true, exB_iff]
  constructor
  · intro h k hk
    cases e : p k
    · rfl
    · exact absurd ⟨k, hk, e⟩ h
  · rintro h ⟨k, hk, e⟩
    rw [h k hk] at e
    cases e
theorem exB_congr {p q : Nat → Bool} {n : Nat} (h : ∀ k, k < n → p k = q k) : exB p n = exB q n := by
  apply Bool.eq_iff_iff.mpr
  rw [exB_iff, exB_iff]
  constructor
  · rintro ⟨k, h1, h2⟩; exact ⟨k, h1, by rw [← h k h1]; exact h2⟩
  · rintro ⟨k, h1, h2⟩; exact ⟨k, h1, by rw [h k h1]; exact h2⟩
def lstI (p : Nat → Bool) : Nat → Int
  | 0 => -1
  | n + 1 => if 0 ≤ lstI p n then lstI p n else if p n then (n : Int) else -1
theorem lstI_spec (p : Nat → Bool) : ∀ n, (lstI p n = -1 ∧ ∀ j, j < n → p j = false) ∨ ∃ k : Nat, k < n ∧ lstI p n = (k : Int) ∧ p k = true ∧ ∀ j, j < k → p j = false
  | 0 => Or.inl ⟨rfl, fun j h => absurd h (Nat.not_lt_zero _)⟩
  | n + 1 => by
    rcases lstI_spec p n with ⟨h1, h2⟩ | ⟨k, h1, h2, h3, h4⟩
    · cases e : p n
      · left
        refine ⟨by simp [lstI, h1, e], fun j hj => ?_⟩
        by_cases ej : j = n
        · subst ej; exact e
        · exact h2 j (by omega)
      · right
        exact ⟨n, by omega, by simp [lstI, h1, e], e, h2⟩
    · right
      exact ⟨k, by omega, by simp only [lstI]; rw [if_pos (by omega)]; exact h2, h3, h4⟩
theorem lstI_of {p : Nat → Bool} {n k : Nat} (hk : k < n) (h : p k = true) (h2 : ∀ j, j < k → p j = false) : lstI p n = (k : Int) := by
  rcases lstI_spec p n with ⟨g1, g2⟩ | ⟨i, g1, g2, g3, g4⟩
  · rw [g2 k hk] at h; cases h
  · rcases Nat.lt_trichotomy i k with e | e | e
    · rw [h2 i e] at g3; cases g3
    · rw [g2, e]
    · rw [g4 k e] at h; cases h
theorem lstI_no {p : Nat → Bool} {n : Nat} (h : ∀ j, j < n → p j = false) : lstI p n = -1 := by
  rcases lstI_spec p n with ⟨g1, g2⟩ | ⟨i, g1, g2, g3, g4⟩
  · exact g1
  · rw [h i g1] at g3; cases g3
theorem lstI_congr {p q : Nat → Bool} {n : Nat} (h : ∀ k, k < n → p k = q k) : lstI p n = lstI q n := by
  rcases lstI_spec q n with ⟨g1, g2⟩ | ⟨i, g1, g2, g3, g4⟩
  · rw [g1]; exact lstI_no fun j hj => by rw [h j hj]; exact g2 j hj
  · rw [g2]; exact lstI_of g1 (by rw [h i g1]; exact g3) fun j hj => by rw [h j (by omega)]; exact g4 j hj
theorem lstI_rng (p : Nat → Bool) (n : Nat) : -1 ≤ lstI p n ∧ lstI p n < n := by
  rcases lstI_spec p n with ⟨g1, g2⟩ | ⟨i, g1, g2, g3, g4⟩ <;> omega
def movB (P : QP) (r : Nat) : Bool := decide (0 ≤ P.plc r ∧ P.mov r < P.ml)
def atB (P : QP) (a r : Nat) : Bool := decide (P.plc r = (a : Int)) && movB P r
def sn (P : QP) : Nat → Nat → Bool
  | 0, _ => false
  | k + 1, a => decide ((a : Int) < P.res) && (decide (P.load a < P.cap a) || exB (fun r => atB P a r && exB (fun b => bt (P.acc r) b && sn P k b) 12) P.req.toNat)
def dS (P : QP) (a : Nat) : Int := if lstI (fun k => sn P (k + 1) a) 12 = -1 then 100 else lstI (fun k => sn P (k + 1) a) 12 + 1
theorem sn_lt {P : QP} {k a : Nat} (h : sn P k a = true) : (a : Int) < P.res := by
  cases k with
  | zero => cases h
  | succ k =>
    simp only [sn, Bool.and_eq_true, decide_eq_true_eq] at h
    exact h.1
theorem sn_succ {P : QP} {k a : Nat} : sn P (k + 1) a = true ↔ (a : Int) < P.res ∧ (P.load a < P.cap a ∨ ∃ r, r < P.req.toNat ∧ atB P a r = true ∧ ∃ b, b < 12 ∧ bt (P.acc r) b = true ∧ sn P k b = true) := by
  simp only [sn, Bool.and_eq_true, Bool.or_eq_true, decide_eq_true_eq, exB_iff]
theorem sn_mono1 {P : QP} : ∀ (k : Nat) {a : Nat}, sn P k a = true → sn P (k + 1) a = true
  | 0, _, h => by cases h
  | k + 1, a, h => by
    rw [sn_succ] at h ⊢
    obtain ⟨h1, h2⟩ := h
    refine ⟨h1, h2.imp id ?_⟩
    rintro ⟨r, g1, g2, b, g3, g4, g5⟩
    exact ⟨r, g1, g2, b, g3, g4, sn_mono1 k g5⟩
theorem sn_mono {P : QP} {j k a : Nat} (hjk : j ≤ k) (h : sn P j a = true) : sn P k a = true := by
  induction k with
  | zero => have e : j = 0 := by omega
            rw [← e]; exact h
  | succ k ih =>
    by_cases e : j = k + 1
    · rw [← e]; exact h
    · exact sn_mono1 k (ih (by omega))
/-- once nothing is added, nothing is added any more -/
theorem sn_stop {P : QP} {k : Nat} (h : ∀ a, sn P (k + 1) a = sn P k a) : ∀ (m a : Nat), sn P (k + m) a = sn P k a
  | 0, a => rfl
  | m + 1, a => by
    have ih := sn_stop h m
    rw [← h a]
    apply Bool.eq_iff_iff.mpr
    show sn P (k + m + 1) a = true ↔ _
    rw [sn_succ, sn_succ]
    constructor
    · rintro ⟨h1, h2⟩
      refine ⟨h1, h2.imp id ?_⟩
      rintro ⟨r, g1, g2, b, g3, g4, g5⟩
      exact ⟨r, g1, g2, b, g3, g4, by rw [← ih b]; exact g5⟩
    · rintro ⟨h1, h2⟩
      refine ⟨h1, h2.imp id ?_⟩
      rintro ⟨r, g1, g2, b, g3, g4, g5⟩
      exact ⟨r, g1, g2, b, g3, g4, by rw [ih b]; exact g5⟩
theorem cntF_lt {p q : Nat → Bool} {k : Nat} : ∀ {n : Nat}, k < n → (∀ j, j < n → p j = true → q j = true) → p k = false → q k = true → cntF p n + 1 ≤ cntF q n
  | 0, hk, _, _, _ => absurd hk (Nat.not_lt_zero _)
  | n + 1, hk, h, hp, hq => by
    by_cases e : k = n
    · subst e
      have h1 := cntF_mono (n := k) (fun j hj => h j (by omega))
      simp only [cntF, hp, hq]
      simp
      omega
    · have h1 := cntF_lt (n := n) (k := k) (by omega) (fun j hj => h j (by omega)) hp hq
      have h2 := h n (by omega)
      simp only [cntF]
      cases e2 : p n
      · simp only [Bool.false_eq_true, if_false]
        split <;> omega
      · rw [if_pos (h2 e2)]
        simp only [if_true]
        omega
theorem sn_grow {P : QP} (hI : PI P) : ∀ k : Nat, (∃ j, j ≤ k ∧ ∀ a, sn P (j + 1) a = sn P j a) ∨ (k : Int) ≤ cntF (fun a => sn P k a) 12
  | 0 => Or.inr (by have := cntF_nn (fun a => sn P 0 a) 12; omega)
  | k + 1 => by
    rcases sn_grow hI k with ⟨j, h1, h2⟩ | h
    · exact Or.inl ⟨j, by omega, h2⟩
    · by_cases e : ∀ a, sn P (k + 1) a = sn P k a
      · exact Or.inl ⟨k, by omega, e⟩
      · right
        obtain ⟨a, ha⟩ := Classical.not_forall.mp e
        have h3 : sn P k a = false := by
          cases q : sn P k a
          · rfl
          · exact absurd ((sn_mono1 k q).trans q.symm) ha
        have h4 : sn P (k + 1) a = true := by
          cases q : sn P (k + 1) a
          · exact absurd (q.trans h3.symm) ha
          · rfl
        have h5 := sn_lt h4
        have h6 := hI.res
        have := cntF_lt (p := fun a => sn P k a) (q := fun a => sn P (k + 1) a) (n := 12) (k := a) (by omega) (fun j _ q => sn_mono1 k q) h3 h4
        omega
theorem cntF_cut {p : Nat → Bool} {m : Nat} : ∀ {n : Nat}, (∀ j, p j = true → j < m) → cntF p n ≤ m
  | 0, _ => by simp [cntF]
  | n + 1, h => by
    simp only [cntF]
    by_cases e : n < m
    · have := cntF_le p n
      split <;> omega
    · have h1 : p n = false := by
        cases q : p n
        · rfl
        · exact absurd (h n q) e
      rw [h1]
      have := cntF_cut (n := n) h
      simp
      omega
theorem cntF_all {p : Nat → Bool} {m : Nat} : ∀ {n : Nat}, m ≤ n → (∀ j, p j = true → j < m) → (m : Int) ≤ cntF p n → ∀ j, j < m → p j = true := by
  intro n hmn h hc j hj
  cases q : p j
  · exfalso
    have h1 := cntF_lt (p := p) (q := fun i => decide (i < m)) (n := n) (k := j) (by omega) (fun i _ z => decide_eq_true (h i z)) q (decide_eq_true hj)
    have h2 := cntF_cut (p := fun i => decide (i < m)) (m := m) (n := n) (fun i z => of_decide_eq_true z)
    omega
  · rfl
/-- no shortest path is longer than there are resources -/
theorem sn_full {P : QP} (hI : PI P) (m a : Nat) : sn P (P.res.toNat + m) a = sn P P.res.toNat a := by
  have hr := hI.res
  rcases sn_grow hI P.res.toNat with ⟨j, h1, h2⟩ | h
  · have e1 := sn_stop h2 (P.res.toNat - j) a
    have e2 := sn_stop h2 (P.res.toNat - j + m) a
    rw [show j + (P.res.toNat - j) = P.res.toNat by omega] at e1
    rw [show j + (P.res.toNat - j + m) = P.res.toNat + m by omega] at e2
    rw [e1, e2]
  · refine sn_stop (fun b => ?_) m a
    have h3 := cntF_all (p := fun a => sn P P.res.toNat a) (m := P.res.toNat) (n := 12) (by omega) (fun j q => by have := sn_lt q; omega) h
    cases q : sn P P.res.toNat b
    · cases q2 : sn P (P.res.toNat + 1) b
      · rfl
      · have h4 := sn_lt q2
        have h5 : sn P P.res.toNat b = true := h3 b (by omega)
        rw [h5] at q
        cases q
    · exact sn_mono1 _ q
/-- what a shortest length says -/
theorem dS_iff {P : QP} (hI : PI P) {a k : Nat} (hk : 1 ≤ k) (hk2 : k < 100) : dS P a = (k : Int) ↔ sn P k a = true ∧ sn P (k - 1) a = false := by
  have hr := hI.res
  unfold dS
  rcases lstI_spec (fun k => sn P (k + 1) a) 12 with ⟨g1, g2⟩ | ⟨i, g1, g2, g3, g4⟩
  · rw [if_pos g1]
    constructor
    · intro h; omega
    · rintro ⟨h1, -⟩
      exfalso
      have h2 : sn P 12 a = false := g2 11 (by omega)
      have e1 := sn_full hI (12 - P.res.toNat) a
      rw [show P.res.toNat + (12 - P.res.toNat) = 12 by omega] at e1
      rcases Nat.lt_or_ge k 13 with h | h
      · rw [sn_mono (show k ≤ 12 by omega) h1] at h2; cases h2
      · have e2 := sn_full hI (k - P.res.toNat) a
        rw [show P.res.toNat + (k - P.res.toNat) = k by omega] at e2
        rw [e2, ← e1, h2] at h1
        cases h1
  · rw [if_neg (by omega), g2]
    constructor
    · intro h
      have e : k = i + 1 := by omega
      subst e
      refine ⟨g3, ?_⟩
      cases i with
      | zero => rfl
      | succ i => exact g4 i (by omega)
    · rintro ⟨h1, h2⟩
      have h3 : ¬ k ≤ i := by
        intro q
        have := g4 (k - 1) (by omega)
        try simp only at this
        rw [show k - 1 + 1 = k by omega, h1] at this
        cases this
      have h4 : ¬ i + 1 ≤ k - 1 := by
        intro q
        rw [sn_mono q g3] at h2
        cases h2
      omega
theorem dS_rng {P : QP} (hI : PI P) (a : Nat) : (1 ≤ dS P a ∧ dS P a ≤ P.res) ∨ dS P a = 100 := by
  have hr := hI.res
  unfold dS
  rcases lstI_spec (fun k => sn P (k + 1) a) 12 with ⟨g1, g2⟩ | ⟨i, g1, g2, g3, g4⟩
  · right; rw [if_pos g1]
  · left
    rw [if_neg (by omega), g2]
    refine ⟨by omega, ?_⟩
    rcases Nat.lt_or_ge i P.res.toNat with h | h
    · omega
    · exfalso
      have e1 := sn_full hI (i + 1 - P.res.toNat) a
      rw [show P.res.toNat + (i + 1 - P.res.toNat) = i + 1 by omega] at e1
      try simp only at g3
      rw [e1] at g3
      have h5 := sn_lt g3
      cases hz : P.res.toNat with
      | zero => omega
      | succ z =>
        have := g4 z (by omega)
        try simp only at this
        rw [← hz, g3] at this
        cases this
theorem dS_no {P : QP} (hI : PI P) {a : Nat} : dS P a = 100 ↔ ∀ k, k ≤ 12 → sn P k a = false := by
  unfold dS
  rcases lstI_spec (fun k => sn P (k + 1) a) 12 with ⟨g1, g2⟩ | ⟨i, g1, g2, g3, g4⟩
  · rw [if_pos g1]
    refine ⟨fun _ k hk => ?_, fun _ => rfl⟩
    cases k with
    | zero => rfl
    | succ k => exact g2 k (by omega)
  · rw [if_neg (by omega), g2]
    refine ⟨fun h => by omega, fun h => ?_⟩
    try simp only at g3
    rw [h (i + 1) (by omega)] at g3
    cases g3
/-- the best path: its length L (-1: none), its first resource, the request that leaves a resource, where it goes -/
def minL (P : QP) (m : Int32) : Int := lstI (fun k => exB (fun a => bt m a && decide (dS P a = (k : Int) + 1)) 12) 12 + 1
def fstA (P : QP) (m : Int32) : Int := lstI (fun a => bt m a && decide (dS P a = minL P m)) 12
def nR (P : QP) (a : Int) (d : Int) : Int := lstI (fun r => (decide (P.plc r = a) && movB P r) && exB (fun b => bt (P.acc r) b && decide (dS P b = d)) 12) P.req.toNat
def nA (P : QP) (r : Nat) (d : Int) : Int := lstI (fun b => bt (P.acc r) b && decide (dS P b = d)) 12
def pA (P : QP) (L a0 : Int) : Nat → Int
  | 0 => a0
  | i + 1 => nA P (nR P (pA P L a0 i) (L - 1 - i)).toNat (L - 1 - i)
def pRq (P : QP) (L a0 : Int) (i : Nat) : Int := nR P (pA P L a0 i) (L - 1 - i)
theorem minL_spec (P : QP) (hI : PI P) (m : Int32) : (minL P m = 0 ∧ fstA P m = -1 ∧ ∀ a, a < 12 → bt m a = true → dS P a = 100) ∨ ∃ a : Nat, (a : Int) < P.res ∧ bt m a = true ∧ minL P m = dS P a ∧ 1 ≤ dS P a ∧ dS P a ≤ 12 ∧ fstA P m = (a : Int) ∧ (∀ b, b < 12 → bt m b = true → dS P a < dS P b ∨ (dS P a = dS P b ∧ a ≤ b)) := by
  have hr := hI.res
  rcases lstI_spec (fun k => exB (fun a => bt m a && decide (dS P a = (k : Int) + 1)) 12) 12 with ⟨g1, g2⟩ | ⟨k, g1, g2, g3, g4⟩
  · left
    have e : minL P m = 0 := by unfold minL; rw [g1]; rfl
    have h1 : ∀ a, a < 12 → bt m a = true → dS P a = 100 := by
      intro a ha hb
      rcases dS_rng hI a with h | h
      · exfalso
        have h2 := g2 (dS P a - 1).toNat (by omega)
        rw [exB_no] at h2
        have h3 := h2 a ha
        rw [hb, Bool.true_and] at h3
        have h4 := of_decide_eq_false h3
        omega
      · exact h
    refine ⟨e, ?_, h1⟩
    unfold fstA
    rw [e]
    apply lstI_no
    intro a ha
    cases hb : bt m a
    · rfl
    · rw [Bool.true_and, h1 a ha hb]; rfl
  · right
    have e : minL P m = (k : Int) + 1 := by unfold minL; rw [g2]
    rw [exB_iff] at g3
    obtain ⟨a1, h1, h2⟩ := g3
    have hmin : ∀ b, b < 12 → bt m b = true → (k : Int) + 1 ≤ dS P b := by
      intro b hb hbt
      rcases dS_rng hI b with h | h
      · rcases (by omega : dS P b < (k : Int) + 1 ∨ (k : Int) + 1 ≤ dS P b) with q | q
        · exfalso
          have h5 := g4 (dS P b - 1).toNat (by omega)
          rw [exB_no] at h5
          have h6 := h5 b hb
          rw [hbt, Bool.true_and] at h6
          have h7 := of_decide_eq_false h6
          omega
        · exact q
      · omega
    have hf : ∃ a, a < 12 ∧ (bt m a && decide (dS P a = minL P m)) = true := ⟨a1, h1, by rw [e]; exact h2⟩
    rcases lstI_spec (fun a => bt m a && decide (dS P a = minL P m)) 12 with ⟨f1, f2⟩ | ⟨a, f1, f2, f3, f4⟩
    · obtain ⟨z, z1, z2⟩ := hf
      rw [f2 z z1] at z2
      cases z2
    · simp only [Bool.and_eq_true, decide_eq_true_eq] at f3
      have hd : dS P a = (k : Int) + 1 := by rw [f3.2, e]
      have hk12 : dS P a ≤ 12 := by omega
      have hs := ((dS_iff hI (k := k + 1) (by omega) (by omega)).mp (by rw [hd]; omega)).1
      refine ⟨a, sn_lt hs, f3.1, f3.2.symm, by omega, hk12, f2, fun b hb hbt => ?_⟩
      have h8 := hmin b hb hbt
      by_cases q : dS P b = (k : Int) + 1
      · right
        refine ⟨by omega, ?_⟩
        rcases Nat.lt_or_ge b a with z | z
        · have h9 := f4 b z
          simp only [hbt, e, q, decide_true, Bool.and_self] at h9
          cases h9
        · exact z
      · left; omega
/-- a step of the path -/
theorem step_spec (P : QP) (hI : PI P) {a : Nat} {d : Nat} (hd : dS P a = (d : Int) + 1) (hd1 : 1 ≤ d) (hd2 : d ≤ 12) : ∃ (r b : Nat), (r : Int) < P.req ∧ nR P (a : Int) (d : Int) = (r : Int) ∧ P.plc r = (a : Int) ∧ P.mov r < P.ml ∧ (b : Int) < P.res ∧ nA P r (d : Int) = (b : Int) ∧ bt (P.acc r) b = true ∧ dS P b = (d : Int) := by
  have hr := hI.res
  have hq := hI.req
  have h1 := (dS_iff hI (a := a) (k := d + 1) (by omega) (by omega)).mp (by rw [hd]; omega)
  obtain ⟨h2, h3⟩ := h1
  rw [sn_succ] at h2
  obtain ⟨hlt, h2⟩ := h2
  have h4 : ∃ r, r < P.req.toNat ∧ atB P a r = true ∧ ∃ b, b < 12 ∧ bt (P.acc r) b = true ∧ sn P d b = true := by
    rcases h2 with h | h
    · exfalso
      have : sn P 1 a = true := by rw [sn_succ]; exact ⟨hlt, Or.inl h⟩
      rw [sn_mono (show 1 ≤ d + 1 - 1 by omega) this] at h3
      cases h3
    · exact h
  obtain ⟨r1, g1, g2, b1, g3, g4, g5⟩ := h4
  have g6 : dS P b1 = (d : Int) := by
    rw [dS_iff hI hd1 (by omega)]
    refine ⟨g5, ?_⟩
    cases q : sn P (d - 1) b1
    · rfl
    · exfalso
      have : sn P (d - 1 + 1) a = true := by rw [sn_succ]; exact ⟨hlt, Or.inr ⟨r1, g1, g2, b1, g3, g4, q⟩⟩
      rw [show d - 1 + 1 = d + 1 - 1 by omega, h3] at this
      cases this
  rcases lstI_spec (fun r => (decide (P.plc r = (a : Int)) && movB P r) && exB (fun b => bt (P.acc r) b && decide (dS P b = (d : Int))) 12) P.req.toNat with ⟨f1, f2⟩ | ⟨r, f1, f2, f3, f4⟩
  · exfalso
    have z := f2 r1 g1
    have z2 : exB (fun b => bt (P.acc r1) b && decide (dS P b = (d : Int))) 12 = true := exB_iff.mpr ⟨b1, g3, by rw [g4, decide_eq_true g6]; rfl⟩
    have z3 : (decide (P.plc r1 = (a : Int)) && movB P r1) = true := g2
    rw [z2, z3] at z
    cases z
  · simp only [Bool.and_eq_true, decide_eq_true_eq] at f3
    obtain ⟨⟨k1, k2⟩, k3⟩ := f3
    have k4 := of_decide_eq_true k2
    rw [exB_iff] at k3
    obtain ⟨b2, k5, k6⟩ := k3
    rcases lstI_spec (fun b => bt (P.acc r) b && decide (dS P b = (d : Int))) 12 with ⟨e1, e2⟩ | ⟨b, e1, e2, e3, e4⟩
    · rw [e2 b2 k5] at k6; cases k6
    · simp only [Bool.and_eq_true, decide_eq_true_eq] at e3
      have hb := sn_lt ((dS_iff hI hd1 (by omega)).mp e3.2).1
      exact ⟨r, b, by omega, f2, k1, k4.2, hb, e2, e3.1, e3.2⟩
/-- the whole path -/
theorem path_spec (P : QP) (hI : PI P) {a0 : Nat} {L : Nat} (h0 : dS P a0 = (L : Int)) (hL1 : 1 ≤ L) (hL2 : L ≤ 12) : ∀ i : Nat, i < L → ∃ a : Nat, (a : Int) < P.res ∧ pA P L a0 i = (a : Int) ∧ dS P a = (L : Int) - i ∧ (i + 1 < L → ∃ (r b : Nat), (r : Int) < P.req ∧ pRq P L a0 i = (r : Int) ∧ P.plc r = (a : Int) ∧ P.mov r < P.ml ∧ (b : Int) < P.res ∧ pA P L a0 (i + 1) = (b : Int) ∧ bt (P.acc r) b = true) := by
  have key : ∀ (i a : Nat), i < L → pA P L a0 i = (a : Int) → dS P a = (L : Int) - i → (i + 1 < L → ∃ (r b : Nat), (r : Int) < P.req ∧ pRq P L a0 i = (r : Int) ∧ P.plc r = (a : Int) ∧ P.mov r < P.ml ∧ (b : Int) < P.res ∧ pA P L a0 (i + 1) = (b : Int) ∧ bt (P.acc r) b = true ∧ dS P b = (L : Int) - (i + 1)) := by
    intro i a hi ha hd hi2
    obtain ⟨r, b, s1, s2, s3, s4, s5, s6, s7, s8⟩ := step_spec P hI (a := a) (d := L - 1 - i) (by rw [hd]; omega) (by omega) (by omega)
    have ed : ((L - 1 - i : Nat) : Int) = (L : Int) - 1 - i := by omega
    rw [ed] at s2 s6 s8
    refine ⟨r, b, s1, ?_, s3, s4, s5, ?_, s7, by rw [s8]; omega⟩
    · unfold pRq; rw [ha]; exact s2
    · show nA P (nR P (pA P L a0 i) (L - 1 - i)).toNat (L - 1 - i) = _
      rw [ha, s2]
      exact s6
  intro i
  induction i with
  | zero =>
    intro hi
    have hs := ((dS_iff hI hL1 (by omega)).mp h0).1
    refine ⟨a0, sn_lt hs, rfl, by rw [h0]; omega, fun h => ?_⟩
    obtain ⟨r, b, s1, s2, s3, s4, s5, s6, s7, s8⟩ := key 0 a0 hi rfl (by rw [h0]; omega) h
    exact ⟨r, b, s1, s2, s3, s4, s5, s6, s7⟩
  | succ i ih =>
    intro hi
    obtain ⟨a, h1, h2, h3, h4⟩ := ih (by omega)
    obtain ⟨r, b, s1, s2, s3, s4, s5, s6, s7, s8⟩ := key i a (by omega) h2 h3 hi
    refine ⟨b, s5, s6, by rw [s8]; omega, fun h => ?_⟩
    obtain ⟨r2, b2, t1, t2, t3, t4, t5, t6, t7, t8⟩ := key (i + 1) b hi s6 (by rw [s8]; omega) h
    exact ⟨r2, b2, t1, t2, t3, t4, t5, t6, t7⟩
theorem msk_ex {P : QP} (hI : PI P) {x y : Int32} {d : Nat} (hd : 1 ≤ d ∧ d ≤ 12) (hy : ∀ j, j < 32 → bt y j = decide (dS P j = (d : Int))) : decide (¬ (x &&& y) = 0) = exB (fun b => bt x b && decide (dS P b = (d : Int))) 12 := by
  apply Bool.eq_iff_iff.mpr
  rw [decide_eq_true_eq, exB_iff, b_and0]
  constructor
  · intro h
    obtain ⟨b, h1⟩ := Classical.not_forall.mp h
    obtain ⟨h2, h3⟩ := Classical.not_imp.mp h1
    rw [Bool.not_eq_false, hy b h2, Bool.and_eq_true] at h3
    have h4 := of_decide_eq_true h3.2
    have h5 := sn_lt ((dS_iff hI hd.1 (by omega)).mp h4).1
    have h6 := hI.res
    exact ⟨b, by omega, by rw [h3.1, h3.2]; rfl⟩
  · rintro ⟨b, h1, h2⟩ h3
    have h4 := h3 b (by omega)
    rw [hy b (by omega), h2] at h4
    cases h4
theorem lstI_ext {p : Nat → Bool} {n : Nat} : ∀ {m : Nat}, n ≤ m → (∀ k, n ≤ k → k < m → p k = false) → lstI p m = lstI p n
  | 0, h, _ => by rw [show n = 0 by omega]
  | m + 1, h, hp => by
    by_cases e : n = m + 1
    · rw [e]
    · have ih := lstI_ext (m := m) (n := n) (by omega) (fun k h1 h2 => hp k h1 (by omega))
      simp only [lstI, ih, hp m (by omega) (by omega)]
      have := lstI_rng p n
      split
      · rfl
      · simp; omega
theorem short_spec {P : QP} (hI : PI P) {m : Int32} {lay : Nat → Int32} (hl : ∀ k : Nat, 1 ≤ k → (k : Int) ≤ P.res → ∀ j, j < 32 → bt (lay k) j = decide (dS P j = (k : Int))) : lstI (fun k => decide (¬ (lay (k + 1) &&& m) = 0)) P.res.toNat + 1 = minL P m := by
  have hr := hI.res
  unfold minL
  congr 1
  rw [lstI_ext (n := P.res.toNat) (m := 12) (p := fun k => exB (fun a => bt m a && decide (dS P a = (k : Int) + 1)) 12) (by omega)]
  · apply lstI_congr
    intro k hk
    have e : lay (k + 1) &&& m = m &&& lay (k + 1) := by
      apply b_ext
      intro i _
      rw [b_and, b_and, Bool.and_comm]
    rw [e, msk_ex hI (d := k + 1) (by omega) (hl (k + 1) (by omega) (by omega))]
    rfl
  · intro k h1 h2
    rw [exB_no]
    intro a ha
    have h3 := dS_rng hI a
    rw [decide_eq_false (by omega), Bool.and_false]
/-- fewer locals: L2 says no more than L -/
def jle : List (Option Value) → List (Option Value) → Prop
  | [], [] => True
  | none :: t, _ :: t' => jle t t'
  | some v :: t, x :: t' => x = some v ∧ jle t t'
  | _, _ => False
theorem jle_len : ∀ {a b : List (Option Value)}, jle a b → a.length = b.length
  | [], [], _ => rfl
  | [], _ :: _, h => h.elim
  | none :: _, [], h => h.elim
  | some _ :: _, [], h => h.elim
  | none :: t, _ :: t', h => by
    have h : jle t t' := h
    simp [jle_len h]
  | some v :: t, x :: t', h => by
    have h : x = some v ∧ jle t t' := h
    simp [jle_len h.2]
theorem jle_get : ∀ {a b : List (Option Value)}, jle a b → ∀ (j : Nat) (v : Value), a[j]? = some (some v) → b[j]? = some (some v)
  | [], [], _, j, v, g => g
  | [], _ :: _, h, _, _, _ => h.elim
  | none :: _, [], h, _, _, _ => h.elim
  | some _ :: _, [], h, _, _, _ => h.elim
  | none :: t, x :: t', h, 0, v, g => by simp at g
  | none :: t, x :: t', h, j + 1, v, g => by
    have h : jle t t' := h
    simpa using jle_get h j v (by simpa using g)
  | some u :: t, x :: t', h, 0, v, g => by
    have h : x = some u ∧ jle t t' := h
    simp at g
    simp [h.1, g]
  | some u :: t, x :: t', h, j + 1, v, g => by
    have h : x = some u ∧ jle t t' := h
    simpa using jle_get h.2 j v (by simpa using g)
theorem jw_less {G : jG} {X : JX} {k n pc : Nat} {w : va_W} {L L2 : List (Option Value)} {st : List Value} (kk : JW G X k n w pc L2 st) (h : jle L2 L) : JW G X k n w pc L st := jw_forget (jle_len h) (jle_get h) kk
theorem minL_rng (P : QP) (hI : PI P) (m : Int32) : 0 ≤ minL P m ∧ minL P m ≤ 12 := by
  rcases minL_spec P hI m with ⟨e1, -, -⟩ | ⟨a, e1, e2, e3, e4, e5, e6, e7⟩ <;> omega
end
section
/-! PLACING ALONG A PATH, ONE TRY, A RUN -/
def PFa (P : QP) : Prop := ∀ x : Nat, (x : Int) < P.req → 0 ≤ P.plc x → bt (P.acc x) (P.plc x).toNat = true
def plS (P : QP) (l : QL) (r : Nat) (rs rq : Nat → Int) : Nat → QP × QL
  | 0 => (pAssign P r (rs 0).toNat, l)
  | i + 1 => (pMove (plS P l r rs rq i).1 (rq i).toNat (rs (i + 1)).toNat, lAdd (plS P l r rs rq i).2 (rq i) (rs (i + 1)))
/-- what a placing's path must be -/
def PathOK (P : QP) (r : Nat) (rs rq : Nat → Int) (L : Nat) : Prop :=
  (r : Int) < P.req ∧ P.plc r = -1 ∧ 1 ≤ L ∧ L ≤ 12 ∧ (∀ i, i < L → 0 ≤ rs i ∧ rs i < P.res) ∧ (∀ i j, i < L → j < L → rs i = rs j → i = j) ∧ bt (P.acc r) (rs 0).toNat = true ∧
  (∀ i, i + 1 < L → 0 ≤ rq i ∧ rq i < P.req ∧ P.plc (rq i).toNat = rs i ∧ P.mov (rq i).toNat < P.ml ∧ bt (P.acc (rq i).toNat) (rs (i + 1)).toNat = true)
/-- same but places, moves, counts -/
def SameQ (P P2 : QP) : Prop := P2.res = P.res ∧ P2.cap = P.cap ∧ P2.quo = P.quo ∧ P2.wei = P.wei ∧ P2.req = P.req ∧ P2.grp = P.grp ∧ P2.acc = P.acc ∧ P2.pl = P.pl ∧ P2.ml = P.ml
theorem SameQ.rf (P : QP) : SameQ P P := ⟨rfl, rfl, rfl, rfl, rfl, rfl, rfl, rfl, rfl⟩
theorem SameQ.tr {P Q S : QP} (h : SameQ P Q) (g : SameQ Q S) : SameQ P S := by
  obtain ⟨a1, a2, a3, a4, a5, a6, a7, a8, a9⟩ := h
  obtain ⟨b1, b2, b3, b4, b5, b6, b7, b8, b9⟩ := g
  exact ⟨b1.trans a1, b2.trans a2, b3.trans a3, b4.trans a4, b5.trans a5, b6.trans a6, b7.trans a7, b8.trans a8, b9.trans a9⟩
theorem same_put (P : QP) (r : Nat) : SameQ P (pPut P r) := ⟨pPut_res P r, pPut_cap P r, pPut_quo P r, pPut_wei P r, pPut_req P r, pPut_grp P r, pPut_acc P r, pPut_pl P r, pPut_ml P r⟩
theorem same_move (P : QP) (r a : Nat) : SameQ P (pMove P r a) := by
  have h := same_put P r
  exact h
theorem pMove_plc (P : QP) (r a x : Nat) : (pMove P r a).plc x = if x = r then (a : Int) else P.plc x := by
  show updf (pPut P r).plc r (a : Int) x = _
  by_cases e : x = r
  · subst e; rw [updf_same, if_pos rfl]
  · rw [updf_ne _ _ e, if_neg e]
    unfold pPut
    split
    · show updf P.plc r (-1) x = _
      rw [updf_ne _ _ e]
    · rfl
theorem pMove_mov (P : QP) (r a x : Nat) : (pMove P r a).mov x = if x = r then P.mov r + 1 else P.mov x := by
  show updf (pPut P r).mov r ((pPut P r).mov r + 1) x = _
  rw [pPut_mov]
  by_cases e : x = r
  · subst e; rw [updf_same, if_pos rfl]
  · rw [updf_ne _ _ e, if_neg e]
theorem pMove_load {P : QP} {r a : Nat} (hp : 0 ≤ P.plc r) (b : Nat) : (pMove P r a).load b = P.load b - (if P.plc r = (b : Int) then 1 else 0) + (if a = b then 1 else 0) := by
  show updf (pPut P r).load a ((pPut P r).load a + 1) b = _
  rw [pPut_pos hp]
  show updf (updf P.load (P.plc r).toNat (P.load (P.plc r).toNat - 1)) a (updf P.load (P.plc r).toNat (P.load (P.plc r).toNat - 1) a + 1) b = _
  by_cases e : b = a
  · subst e
    rw [updf_same, if_pos rfl]
    by_cases e2 : b = (P.plc r).toNat
    · subst e2; rw [updf_same, if_pos (by omega)]
    · rw [updf_ne _ _ e2, if_neg (by omega)]; omega
  · rw [updf_ne _ _ e, if_neg (fun q : a = b => e q.symm)]
    by_cases e2 : b = (P.plc r).toNat
    · subst e2; rw [updf_same, if_pos (by omega)]; omega
    · rw [updf_ne _ _ e2, if_neg (by omega)]; omega
theorem pMove_asg {P : QP} {r a : Nat} (hp : 0 ≤ P.plc r) (g : Nat) : (pMove P r a).asg g = P.asg g := by
  show updf (pPut P r).asg ((pPut P r).grp r).toNat ((pPut P r).asg ((pPut P r).grp r).toNat + 1) g = _
  rw [pPut_grp, pPut_pos hp]
  show updf (updf P.asg (P.grp r).toNat (P.asg (P.grp r).toNat - 1)) (P.grp r).toNat (updf P.asg (P.grp r).toNat (P.asg (P.grp r).toNat - 1) (P.grp r).toNat + 1) g = _
  by_cases e : g = (P.grp r).toNat
  · subst e; rw [updf_same, updf_same]; omega
  · rw [updf_ne _ _ e, updf_ne _ _ e]
/-- step by step -/
def StepOK (P : QP) (l : QL) (r : Nat) (rs rq : Nat → Int) (i : Nat) (Q : QP) (k : QL) : Prop :=
  PI Q ∧ SameQ P Q ∧ (∀ x, x ≠ r → (∀ j, j < i → (rq j).toNat ≠ x) → Q.plc x = P.plc x ∧ Q.mov x = P.mov x) ∧ (∀ x, x ≠ r → (0 ≤ P.plc x → 0 ≤ Q.plc x) ∧ (P.plc x < 0 → Q.plc x = P.plc x)) ∧ 0 ≤ Q.plc r ∧
  (∀ b : Nat, Q.load b = P.load b + (if rs i = (b : Int) then 1 else 0)) ∧ (∀ g : Nat, Q.asg g = P.asg g + (if P.grp r = (g : Int) then 1 else 0)) ∧ (PFa P → PFa Q) ∧ (0 ≤ l.sz → l.sz + i ≤ 200 → k.sz = l.sz + i)
theorem plS_ok {P : QP} {l : QL} {r : Nat} {rs rq : Nat → Int} {L : Nat} (hI : PI P) (h : PathOK P r rs rq L) : ∀ i, i < L → StepOK P l r rs rq i (plS P l r rs rq i).1 (plS P l r rs rq i).2 := by
  obtain ⟨hr, hw, hL1, hL2, h1, h2, h3, h4⟩ := h
  intro i
  induction i with
  | zero =>
    intro hi
    have h10 := h1 0 hi
    refine ⟨PI_assign hI hr (by omega) (by omega), ⟨rfl, rfl, rfl, rfl, rfl, rfl, rfl, rfl, rfl⟩, fun x hx _ => ⟨updf_ne _ _ hx, rfl⟩, fun x hx => ?_, ?_, fun b => ?_, fun g => ?_, fun hF x hx hp => ?_, fun _ _ => by simp [plS]⟩
    · have e : (plS P l r rs rq 0).1.plc x = P.plc x := updf_ne _ _ hx
      rw [e]
      exact ⟨fun q => q, fun _ => rfl⟩
    · show 0 ≤ updf P.plc r ((rs 0).toNat : Int) r
      rw [updf_same]; omega
    · show updf P.load (rs 0).toNat (P.load (rs 0).toNat + 1) b = _
      by_cases e : b = (rs 0).toNat
      · subst e; rw [updf_same, if_pos (by omega)]
      · rw [updf_ne _ _ e, if_neg (by omega)]; omega
    · have hg := hI.grp r
      show updf P.asg (P.grp r).toNat (P.asg (P.grp r).toNat + 1) g = _
      by_cases e : g = (P.grp r).toNat
      · subst e; rw [updf_same, if_pos (by omega)]
      · rw [updf_ne _ _ e, if_neg (by omega)]; omega
    · show bt (P.acc x) (updf P.plc r ((rs 0).toNat : Int) x).toNat = true
      by_cases e : x = r
      · subst e; rw [updf_same]; exact h3
      · rw [updf_ne _ _ e]
        have hp : 0 ≤ updf P.plc r ((rs 0).toNat : Int) x := hp
        rw [updf_ne _ _ e] at hp
        exact hF x hx hp
  | succ i ih =>
    intro hi
    obtain ⟨g1, g2, g3, g4, g5, g6, g7, g8, g9⟩ := ih (by omega)
    obtain ⟨q1, q2, q3, q4, q5⟩ := h4 i hi
    have h1i := h1 i (by omega)
    have h1s := h1 (i + 1) hi
    have hne : (rq i).toNat ≠ r := by
      intro e
      rw [e, hw] at q3
      omega
    have hnj : ∀ j, j < i → (rq j).toNat ≠ (rq i).toNat := by
      intro j hj e
      have a1 := (h4 j (by omega)).2.2.1
      rw [e, q3] at a1
      have := h2 i j (by omega) (by omega) a1
      omega
    obtain ⟨s1, s2⟩ := g3 (rq i).toNat hne hnj
    obtain ⟨e1, e2, e3, e4, e5, e6, e7, e8, e9⟩ := id g2
    have hml := hI.ml
    have hp : 0 ≤ (plS P l r rs rq i).1.plc (rq i).toNat := by rw [s1, q3]; exact h1i.1
    refine ⟨PI_move g1 (by rw [e5]; omega) (by rw [e1]; omega) (by rw [s2]; omega), g2.tr (same_move _ _ _), fun x hx hj => ?_, fun x hx => ?_, ?_, fun b => ?_, fun g => ?_, fun hF x hx hp2 => ?_, fun a1 a2 => ?_⟩
    · obtain ⟨t1, t2⟩ := g3 x hx (fun j hj2 => hj j (by omega))
      have t3 : x ≠ (rq i).toNat := fun e => hj i (by omega) e.symm
      exact ⟨by show (pMove _ _ _).plc x = _; rw [pMove_plc, if_neg t3]; exact t1, by show (pMove _ _ _).mov x = _; rw [pMove_mov, if_neg t3]; exact t2⟩
    · show (0 ≤ P.plc x → 0 ≤ (pMove _ _ _).plc x) ∧ (P.plc x < 0 → (pMove _ _ _).plc x = P.plc x)
      rw [pMove_plc]
      by_cases e : x = (rq i).toNat
      · rw [if_pos e]
        refine ⟨fun _ => by omega, fun q => ?_⟩
        rw [e, q3] at q
        omega
      · rw [if_neg e]; exact g4 x hx
    · show 0 ≤ (pMove _ _ _).plc r
      rw [pMove_plc, if_neg (fun e => hne e.symm)]
      exact g5
    · show (pMove _ _ _).load b = _
      rw [pMove_load hp, s1, q3, g6 b]
      by_cases e : rs i = (b : Int)
      · rw [if_pos e]
        by_cases e8 : (rs (i + 1)).toNat = b
        · rw [if_pos e8, if_pos (by omega)]; omega
        · rw [if_neg e8, if_neg (by omega)]; omega
      · rw [if_neg e]
        by_cases e8 : (rs (i + 1)).toNat = b
        · rw [if_pos e8, if_pos (by omega)]; omega
        · rw [if_neg e8, if_neg (by omega)]; omega
    · show (pMove _ _ _).asg g = _
      rw [pMove_asg hp, g7 g]
    · have hF2 := g8 hF
      have hp2 : 0 ≤ (pMove (plS P l r rs rq i).1 (rq i).toNat (rs (i + 1)).toNat).plc x := hp2
      have ea : (pMove (plS P l r rs rq i).1 (rq i).toNat (rs (i + 1)).toNat).acc = P.acc := (same_move _ _ _).2.2.2.2.2.2.1.trans e7
      show bt ((pMove _ _ _).acc x) ((pMove _ _ _).plc x).toNat = true
      rw [ea]
      rw [pMove_plc] at hp2 ⊢
      by_cases e : x = (rq i).toNat
      · rw [if_pos e]
        rw [e]
        exact q5
      · rw [if_neg e] at hp2 ⊢
        have hx2 : (x : Int) < (plS P l r rs rq i).1.req := by
          have : (x : Int) < (pMove (plS P l r rs rq i).1 (rq i).toNat (rs (i + 1)).toNat).req := hx
          rw [(same_move _ _ _).2.2.2.2.1] at this
          exact this
        have := hF2 x hx2 hp2
        rw [e7] at this
        exact this
    · have a3 := g9 a1 (by omega)
      show (lAdd _ _ _).sz = _
      unfold lAdd
      rw [if_pos (by rw [a3]; omega)]
      show (plS P l r rs rq i).2.sz + 1 = _
      rw [a3]; omega
theorem plS_congr {P : QP} {l : QL} {r : Nat} {rs rq rs2 rq2 : Nat → Int} : ∀ {i : Nat}, (∀ j, j ≤ i → rs2 j = rs j) → (∀ j, j < i → rq2 j = rq j) → plS P l r rs2 rq2 i = plS P l r rs rq i
  | 0, h1, _ => by simp only [plS]; rw [h1 0 (by omega)]
  | i + 1, h1, h2 => by
    simp only [plS]
    rw [plS_congr (i := i) (fun j hj => h1 j (by omega)) (fun j hj => h2 j (by omega)), h1 (i + 1) (by omega), h2 i (by omega)]
/-- the best path of a waiting request is one to place along -/
theorem path_ok {P : QP} (hI : PI P) {r : Nat} (hr : (r : Int) < P.req) (hw : P.plc r = -1) (hL : 1 ≤ minL P (P.acc r)) : PathOK P r (pA P (minL P (P.acc r)) (fstA P (P.acc r))) (pRq P (minL P (P.acc r)) (fstA P (P.acc r))) (minL P (P.acc r)).toNat ∧ (∃ a : Nat, pA P (minL P (P.acc r)) (fstA P (P.acc r)) ((minL P (P.acc r)).toNat - 1) = (a : Int) ∧ P.load a < P.cap a) := by
  rcases minL_spec P hI (P.acc r) with ⟨e1, -, -⟩ | ⟨a, e1, e2, e3, e4, e5, e6, e7⟩
  · omega
  · obtain ⟨n, hn⟩ : ∃ n : Nat, dS P a = (n : Int) := ⟨(dS P a).toNat, by omega⟩
    rw [e3, e6, hn]
    have hp := path_spec P hI hn (by omega) (by omega)
    have et : ((n : Int)).toNat = n := by omega
    rw [et]
    refine ⟨⟨hr, hw, by omega, by omega, fun i hi => ?_, fun i j hi hj hij => ?_, ?_, fun i hi => ?_⟩, ?_⟩
    · obtain ⟨b, b1, b2, b3, b4⟩ := hp i hi
      rw [b2]; omega
    · obtain ⟨b, b1, b2, b3, b4⟩ := hp i hi
      obtain ⟨c, c1, c2, c3, c4⟩ := hp j hj
      rw [b2, c2] at hij
      have ebc : b = c := by omega
      subst ebc
      omega
    · show bt (P.acc r) ((a : Int)).toNat = true
      rw [show ((a : Int)).toNat = a by omega]
      exact e2
    · obtain ⟨b, b1, b2, b3, b4⟩ := hp i (by omega)
      obtain ⟨q, d, d1, d2, d3, d4, d5, d6, d7⟩ := b4 hi
      rw [d2, b2, d6]
      have eq : ((q : Int)).toNat = q := by omega
      have ed : ((d : Int)).toNat = d := by omega
      rw [eq, ed]
      exact ⟨by omega, d1, d3, d4, d7⟩
    · obtain ⟨b, b1, b2, b3, b4⟩ := hp (n - 1) (by omega)
      refine ⟨b, b2, ?_⟩
      clear b4
      have b5 : dS P b = ((1 : Nat) : Int) := by rw [b3]; omega
      have b6 := ((dS_iff hI (by omega) (by omega)).mp b5).1
      rw [sn_succ] at b6
      rcases b6.2 with z | ⟨_, _, _, _, _, _, z⟩
      · exact z
      · cases z
/-- the state behind a placing -/
def plX (P : QP) (l : QL) (r : Nat) : QP × QL := plS P l r (pA P (minL P (P.acc r)) (fstA P (P.acc r))) (pRq P (minL P (P.acc r)) (fstA P (P.acc r))) ((minL P (P.acc r)).toNat - 1)
def canP (P : QP) (r : Nat) : Prop := P.asg (P.grp r).toNat < P.quo (P.grp r).toNat ∧ 1 ≤ minL P (P.acc r) ∧ minL P (P.acc r) - 1 ≤ P.pl
def tryS (P : QP) (l : QL) (r : Nat) : Bool × QP × QL := if P.asg (P.grp r).toNat < P.quo (P.grp r).toNat ∧ 1 ≤ minL P (P.acc r) ∧ minL P (P.acc r) - 1 ≤ P.pl then (true, plX P l r) else (false, P, l)
def servB (P : QP) (g h : Int) : Bool := decide (P.asg g.toNat * P.wei h.toNat < P.asg h.toNat * P.wei g.toNat ∨ (P.asg g.toNat * P.wei h.toNat = P.asg h.toNat * P.wei g.toNat ∧ g < h))
def nxP (P : QP) (T : Nat → Bool) (i : Nat) (b : Int) : Prop := P.plc i = -1 ∧ T i = false ∧ (b = -1 ∨ servB P (P.grp i) (P.grp b.toNat) = true)
def nxF (P : QP) (T : Nat → Bool) : Nat → Int
  | 0 => -1
  | i + 1 => if P.plc i = -1 ∧ T i = false ∧ (nxF P T i = -1 ∨ servB P (P.grp i) (P.grp (nxF P T i).toNat) = true) then (i : Int) else nxF P T i
def runF : Nat → QP → QL → (Nat → Bool) → Int → QP × QL × Int
  | 0, P, l, _, c => (P, l, c)
  | n + 1, P, l, T, c => if nxF P T P.req.toNat = -1 then (P, l, c) else runF n (tryS P l (nxF P T P.req.toNat).toNat).2.1 (tryS P l (nxF P T P.req.toNat).toNat).2.2 (updf T (nxF P T P.req.toNat).toNat true) (c + if (tryS P l (nxF P T P.req.toNat).toNat).1 then 1 else 0)
theorem nxF_spec (P : QP) (T : Nat → Bool) : ∀ n, (nxF P T n = -1) ∨ ∃ k : Nat, k < n ∧ nxF P T n = (k : Int) ∧ P.plc k = -1 ∧ T k = false
  | 0 => Or.inl rfl
  | n + 1 => by
    simp only [nxF]
    split
    · rename_i h
      exact Or.inr ⟨n, by omega, rfl, h.1, h.2.1⟩
    · rcases nxF_spec P T n with h | ⟨k, h1, h2, h3, h4⟩
      · exact Or.inl h
      · exact Or.inr ⟨k, by omega, h2, h3, h4⟩
theorem nxF_congr {P : QP} {T T2 : Nat → Bool} : ∀ {n : Nat}, (∀ j, j < n → T2 j = T j) → nxF P T2 n = nxF P T n
  | 0, _ => rfl
  | n + 1, h => by
    simp only [nxF]
    rw [nxF_congr (n := n) (fun j hj => h j (by omega)), h n (by omega)]
theorem runF_congr : ∀ (n : Nat) {P : QP} {l : QL} {T T2 : Nat → Bool} {c : Int}, (∀ j, j < P.req.toNat → T2 j = T j) → (∀ (P2 : QP) (l2 : QL) (r : Nat), (tryS P2 l2 r).2.1.req = P2.req) → runF n P l T2 c = runF n P l T c
  | 0, _, _, _, _, _, _, _ => rfl
  | n + 1, P, l, T, T2, c, h, hq => by
    simp only [runF]
    rw [nxF_congr h]
    split
    · rfl
    · apply runF_congr n _ hq
      intro j hj
      rw [hq] at hj
      by_cases e : j = (nxF P T P.req.toNat).toNat
      · subst e; rw [updf_same, updf_same]
      · rw [updf_ne _ _ e, updf_ne _ _ e]; exact h j hj
theorem plS_same (P : QP) (l : QL) (r : Nat) (rs rq : Nat → Int) : ∀ i, SameQ P (plS P l r rs rq i).1
  | 0 => ⟨rfl, rfl, rfl, rfl, rfl, rfl, rfl, rfl, rfl⟩
  | i + 1 => (plS_same P l r rs rq i).tr (same_move _ _ _)
theorem tryS_same (P : QP) (l : QL) (r : Nat) : SameQ P (tryS P l r).2.1 := by
  unfold tryS
  split
  · exact plS_same _ _ _ _ _ _
  · exact SameQ.rf P
theorem tryS_ok {P : QP} {l : QL} {r : Nat} (hI : PI P) (hr : (r : Int) < P.req) (hw : P.plc r = -1) : PI (tryS P l r).2.1 ∧ (PFa P → PFa (tryS P l r).2.1) ∧ (∀ x, x ≠ r → (0 ≤ P.plc x → 0 ≤ (tryS P l r).2.1.plc x) ∧ (P.plc x < 0 → (tryS P l r).2.1.plc x = P.plc x)) ∧ (0 ≤ l.sz → l.sz ≤ 195 → l.sz ≤ (tryS P l r).2.2.sz ∧ (tryS P l r).2.2.sz ≤ l.sz + 5) := by
  unfold tryS
  split
  · rename_i h
    obtain ⟨h1, h2, h3⟩ := h
    have hp := (path_ok hI hr hw h2).1
    have hpl := hI.pl
    have hs := plS_ok (l := l) hI hp ((minL P (P.acc r)).toNat - 1) (by omega)
    obtain ⟨g1, g2, g3, g4, g5, g6, g7, g8, g9⟩ := hs
    refine ⟨g1, g8, g4, fun a1 a2 => ?_⟩
    have := g9 a1 (by omega)
    show l.sz ≤ (plX P l r).2.sz ∧ (plX P l r).2.sz ≤ _
    unfold plX
    omega
  · exact ⟨hI, fun h => h, fun x _ => ⟨fun q => q, fun _ => rfl⟩, fun a1 a2 => ⟨Int.le_refl _, by show l.sz ≤ l.sz + 5; omega⟩⟩
theorem mul_rng {a b : Int} (ha : 0 ≤ a ∧ a ≤ 40) (hb : 0 ≤ b ∧ b ≤ 10) : 0 ≤ a * b ∧ a * b ≤ 400 := by
  constructor
  · exact Int.mul_nonneg ha.1 hb.1
  · have h1 := Int.mul_le_mul ha.2 hb.2 hb.1 (by omega : (0 : Int) ≤ 40)
    omega
end
section
/-! FLOWS: the start, what the contracts say -/
def PFe (P : QP) : Prop := (∀ a : Nat, (a : Int) < P.res → P.load a ≤ P.cap a) ∧ (∀ g : Nat, g < 4 → P.asg g ≤ P.quo g) ∧ PFa P ∧ (∀ r : Nat, (r : Int) < P.req → ∀ j, j < 32 → bt (P.acc r) j = true → (j : Int) < P.res)
def maskAll (z : Int) : Int32 := iI 1 <<< (iI z &&& 31) - iI 1
theorem maskAll_bt {P : QP} (hI : PI P) {j : Nat} (hj : j < 32) : bt (maskAll P.res) j = decide ((j : Int) < P.res) := by
  have hr := hI.res
  have h := b_all P.res.toNat (by omega) j hj
  rw [show ((P.res.toNat : Nat) : Int) = P.res by omega] at h
  unfold maskAll
  rw [h]
  exact decide_eq_decide.mpr (by omega)
end
section
set_option maxRecDepth 100000 in
set_option maxHeartbeats 4000000 in
theorem c_X5_isWithin (G : jG) (a b c : Int) (ha : jr a) (hb : jr b) (hc : jr c) : CZ G yX5_isWithin cX5_isWithin 3 (jrm 0 0 0 0) [.int (iI a), .int (iI b), .int (iI c)] [] (fun (z : Bool) _ => z = decide (b ≤ a ∧ a ≤ c)) (fun _ : Unit => []) 0 0 := by
  refine cz_intro (own := RX5) [some (.int (iI a)), some (.int (iI b)), some (.int (iI c))] (by decide) rfl rfl rfl (Nat.le_of_ble_eq_true rfl) (fun X C hret => ?_)
  refine jw_iload_0 (pc := 0) C dX5_isWithin_0 ?_
  refine jw_iload_1 (pc := 1) C dX5_isWithin_1 ?_
  refine jw_icmp_lt (pc := 2) (tgt := 14) C dX5_isWithin_2 (by decide) ha hb (fun c_2 => ?_) (fun c_2 => ?_)
  · have hz : false = decide (b ≤ a ∧ a ≤ c) := by simp; omega
    refine jw_iconst (pc := 14) C dX5_isWithin_14 ?_
    exact hret _ _ _ () dX5_isWithin_15 hz
  · refine jw_iload_0 (pc := 5) C dX5_isWithin_5 ?_
    refine jw_iload_2 (pc := 6) C dX5_isWithin_6 ?_
    refine jw_icmp_gt (pc := 7) (tgt := 14) C dX5_isWithin_7 (by decide) ⟨by omega, by omega⟩ ⟨by omega, by omega⟩ (fun c_7 => ?_) (fun c_7 => ?_)
    · have hz : false = decide (b ≤ a ∧ a ≤ c) := by simp; omega
      refine jw_iconst (pc := 14) C dX5_isWithin_14 ?_
      exact hret _ _ _ () dX5_isWithin_15 hz
    · have hz : true = decide (b ≤ a ∧ a ≤ c) := by simp; omega
      refine jw_iconst (pc := 10) C dX5_isWithin_10 ?_
      refine jw_goto (pc := 11) (tgt := 15) C dX5_isWithin_11 (by decide) ?_
      exact hret _ _ _ () dX5_isWithin_15 hz
set_option maxRecDepth 100000 in
set_option maxHeartbeats 4000000 in
theorem c_X5_hasBit (G : jG) (m : Int32) (k : Nat) : CZ G yX5_hasBit cX5_hasBit 2 (jrm 0 0 0 0) [.int m, .int (iI (k : Int))] [] (fun (z : Bool) _ => z = bitB m k) (fun _ : Unit => []) 0 0 := by
  refine cz_intro (own := RX5) [some (.int m), some (.int (iI (k : Int)))] (by decide) rfl rfl rfl (Nat.le_of_ble_eq_true rfl) (fun X C hret => ?_)
  refine jw_iload_0 (pc := 0) C dX5_hasBit_0 ?_
  refine jw_iload_1 (pc := 1) C dX5_hasBit_1 ?_
  refine jw_ishr (pc := 2) C dX5_hasBit_2 ?_
  refine jw_iconst (pc := 3) C dX5_hasBit_3 ?_
  refine jw_iand (pc := 4) C dX5_hasBit_4 ?_
  refine jw_if_eq_r (pc := 5) (tgt := 12) C dX5_hasBit_5 (by decide) (fun c_5 => ?_) (fun c_5 => ?_)
  · have hz : false = bitB m k := by simp [bitB, c_5]
    refine jw_iconst (pc := 12) C dX5_hasBit_12 ?_
    exact hret _ _ _ () dX5_hasBit_13 hz
  · have hz : true = bitB m k := by simp [bitB, c_5]
    refine jw_iconst (pc := 8) C dX5_hasBit_8 ?_
    refine jw_goto (pc := 9) (tgt := 13) C dX5_hasBit_9 (by decide) ?_
    exact hret _ _ _ () dX5_hasBit_13 hz
set_option maxRecDepth 100000 in
set_option maxHeartbeats 4000000 in
theorem c_X4_maskOfAll (G : jG) (ad : Nat → Nat) (P : QP) (l : QL) (A : QA) (T : Nat → Bool) (F : QF)  : CI G yX4_maskOfAll cX4_maskOfAll 1 (jrm 0 0 0 0) [.ref (ad 1)] (wC G ad P l A T F) (fun (z : Int32) _ => z = iI 1 <<< (iI P.res &&& 31) - iI 1) (fun _ : Unit => wC G ad P l A T F) 0 0 := by
  refine ci_intro (own := RX4) [some (.ref (ad 1))] (by decide) rfl rfl rfl (Nat.le_of_ble_eq_true rfl) (fun X C hret => ?_)
  refine jw_iconst (pc := 0) C dX4_maskOfAll_0 ?_
  refine jw_aload_0 (pc := 1) C dX4_maskOfAll_1 ?_
  refine fg_X4_46 (pc := 2) C 1 rfl rfl dX4_maskOfAll_2 ?_
  refine jw_ishl (pc := 5) C dX4_maskOfAll_5 ?_
  refine jw_iconst (pc := 6) C dX4_maskOfAll_6 ?_
  refine jw_isub_r (pc := 7) C dX4_maskOfAll_7 ?_
  exact hret _ _ _ () dX4_maskOfAll_8 rfl
set_option maxRecDepth 100000 in
set_option maxHeartbeats 4000000 in
theorem c_X4_isWaiting (G : jG) (ad : Nat → Nat) (P : QP) (l : QL) (A : QA) (T : Nat → Bool) (F : QF) (r : Nat) (hr : r < 40) (hI : PI P) : CZ G yX4_isWaiting cX4_isWaiting 2 (jrm 0 0 0 0) [.ref (ad 1), .int (iI (r : Int))] (wC G ad P l A T F) (fun (z : Bool) _ => z = decide (P.plc r = -1)) (fun _ : Unit => wC G ad P l A T F) 0 0 := by
  refine cz_intro (own := RX4) [some (.ref (ad 1)), some (.int (iI (r : Int)))] (by decide) rfl rfl rfl (Nat.le_of_ble_eq_true rfl) (fun X C hret => ?_)
  have h1 := hI.plc r
  refine jw_aload_0 (pc := 0) C dX4_isWaiting_0 ?_
  refine fg_X4_33 (pc := 1) C 1 rfl rfl dX4_isWaiting_1 ?_
  refine jw_iload_1 (pc := 4) C dX4_isWaiting_4 ?_
  refine jw_iald (pc := 5) C 13 rfl _ rfl (by omega) (by decide) dX4_isWaiting_5 ?_
  refine jw_iconst (pc := 6) C dX4_isWaiting_6 ?_
  refine jw_icmp_ne (pc := 7) (tgt := 14) C dX4_isWaiting_7 (by decide) ⟨by omega, by omega⟩ ⟨by omega, by omega⟩ (fun c_7 => ?_) (fun c_7 => ?_)
  · have hz : false = decide (P.plc r = -1) := by simp <;> omega
    refine jw_iconst (pc := 14) C dX4_isWaiting_14 ?_
    exact hret _ _ _ () dX4_isWaiting_15 hz
  · have hz : true = decide (P.plc r = -1) := by simp <;> omega
    refine jw_iconst (pc := 10) C dX4_isWaiting_10 ?_
    refine jw_goto (pc := 11) (tgt := 15) C dX4_isWaiting_11 (by decide) ?_
    exact hret _ _ _ () dX4_isWaiting_15 hz
set_option maxRecDepth 100000 in
set_option maxHeartbeats 4000000 in
theorem c_X4_isAssigned (G : jG) (ad : Nat → Nat) (P : QP) (l : QL) (A : QA) (T : Nat → Bool) (F : QF) (r : Nat) (hr : r < 40) (hI : PI P) : CZ G yX4_isAssigned cX4_isAssigned 2 (jrm 0 0 0 0) [.ref (ad 1), .int (iI (r : Int))] (wC G ad P l A T F) (fun (z : Bool) _ => z = decide (0 ≤ P.plc r)) (fun _ : Unit => wC G ad P l A T F) 0 0 := by
  refine cz_intro (own := RX4) [some (.ref (ad 1)), some (.int (iI (r : Int)))] (by decide) rfl rfl rfl (Nat.le_of_ble_eq_true rfl) (fun X C hret => ?_)
  have h1 := hI.plc r
  refine jw_aload_0 (pc := 0) C dX4_isAssigned_0 ?_
  refine fg_X4_33 (pc := 1) C 1 rfl rfl dX4_isAssigned_1 ?_
  refine jw_iload_1 (pc := 4) C dX4_isAssigned_4 ?_
  refine jw_iald (pc := 5) C 13 rfl _ rfl (by omega) (by decide) dX4_isAssigned_5 ?_
  refine jw_if_lt (pc := 6) (tgt := 13) C dX4_isAssigned_6 (by decide) ⟨by omega, by omega⟩ (fun c_6 => ?_) (fun c_6 => ?_)
  · have hz : false = decide (0 ≤ P.plc r) := by simp <;> omega
    refine jw_iconst (pc := 13) C dX4_isAssigned_13 ?_
    exact hret _ _ _ () dX4_isAssigned_14 hz
  · have hz : true = decide (0 ≤ P.plc r) := by simp <;> omega
    refine jw_iconst (pc := 9) C dX4_isAssigned_9 ?_
    refine jw_goto (pc := 10) (tgt := 14) C dX4_isAssigned_10 (by decide) ?_
    exact hret _ _ _ () dX4_isAssigned_14 hz
set_option maxRecDepth 100000 in
set_option maxHeartbeats 4000000 in
theorem c_X4_isDeparted (G : jG) (ad : Nat → Nat) (P : QP) (l : QL) (A : QA) (T : Nat → Bool) (F : QF) (r : Nat) (hr : r < 40) (hI : PI P) : CZ G yX4_isDeparted cX4_isDeparted 2 (jrm 0 0 0 0) [.ref (ad 1), .int (iI (r : Int))] (wC G ad P l A T F) (fun (z : Bool) _ => z = decide (P.plc r = -2)) (fun _ : Unit => wC G ad P l A T F) 0 0 := by
  refine cz_intro (own := RX4) [some (.ref (ad 1)), some (.int (iI (r : Int)))] (by decide) rfl rfl rfl (Nat.le_of_ble_eq_true rfl) (fun X C hret => ?_)
  have h1 := hI.plc r
  refine jw_aload_0 (pc := 0) C dX4_isDeparted_0 ?_
  refine fg_X4_33 (pc := 1) C 1 rfl rfl dX4_isDeparted_1 ?_
  refine jw_iload_1 (pc := 4) C dX4_isDeparted_4 ?_
  refine jw_iald (pc := 5) C 13 rfl _ rfl (by omega) (by decide) dX4_isDeparted_5 ?_
  refine jw_bipush (pc := 6) C dX4_isDeparted_6 (by decide) ?_
  refine jw_icmp_ne (pc := 8) (tgt := 15) C dX4_isDeparted_8 (by decide) ⟨by omega, by omega⟩ ⟨by omega, by omega⟩ (fun c_8 => ?_) (fun c_8 => ?_)
  · have hz : false = decide (P.plc r = -2) := by simp <;> omega
    refine jw_iconst (pc := 15) C dX4_isDeparted_15 ?_
    exact hret _ _ _ () dX4_isDeparted_16 hz
  · have hz : true = decide (P.plc r = -2) := by simp <;> omega
    refine jw_iconst (pc := 11) C dX4_isDeparted_11 ?_
    refine jw_goto (pc := 12) (tgt := 16) C dX4_isDeparted_12 (by decide) ?_
    exact hret _ _ _ () dX4_isDeparted_16 hz
set_option maxRecDepth 100000 in
set_option maxHeartbeats 4000000 in
theorem c_X4_stateNumber (G : jG) (ad : Nat → Nat) (P : QP) (l : QL) (A : QA) (T : Nat → Bool) (F : QF) (r : Nat) (hr : r < 40) (hI : PI P) : CI G yX4_stateNumber cX4_stateNumber 2 (jrm 1 21 0 0) [.ref (ad 1), .int (iI (r : Int))] (wC G ad P l A T F) (fun (z : Int32) _ => z = iI (stN (P.plc r))) (fun _ : Unit => wC G ad P l A T F) 0 0 := by
  refine ci_intro (own := RX4) [some (.ref (ad 1)), some (.int (iI (r : Int)))] (by decide) rfl rfl rfl (Nat.le_of_ble_eq_true rfl) (fun X C hret => ?_)
  have h1 := hI.plc r
  refine jw_aload_0 (pc := 0) C dX4_stateNumber_0 ?_
  refine jw_iload_1 (pc := 1) C dX4_stateNumber_1 ?_
  refine jw_V_Z (pc := 2) C (c_X4_isWaiting G ad P l A T F r hr hI) wd_X4_isWaiting kml_X4_49 1 rfl rfl rfl rfl (Nat.le_of_ble_eq_true rfl) ⟨by decide, by decide⟩ ⟨Nat.zero_le _, Nat.zero_le _⟩ dX4_stateNumber_2 rfl (fun z u h => ?_)
  subst h
  refine jw_if_eq_b (pc := 5) (tgt := 10) C dX4_stateNumber_5 (by decide) (fun c_5 => ?_) (fun c_5 => ?_)
  · refine jw_aload_0 (pc := 10) C dX4_stateNumber_10 ?_
    refine jw_iload_1 (pc := 11) C dX4_stateNumber_11 ?_
    refine jw_V_Z (pc := 12) C (c_X4_isAssigned G ad P l A T F r hr hI) wd_X4_isAssigned kml_X4_53 1 rfl rfl rfl rfl (Nat.le_of_ble_eq_true rfl) ⟨by decide, by decide⟩ ⟨Nat.zero_le _, Nat.zero_le _⟩ dX4_stateNumber_12 rfl (fun z u h => ?_)
    subst h
    refine jw_if_eq_b (pc := 15) (tgt := 22) C dX4_stateNumber_15 (by decide) (fun c_15 => ?_) (fun c_15 => ?_)
    · have hz : iI 2 = iI (stN (P.plc r)) := by rw [stN, if_neg (of_decide_eq_false c_5), if_neg (of_decide_eq_false c_15)]
      refine jw_iconst (pc := 22) C dX4_stateNumber_22 ?_
      exact hret _ _ _ () dX4_stateNumber_23 hz
    · have hz : iI 1 = iI (stN (P.plc r)) := by rw [stN, if_neg (of_decide_eq_false c_5), if_pos (of_decide_eq_true c_15)]
      refine jw_iconst (pc := 18) C dX4_stateNumber_18 ?_
      refine jw_goto (pc := 19) (tgt := 23) C dX4_stateNumber_19 (by decide) ?_
      exact hret _ _ _ () dX4_stateNumber_23 hz
  · refine jw_iconst (pc := 8) C dX4_stateNumber_8 ?_
    exact hret _ _ _ () dX4_stateNumber_9 (by rw [stN, if_pos (of_decide_eq_true c_5)])
set_option maxRecDepth 100000 in
set_option maxHeartbeats 4000000 in
theorem c_X4_canBeMoved (G : jG) (ad : Nat → Nat) (P : QP) (l : QL) (A : QA) (T : Nat → Bool) (F : QF) (r : Nat) (hr : r < 40) (hI : PI P) : CZ G yX4_canBeMoved cX4_canBeMoved 2 (jrm 0 0 0 0) [.ref (ad 1), .int (iI (r : Int))] (wC G ad P l A T F) (fun (z : Bool) _ => z = decide (0 ≤ P.plc r ∧ P.mov r < P.ml)) (fun _ : Unit => wC G ad P l A T F) 0 0 := by
  refine cz_intro (own := RX4) [some (.ref (ad 1)), some (.int (iI (r : Int)))] (by decide) rfl rfl rfl (Nat.le_of_ble_eq_true rfl) (fun X C hret => ?_)
  have h1 := hI.plc r
  have h2 := hI.mov r
  have h3 := hI.ml
  refine jw_aload_0 (pc := 0) C dX4_canBeMoved_0 ?_
  refine fg_X4_33 (pc := 1) C 1 rfl rfl dX4_canBeMoved_1 ?_
  refine jw_iload_1 (pc := 4) C dX4_canBeMoved_4 ?_
  refine jw_iald (pc := 5) C 13 rfl _ rfl (by omega) (by decide) dX4_canBeMoved_5 ?_
  refine jw_if_lt (pc := 6) (tgt := 26) C dX4_canBeMoved_6 (by decide) ⟨by omega, by omega⟩ (fun c_6 => ?_) (fun c_6 => ?_)
  · have hz : false = decide (0 ≤ P.plc r ∧ P.mov r < P.ml) := by simp <;> omega
    refine jw_iconst (pc := 26) C dX4_canBeMoved_26 ?_
    exact hret _ _ _ () dX4_canBeMoved_27 hz
  · refine jw_aload_0 (pc := 9) C dX4_canBeMoved_9 ?_
    refine fg_X4_36 (pc := 10) C 1 rfl rfl dX4_canBeMoved_10 ?_
    refine jw_iload_1 (pc := 13) C dX4_canBeMoved_13 ?_
    refine jw_iald (pc := 14) C 14 rfl _ rfl (by omega) (by decide) dX4_canBeMoved_14 ?_
    refine jw_aload_0 (pc := 15) C dX4_canBeMoved_15 ?_
    refine fg_X4_43 (pc := 16) C 1 rfl rfl dX4_canBeMoved_16 ?_
    refine jw_icmp_ge (pc := 19) (tgt := 26) C dX4_canBeMoved_19 (by decide) ⟨by omega, by omega⟩ ⟨by omega, by omega⟩ (fun c_19 => ?_) (fun c_19 => ?_)
    · have hz : false = decide (0 ≤ P.plc r ∧ P.mov r < P.ml) := by simp <;> omega
      refine jw_iconst (pc := 26) C dX4_canBeMoved_26 ?_
      exact hret _ _ _ () dX4_canBeMoved_27 hz
    · have hz : true = decide (0 ≤ P.plc r ∧ P.mov r < P.ml) := by simp <;> omega
      refine jw_iconst (pc := 22) C dX4_canBeMoved_22 ?_
      refine jw_goto (pc := 23) (tgt := 27) C dX4_canBeMoved_23 (by decide) ?_
      exact hret _ _ _ () dX4_canBeMoved_27 hz
set_option maxRecDepth 100000 in
set_option maxHeartbeats 4000000 in
theorem c_X4_resourceHasRoom (G : jG) (ad : Nat → Nat) (P : QP) (l : QL) (A : QA) (T : Nat → Bool) (F : QF) (a : Nat) (ha : a < 12) (hI : PI P) : CZ G yX4_resourceHasRoom cX4_resourceHasRoom 2 (jrm 0 0 0 0) [.ref (ad 1), .int (iI (a : Int))] (wC G ad P l A T F) (fun (z : Bool) _ => z = decide (P.load a < P.cap a)) (fun _ : Unit => wC G ad P l A T F) 0 0 := by
  refine cz_intro (own := RX4) [some (.ref (ad 1)), some (.int (iI (a : Int)))] (by decide) rfl rfl rfl (Nat.le_of_ble_eq_true rfl) (fun X C hret => ?_)
  have h1 := hI.load a
  have h2 := hI.cap a
  refine jw_aload_0 (pc := 0) C dX4_resourceHasRoom_0 ?_
  refine fg_X4_15 (pc := 1) C 1 rfl rfl dX4_resourceHasRoom_1 ?_
  refine jw_iload_1 (pc := 4) C dX4_resourceHasRoom_4 ?_
  refine jw_iald (pc := 5) C 7 rfl _ rfl (by omega) (by decide) dX4_resourceHasRoom_5 ?_
  refine jw_aload_0 (pc := 6) C dX4_resourceHasRoom_6 ?_
  refine fg_X4_9 (pc := 7) C 1 rfl rfl dX4_resourceHasRoom_7 ?_
  refine jw_iload_1 (pc := 10) C dX4_resourceHasRoom_10 ?_
  refine jw_iald (pc := 11) C 6 rfl _ rfl (by omega) (by decide) dX4_resourceHasRoom_11 ?_
  refine jw_icmp_ge (pc := 12) (tgt := 19) C dX4_resourceHasRoom_12 (by decide) ⟨by omega, by omega⟩ ⟨by omega, by omega⟩ (fun c_12 => ?_) (fun c_12 => ?_)
  · have hz : false = decide (P.load a < P.cap a) := by simp <;> omega
    refine jw_iconst (pc := 19) C dX4_resourceHasRoom_19 ?_
    exact hret _ _ _ () dX4_resourceHasRoom_20 hz
  · have hz : true = decide (P.load a < P.cap a) := by simp <;> omega
    refine jw_iconst (pc := 15) C dX4_resourceHasRoom_15 ?_
    refine jw_goto (pc := 16) (tgt := 20) C dX4_resourceHasRoom_16 (by decide) ?_
    exact hret _ _ _ () dX4_resourceHasRoom_20 hz
set_option maxRecDepth 100000 in
set_option maxHeartbeats 4000000 in
theorem c_X4_groupHasRoom (G : jG) (ad : Nat → Nat) (P : QP) (l : QL) (A : QA) (T : Nat → Bool) (F : QF) (g : Nat) (hg : g < 4) (hI : PI P) : CZ G yX4_groupHasRoom cX4_groupHasRoom 2 (jrm 0 0 0 0) [.ref (ad 1), .int (iI (g : Int))] (wC G ad P l A T F) (fun (z : Bool) _ => z = decide (P.asg g < P.quo g)) (fun _ : Unit => wC G ad P l A T F) 0 0 := by
  refine cz_intro (own := RX4) [some (.ref (ad 1)), some (.int (iI (g : Int)))] (by decide) rfl rfl rfl (Nat.le_of_ble_eq_true rfl) (fun X C hret => ?_)
  have h1 := hI.asg g
  have h2 := hI.quo g
  refine jw_aload_0 (pc := 0) C dX4_groupHasRoom_0 ?_
  refine fg_X4_24 (pc := 1) C 1 rfl rfl dX4_groupHasRoom_1 ?_
  refine jw_iload_1 (pc := 4) C dX4_groupHasRoom_4 ?_
  refine jw_iald (pc := 5) C 10 rfl _ rfl (by omega) (by decide) dX4_groupHasRoom_5 ?_
  refine jw_aload_0 (pc := 6) C dX4_groupHasRoom_6 ?_
  refine fg_X4_18 (pc := 7) C 1 rfl rfl dX4_groupHasRoom_7 ?_
  refine jw_iload_1 (pc := 10) C dX4_groupHasRoom_10 ?_
  refine jw_iald (pc := 11) C 8 rfl _ rfl (by omega) (by decide) dX4_groupHasRoom_11 ?_
  refine jw_icmp_ge (pc := 12) (tgt := 19) C dX4_groupHasRoom_12 (by decide) ⟨by omega, by omega⟩ ⟨by omega, by omega⟩ (fun c_12 => ?_) (fun c_12 => ?_)
  · have hz : false = decide (P.asg g < P.quo g) := by simp <;> omega
    refine jw_iconst (pc := 19) C dX4_groupHasRoom_19 ?_
    exact hret _ _ _ () dX4_groupHasRoom_20 hz
  · have hz : true = decide (P.asg g < P.quo g) := by simp <;> omega
    refine jw_iconst (pc := 15) C dX4_groupHasRoom_15 ?_
    refine jw_goto (pc := 16) (tgt := 20) C dX4_groupHasRoom_16 (by decide) ?_
    exact hret _ _ _ () dX4_groupHasRoom_20 hz
end
section
set_option maxRecDepth 100000 in
set_option maxHeartbeats 4000000 in
theorem c_X4_putBack (G : jG) (ad : Nat → Nat) (P : QP) (l : QL) (A : QA) (T : Nat → Bool) (F : QF) (r : Nat) (hI : PI P) (hr : (r : Int) < P.req) : CV G yX4_putBack cX4_putBack 2 (jrm 1 21 0 0) [.ref (ad 1), .int (iI (r : Int))] (wC G ad P l A T F) (fun u : QP => u = pPut P r) (fun u : QP => wC G ad u l A T F) 0 0 := by
  refine cv_intro (own := RX4) [some (.ref (ad 1)), some (.int (iI (r : Int)))] (by decide) rfl rfl rfl (Nat.le_of_ble_eq_true rfl) (fun X C hret => ?_)
  have h1 := hI.plc r
  have h2 := hI.grp r
  have h3 := hI.req
  refine jw_aload_0 (pc := 0) C dX4_putBack_0 ?_
  refine jw_iload_1 (pc := 1) C dX4_putBack_1 ?_
  refine jw_V_Z (pc := 2) C (c_X4_isAssigned G ad P l A T F r (by omega) hI) wd_X4_isAssigned kml_X4_53 1 rfl rfl rfl rfl (Nat.le_of_ble_eq_true rfl) ⟨by decide, by decide⟩ ⟨Nat.zero_le _, Nat.zero_le _⟩ dX4_putBack_2 rfl (fun z u h => ?_)
  subst h
  refine jw_if_eq_b (pc := 5) (tgt := 45) C dX4_putBack_5 (by decide) (fun c_5 => ?_) (fun c_5 => ?_)
  · have c := of_decide_eq_false c_5
    first | exact hret _ _ P dX4_putBack_45 (pPut_neg c).symm | exact hret _ _ (pPutT P r) dX4_putBack_45 (pPut_pos c).symm
  · have c : 0 ≤ P.plc r := of_decide_eq_true c_5
    refine jw_aload_0 (pc := 8) C dX4_putBack_8 ?_
    refine fg_X4_15 (pc := 9) C 1 rfl rfl dX4_putBack_9 ?_
    refine jw_aload_0 (pc := 12) C dX4_putBack_12 ?_
    refine fg_X4_33 (pc := 13) C 1 rfl rfl dX4_putBack_13 ?_
    refine jw_iload_1 (pc := 16) C dX4_putBack_16 ?_
    refine jw_iald (pc := 17) C 13 rfl _ rfl (by omega) (by decide) dX4_putBack_17 ?_
    refine jw_dup2 (pc := 18) C dX4_putBack_18 rfl rfl ?_
    refine jw_iald (pc := 19) C 7 rfl (P.plc r).toNat (by omega) (by omega) (by decide) dX4_putBack_19 ?_
    refine jw_iconst (pc := 20) C dX4_putBack_20 ?_
    refine jw_isub (pc := 21) C dX4_putBack_21 ?_
    refine jw_iast (pc := 22) C 7 rfl (P.plc r).toNat (by omega) (by omega) (by decide) dX4_putBack_22 ?_
    refine jw_aload_0 (pc := 23) C dX4_putBack_23 ?_
    refine fg_X4_24 (pc := 24) C 1 rfl rfl dX4_putBack_24 ?_
    refine jw_aload_0 (pc := 27) C dX4_putBack_27 ?_
    refine fg_X4_27 (pc := 28) C 1 rfl rfl dX4_putBack_28 ?_
    refine jw_iload_1 (pc := 31) C dX4_putBack_31 ?_
    refine jw_iald (pc := 32) C 11 rfl _ rfl (by omega) (by decide) dX4_putBack_32 ?_
    refine jw_dup2 (pc := 33) C dX4_putBack_33 rfl rfl ?_
    refine jw_iald (pc := 34) C 10 rfl (P.grp r).toNat (by omega) (by omega) (by decide) dX4_putBack_34 ?_
    refine jw_iconst (pc := 35) C dX4_putBack_35 ?_
    refine jw_isub (pc := 36) C dX4_putBack_36 ?_
    refine jw_iast (pc := 37) C 10 rfl (P.grp r).toNat (by omega) (by omega) (by decide) dX4_putBack_37 ?_
    refine jw_aload_0 (pc := 38) C dX4_putBack_38 ?_
    refine fg_X4_33 (pc := 39) C 1 rfl rfl dX4_putBack_39 ?_
    refine jw_iload_1 (pc := 42) C dX4_putBack_42 ?_
    refine jw_iconst (pc := 43) C dX4_putBack_43 ?_
    refine jw_iast (pc := 44) C 13 rfl _ rfl (by omega) (by decide) dX4_putBack_44 ?_
    first | exact hret _ _ P dX4_putBack_45 (pPut_neg c).symm | exact hret _ _ (pPutT P r) dX4_putBack_45 (pPut_pos c).symm
set_option maxRecDepth 100000 in
set_option maxHeartbeats 4000000 in
theorem c_X4_assign (G : jG) (ad : Nat → Nat) (P : QP) (l : QL) (A : QA) (T : Nat → Bool) (F : QF) (r a : Nat) (hI : PI P) (hr : (r : Int) < P.req) (ha : a < 12) : CV G yX4_assign cX4_assign 3 (jrm 0 0 0 0) [.ref (ad 1), .int (iI (r : Int)), .int (iI (a : Int))] (wC G ad P l A T F) (fun u : QP => u = pAssign P r a) (fun u : QP => wC G ad u l A T F) 0 0 := by
  refine cv_intro (own := RX4) [some (.ref (ad 1)), some (.int (iI (r : Int))), some (.int (iI (a : Int)))] (by decide) rfl rfl rfl (Nat.le_of_ble_eq_true rfl) (fun X C hret => ?_)
  have h1 := hI.plc r
  have h2 := hI.grp r
  have h3 := hI.req
  refine jw_aload_0 (pc := 0) C dX4_assign_0 ?_
  refine fg_X4_33 (pc := 1) C 1 rfl rfl dX4_assign_1 ?_
  refine jw_iload_1 (pc := 4) C dX4_assign_4 ?_
  refine jw_iload_2 (pc := 5) C dX4_assign_5 ?_
  refine jw_iast (pc := 6) C 13 rfl _ rfl (by omega) (by decide) dX4_assign_6 ?_
  refine jw_aload_0 (pc := 7) C dX4_assign_7 ?_
  refine fg_X4_15 (pc := 8) C 1 rfl rfl dX4_assign_8 ?_
  refine jw_iload_2 (pc := 11) C dX4_assign_11 ?_
  refine jw_dup2 (pc := 12) C dX4_assign_12 rfl rfl ?_
  refine jw_iald (pc := 13) C 7 rfl _ rfl (by omega) (by decide) dX4_assign_13 ?_
  refine jw_iconst (pc := 14) C dX4_assign_14 ?_
  refine jw_iadd (pc := 15) C dX4_assign_15 ?_
  refine jw_iast (pc := 16) C 7 rfl _ rfl (by omega) (by decide) dX4_assign_16 ?_
  refine jw_aload_0 (pc := 17) C dX4_assign_17 ?_
  refine fg_X4_24 (pc := 18) C 1 rfl rfl dX4_assign_18 ?_
  refine jw_aload_0 (pc := 21) C dX4_assign_21 ?_
  refine fg_X4_27 (pc := 22) C 1 rfl rfl dX4_assign_22 ?_
  refine jw_iload_1 (pc := 25) C dX4_assign_25 ?_
  refine jw_iald (pc := 26) C 11 rfl _ rfl (by omega) (by decide) dX4_assign_26 ?_
  refine jw_dup2 (pc := 27) C dX4_assign_27 rfl rfl ?_
  refine jw_iald (pc := 28) C 10 rfl (P.grp r).toNat (by omega) (by omega) (by decide) dX4_assign_28 ?_
  refine jw_iconst (pc := 29) C dX4_assign_29 ?_
  refine jw_iadd (pc := 30) C dX4_assign_30 ?_
  refine jw_iast (pc := 31) C 10 rfl (P.grp r).toNat (by omega) (by omega) (by decide) dX4_assign_31 ?_
  exact hret _ _ (pAssign P r a) dX4_assign_32 rfl
set_option maxRecDepth 100000 in
set_option maxHeartbeats 4000000 in
theorem c_X4_move (G : jG) (ad : Nat → Nat) (P : QP) (l : QL) (A : QA) (T : Nat → Bool) (F : QF) (r a : Nat) (hI : PI P) (hr : (r : Int) < P.req) (ha : a < 12) : CV G yX4_move cX4_move 3 (jrm 2 42 0 0) [.ref (ad 1), .int (iI (r : Int)), .int (iI (a : Int))] (wC G ad P l A T F) (fun u : QP => u = pMove P r a) (fun u : QP => wC G ad u l A T F) 0 0 := by
  refine cv_intro (own := RX4) [some (.ref (ad 1)), some (.int (iI (r : Int))), some (.int (iI (a : Int)))] (by decide) rfl rfl rfl (Nat.le_of_ble_eq_true rfl) (fun X C hret => ?_)
  have h1 := hI.plc r
  have h2 := hI.grp r
  have h3 := hI.req
  refine jw_aload_0 (pc := 0) C dX4_move_0 ?_
  refine jw_iload_1 (pc := 1) C dX4_move_1 ?_
  refine jw_V_V (pc := 2) C (c_X4_putBack G ad P l A T F r hI hr) wd_X4_putBack kml_X4_59 1 rfl rfl rfl rfl (Nat.le_of_ble_eq_true rfl) ⟨by decide, by decide⟩ ⟨Nat.zero_le _, Nat.zero_le _⟩ dX4_move_2 rfl (fun u h => ?_)
  subst h
  refine jw_aload_0 (pc := 5) C dX4_move_5 ?_
  refine jw_iload_1 (pc := 6) C dX4_move_6 ?_
  refine jw_iload_2 (pc := 7) C dX4_move_7 ?_
  refine jw_V_V (pc := 8) C (c_X4_assign G ad (pPut P r) l A T F r a (PI_put hI hr) (by rw [pPut_req]; exact hr) ha) wd_X4_assign kml_X4_67 1 rfl rfl rfl rfl (Nat.le_of_ble_eq_true rfl) ⟨by decide, by decide⟩ ⟨Nat.zero_le _, Nat.zero_le _⟩ dX4_move_8 rfl (fun u h => ?_)
  subst h
  refine jw_aload_0 (pc := 11) C dX4_move_11 ?_
  refine fg_X4_36 (pc := 12) C 1 rfl rfl dX4_move_12 ?_
  refine jw_iload_1 (pc := 15) C dX4_move_15 ?_
  refine jw_dup2 (pc := 16) C dX4_move_16 rfl rfl ?_
  refine jw_iald (pc := 17) C 14 rfl _ rfl (by omega) (by decide) dX4_move_17 ?_
  refine jw_iconst (pc := 18) C dX4_move_18 ?_
  refine jw_iadd (pc := 19) C dX4_move_19 ?_
  refine jw_iast (pc := 20) C 14 rfl _ rfl (by omega) (by decide) dX4_move_20 ?_
  exact hret _ _ (pMove P r a) dX4_move_21 rfl
set_option maxRecDepth 100000 in
set_option maxHeartbeats 4000000 in
theorem c_X4_openResource (G : jG) (ad : Nat → Nat) (P : QP) (l : QL) (A : QA) (T : Nat → Bool) (F : QF) (c : Int) (hI : PI P) (hr : P.res < 12) : CI G yX4_openResource cX4_openResource 3 (jrm 0 0 0 0) [.ref (ad 1), .int (iI c)] (wC G ad P l A T F) (fun (z : Int32) (u : QP) => z = iI P.res ∧ u = pOpen P c) (fun u : QP => wC G ad u l A T F) 0 0 := by
  refine ci_intro (own := RX4) [some (.ref (ad 1)), some (.int (iI c)), none] (by decide) rfl rfl rfl (Nat.le_of_ble_eq_true rfl) (fun X C hret => ?_)
  have h1 := hI.res
  refine jw_aload_0 (pc := 0) C dX4_openResource_0 ?_
  refine fg_X4_46 (pc := 1) C 1 rfl rfl dX4_openResource_1 ?_
  refine jw_istore_2 (pc := 4) C dX4_openResource_4 rfl ?_
  refine jw_aload_0 (pc := 5) C dX4_openResource_5 ?_
  refine fg_X4_9 (pc := 6) C 1 rfl rfl dX4_openResource_6 ?_
  refine jw_iload_2 (pc := 9) C dX4_openResource_9 ?_
  refine jw_iload_1 (pc := 10) C dX4_openResource_10 ?_
  refine jw_iast (pc := 11) C 6 rfl P.res.toNat (by omega) (by omega) (by decide) dX4_openResource_11 ?_
  refine jw_aload_0 (pc := 12) C dX4_openResource_12 ?_
  refine jw_dup (pc := 13) C dX4_openResource_13 rfl ?_
  refine fg_X4_46 (pc := 14) C 1 rfl rfl dX4_openResource_14 ?_
  refine jw_iconst (pc := 17) C dX4_openResource_17 ?_
  refine jw_iadd (pc := 18) C dX4_openResource_18 ?_
  refine fp_X4_46 (pc := 19) C 1 rfl (Nat.le_of_ble_eq_true rfl) dX4_openResource_19 ?_
  refine jw_iload_2 (pc := 22) C dX4_openResource_22 ?_
  exact hret _ _ _ (pOpen P c) dX4_openResource_23 ⟨rfl, rfl⟩
set_option maxRecDepth 100000 in
set_option maxHeartbeats 4000000 in
theorem c_X4_admit (G : jG) (ad : Nat → Nat) (P : QP) (l : QL) (A : QA) (T : Nat → Bool) (F : QF) (g : Int) (m : Int32) (hI : PI P) (hr : P.req < 40) : CI G yX4_admit cX4_admit 4 (jrm 0 0 0 0) [.ref (ad 1), .int (iI g), .int m] (wC G ad P l A T F) (fun (z : Int32) (u : QP) => z = iI P.req ∧ u = pAdmit P g m) (fun u : QP => wC G ad u l A T F) 0 0 := by
  refine ci_intro (own := RX4) [some (.ref (ad 1)), some (.int (iI g)), some (.int m), none] (by decide) rfl rfl rfl (Nat.le_of_ble_eq_true rfl) (fun X C hret => ?_)
  have h1 := hI.req
  refine jw_aload_0 (pc := 0) C dX4_admit_0 ?_
  refine fg_X4_56 (pc := 1) C 1 rfl rfl dX4_admit_1 ?_
  refine jw_istore_3 (pc := 4) C dX4_admit_4 rfl ?_
  refine jw_aload_0 (pc := 5) C dX4_admit_5 ?_
  refine fg_X4_27 (pc := 6) C 1 rfl rfl dX4_admit_6 ?_
  refine jw_iload_3 (pc := 9) C dX4_admit_9 ?_
  refine jw_iload_1 (pc := 10) C dX4_admit_10 ?_
  refine jw_iast (pc := 11) C 11 rfl P.req.toNat (by omega) (by omega) (by decide) dX4_admit_11 ?_
  refine jw_aload_0 (pc := 12) C dX4_admit_12 ?_
  refine fg_X4_30 (pc := 13) C 1 rfl rfl dX4_admit_13 ?_
  refine jw_iload_3 (pc := 16) C dX4_admit_16 ?_
  refine jw_iload_2 (pc := 17) C dX4_admit_17 ?_
  refine jw_iast_r (pc := 18) C 12 rfl P.req.toNat (by omega) (by omega) (by decide) dX4_admit_18 ?_
  refine jw_aload_0 (pc := 19) C dX4_admit_19 ?_
  refine fg_X4_33 (pc := 20) C 1 rfl rfl dX4_admit_20 ?_
  refine jw_iload_3 (pc := 23) C dX4_admit_23 ?_
  refine jw_iconst (pc := 24) C dX4_admit_24 ?_
  refine jw_iast (pc := 25) C 13 rfl P.req.toNat (by omega) (by omega) (by decide) dX4_admit_25 ?_
  refine jw_aload_0 (pc := 26) C dX4_admit_26 ?_
  refine jw_dup (pc := 27) C dX4_admit_27 rfl ?_
  refine fg_X4_56 (pc := 28) C 1 rfl rfl dX4_admit_28 ?_
  refine jw_iconst (pc := 31) C dX4_admit_31 ?_
  refine jw_iadd (pc := 32) C dX4_admit_32 ?_
  refine fp_X4_56 (pc := 33) C 1 rfl (Nat.le_of_ble_eq_true rfl) dX4_admit_33 ?_
  refine jw_iload_3 (pc := 36) C dX4_admit_36 ?_
  exact hret _ _ _ (pAdmit P g m) dX4_admit_37 ⟨rfl, rfl⟩
set_option maxRecDepth 100000 in
set_option maxHeartbeats 4000000 in
theorem c_X4_dismiss (G : jG) (ad : Nat → Nat) (P : QP) (l : QL) (A : QA) (T : Nat → Bool) (F : QF) (r : Nat) (hI : PI P) (hr : (r : Int) < P.req) : CV G yX4_dismiss cX4_dismiss 2 (jrm 2 42 0 0) [.ref (ad 1), .int (iI (r : Int))] (wC G ad P l A T F) (fun u : QP => u = pDismiss P r) (fun u : QP => wC G ad u l A T F) 0 0 := by
  refine cv_intro (own := RX4) [some (.ref (ad 1)), some (.int (iI (r : Int)))] (by decide) rfl rfl rfl (Nat.le_of_ble_eq_true rfl) (fun X C hret => ?_)
  have h1 := hI.plc r
  have h2 := hI.grp r
  have h3 := hI.req
  refine jw_aload_0 (pc := 0) C dX4_dismiss_0 ?_
  refine jw_iload_1 (pc := 1) C dX4_dismiss_1 ?_
  refine jw_V_V (pc := 2) C (c_X4_putBack G ad P l A T F r hI hr) wd_X4_putBack kml_X4_59 1 rfl rfl rfl rfl (Nat.le_of_ble_eq_true rfl) ⟨by decide, by decide⟩ ⟨Nat.zero_le _, Nat.zero_le _⟩ dX4_dismiss_2 rfl (fun u h => ?_)
  subst h
  refine jw_aload_0 (pc := 5) C dX4_dismiss_5 ?_
  refine fg_X4_33 (pc := 6) C 1 rfl rfl dX4_dismiss_6 ?_
  refine jw_iload_1 (pc := 9) C dX4_dismiss_9 ?_
  refine jw_bipush (pc := 10) C dX4_dismiss_10 (by decide) ?_
  refine jw_iast (pc := 12) C 13 rfl _ rfl (by omega) (by decide) dX4_dismiss_12 ?_
  exact hret _ _ (pDismiss P r) dX4_dismiss_13 rfl
set_option maxRecDepth 100000 in
set_option maxHeartbeats 4000000 in
theorem c_X4_accept (G : jG) (ad : Nat → Nat) (P : QP) (l : QL) (A : QA) (T : Nat → Bool) (F : QF) (r : Nat) (m : Int32) (hI : PI P) (hr : (r : Int) < P.req) : CV G yX4_accept cX4_accept 3 (jrm 2 42 0 0) [.ref (ad 1), .int (iI (r : Int)), .int m] (wC G ad P l A T F) (fun u : QP => u = pAccept P r m) (fun u : QP => wC G ad u l A T F) 0 0 := by
  refine cv_intro (own := RX4) [some (.ref (ad 1)), some (.int (iI (r : Int))), some (.int m)] (by decide) rfl rfl rfl (Nat.le_of_ble_eq_true rfl) (fun X C hret => ?_)
  have h1 := hI.plc r
  have h2 := hI.grp r
  have h3 := hI.req
  refine jw_aload_0 (pc := 0) C dX4_accept_0 ?_
  refine fg_X4_30 (pc := 1) C 1 rfl rfl dX4_accept_1 ?_
  refine jw_iload_1 (pc := 4) C dX4_accept_4 ?_
  refine jw_iload_2 (pc := 5) C dX4_accept_5 ?_
  refine jw_iast_r (pc := 6) C 12 rfl _ rfl (by omega) (by decide) dX4_accept_6 ?_
  refine jw_aload_0 (pc := 7) C dX4_accept_7 ?_
  refine jw_iload_1 (pc := 8) C dX4_accept_8 ?_
  refine jw_V_Z (pc := 9) C (c_X4_isAssigned G ad (pMask P r m) l A T F r (by omega) hI) wd_X4_isAssigned kml_X4_53 1 rfl rfl rfl rfl (Nat.le_of_ble_eq_true rfl) ⟨by decide, by decide⟩ ⟨Nat.zero_le _, Nat.zero_le _⟩ dX4_accept_9 rfl (fun z u h => ?_)
  subst h
  refine jw_if_eq_b (pc := 12) (tgt := 33) C dX4_accept_12 (by decide) (fun c_12 => ?_) (fun c_12 => ?_)
  · have e : pMask P r m = pAccept P r m := by rw [pAccept, if_neg (fun q => of_decide_eq_false c_12 q.1)]
    exact hret _ _ _ dX4_accept_33 e
  · refine jw_iload_2 (pc := 15) C dX4_accept_15 ?_
    refine jw_aload_0 (pc := 16) C dX4_accept_16 ?_
    refine fg_X4_33 (pc := 17) C 1 rfl rfl dX4_accept_17 ?_
    refine jw_iload_1 (pc := 20) C dX4_accept_20 ?_
    refine jw_iald (pc := 21) C 13 rfl _ rfl (by omega) (by decide) dX4_accept_21 ?_
    have c : 0 ≤ P.plc r := of_decide_eq_true c_12
    rw [show iI ((pMask P r m).plc r) = iI ((P.plc r).toNat : Int) from by show iI (P.plc r) = _; rw [Int.toNat_of_nonneg c]]
    refine jw_SN0_Z (pc := 22) C (c_X5_hasBit G m (P.plc r).toNat) ws_X5_hasBit kmn_X4_63 rfl rfl (Nat.le_of_ble_eq_true rfl) ⟨by decide, by decide⟩ ⟨Nat.zero_le _, Nat.zero_le _⟩ dX4_accept_22 rfl (fun z u h => ?_)
    subst h
    refine jw_if_ne_b (pc := 25) (tgt := 33) C dX4_accept_25 (by decide) (fun c_25 => ?_) (fun c_25 => ?_)
    · have e : pMask P r m = pAccept P r m := by rw [pAccept, if_neg (fun q => by rw [c_25] at q; exact Bool.noConfusion q.2)]
      exact hret _ _ _ dX4_accept_33 e
    · have e : pPut (pMask P r m) r = pAccept P r m := by rw [pAccept, if_pos ⟨c, c_25⟩]
      refine jw_aload_0 (pc := 28) C dX4_accept_28 ?_
      refine jw_iload_1 (pc := 29) C dX4_accept_29 ?_
      refine jw_V_V (pc := 30) C (c_X4_putBack G ad (pMask P r m) l A T F r hI hr) wd_X4_putBack kml_X4_59 1 rfl rfl rfl rfl (Nat.le_of_ble_eq_true rfl) ⟨by decide, by decide⟩ ⟨Nat.zero_le _, Nat.zero_le _⟩ dX4_accept_30 rfl (fun u h => ?_)
      subst h
      exact hret _ _ _ dX4_accept_33 e
set_option maxRecDepth 100000 in
set_option maxHeartbeats 4000000 in
theorem c_X4_putBackBeyondQuota (G : jG) (ad : Nat → Nat) (P : QP) (l : QL) (A : QA) (T : Nat → Bool) (F : QF) (g : Nat) (hg : g < 4) (hI : PI P) : CI G yX4_putBackBeyondQuota cX4_putBackBeyondQuota 4 (jrm 2 42 0 0) [.ref (ad 1), .int (iI (g : Int))] (wC G ad P l A T F) (fun (z : Int32) (u : QP × Int) => z = iI u.2 ∧ u = pBackQ g P.req.toNat P 0) (fun u : QP × Int => wC G ad u.1 l A T F) 0 0 := by
  refine ci_intro (own := RX4) [some (.ref (ad 1)), some (.int (iI (g : Int))), none, none] (by decide) rfl rfl rfl (Nat.le_of_ble_eq_true rfl) (fun X C hret => ?_)
  have h1 := hI.req
  refine jw_iconst (pc := 0) C dX4_putBackBeyondQuota_0 ?_
  refine jw_istore_2 (pc := 1) C dX4_putBackBeyondQuota_1 rfl ?_
  refine jw_aload_0 (pc := 2) C dX4_putBackBeyondQuota_2 ?_
  refine fg_X4_56 (pc := 3) C 1 rfl rfl dX4_putBackBeyondQuota_3 ?_
  refine jw_iconst (pc := 6) C dX4_putBackBeyondQuota_6 ?_
  refine jw_isub (pc := 7) C dX4_putBackBeyondQuota_7 ?_
  refine jw_istore_3 (pc := 8) C dX4_putBackBeyondQuota_8 rfl ?_
  have K9 : ∀ (n_9 : Nat) (k : Nat) (P2 : QP) (c : Int), (PI P2) → ((k : Int) ≤ P2.req) → (pBackQ g k P2 c = pBackQ g P.req.toNat P 0) → k < n_9 → JW G X 0 0 (wC G ad P2 l A T F) 9 [some (.ref (ad 1)), some (.int (iI (g : Int))), some (.int (iI c)), some (.int (iI ((k : Int) - 1)))] [] := by
    intro n_9
    induction n_9 with
    | zero => intro k P2 c hI2 hk he hm_9; exact absurd hm_9 (Nat.not_lt_zero _)
    | succ n_9 ih_9 =>
      intro k P2 c hI2 hk he hm_9
      have h2 := hI2.req
      have h4 := hI2.asg g
      have h5 := hI2.quo g
      refine jw_iload_3 (pc := 9) C dX4_putBackBeyondQuota_9 ?_
      refine jw_if_lt (pc := 10) (tgt := 60) C dX4_putBackBeyondQuota_10 (by decide) ⟨by omega, by omega⟩ (fun c_10 => ?_) (fun c_10 => ?_)
      · have ek : k = 0 := by omega
        subst ek
        have he2 : (P2, c) = pBackQ g P.req.toNat P 0 := he
        refine jw_iload_2 (pc := 60) C dX4_putBackBeyondQuota_60 ?_
        exact hret _ _ _ (P2, c) dX4_putBackBeyondQuota_61 ⟨rfl, he2⟩
      · obtain ⟨j, rfl⟩ : ∃ j, k = j + 1 := ⟨k - 1, by omega⟩
        have h6 := hI2.plc j
        have h7 := hI2.grp j
        rw [show ((j + 1 : Nat) : Int) - 1 = (j : Int) by omega]
        refine jw_aload_0 (pc := 13) C dX4_putBackBeyondQuota_13 ?_
        refine fg_X4_24 (pc := 14) C 1 rfl rfl dX4_putBackBeyondQuota_14 ?_
        refine jw_iload_1 (pc := 17) C dX4_putBackBeyondQuota_17 ?_
        refine jw_iald (pc := 18) C 10 rfl _ rfl (by omega) (by decide) dX4_putBackBeyondQuota_18 ?_
        refine jw_aload_0 (pc := 19) C dX4_putBackBeyondQuota_19 ?_
        refine fg_X4_18 (pc := 20) C 1 rfl rfl dX4_putBackBeyondQuota_20 ?_
        refine jw_iload_1 (pc := 23) C dX4_putBackBeyondQuota_23 ?_
        refine jw_iald (pc := 24) C 8 rfl _ rfl (by omega) (by decide) dX4_putBackBeyondQuota_24 ?_
        refine jw_icmp_le (pc := 25) (tgt := 60) C dX4_putBackBeyondQuota_25 (by decide) ⟨by omega, by omega⟩ ⟨by omega, by omega⟩ (fun c_25 => ?_) (fun c_25 => ?_)
        · have he2 : (P2, c) = pBackQ g P.req.toNat P 0 := by rw [← he, pBackQ, if_pos c_25]
          refine jw_iload_2 (pc := 60) C dX4_putBackBeyondQuota_60 ?_
          exact hret _ _ _ (P2, c) dX4_putBackBeyondQuota_61 ⟨rfl, he2⟩
        · refine jw_aload_0 (pc := 28) C dX4_putBackBeyondQuota_28 ?_
          refine fg_X4_27 (pc := 29) C 1 rfl rfl dX4_putBackBeyondQuota_29 ?_
          refine jw_iload_3 (pc := 32) C dX4_putBackBeyondQuota_32 ?_
          refine jw_iald (pc := 33) C 11 rfl _ rfl (by omega) (by decide) dX4_putBackBeyondQuota_33 ?_
          refine jw_iload_1 (pc := 34) C dX4_putBackBeyondQuota_34 ?_
          refine jw_icmp_ne (pc := 35) (tgt := 54) C dX4_putBackBeyondQuota_35 (by decide) ⟨by omega, by omega⟩ ⟨by omega, by omega⟩ (fun c_35 => ?_) (fun c_35 => ?_)
          · obtain ⟨P3, c3, hP3, hc3, hI3, hq3, he3⟩ : ∃ P3 c3, P3 = P2 ∧ c3 = c ∧ PI P3 ∧ (j : Int) ≤ P3.req ∧ pBackQ g j P3 c3 = pBackQ g P.req.toNat P 0 := ⟨P2, c, rfl, rfl, hI2, by omega, by rw [← he, pBackQ, if_neg c_25, if_neg (fun q => c_35 q.1)]⟩
            rw [← hP3, ← hc3]
            try rw [← hP3]
            try rw [← hc3]
            refine jw_iinc_3 (pc := 54) C dX4_putBackBeyondQuota_54 rfl ?_
            refine jw_goto (pc := 57) (tgt := 9) C dX4_putBackBeyondQuota_57 (by decide) ?_
            exact ih_9 j P3 c3 hI3 (by omega) he3 (by omega)
          · refine jw_aload_0 (pc := 38) C dX4_putBackBeyondQuota_38 ?_
            refine jw_iload_3 (pc := 39) C dX4_putBackBeyondQuota_39 ?_
            refine jw_V_Z (pc := 40) C (c_X4_isAssigned G ad P2 l A T F j (by omega) hI2) wd_X4_isAssigned kml_X4_53 1 rfl rfl rfl rfl (Nat.le_of_ble_eq_true rfl) ⟨by decide, by decide⟩ ⟨Nat.zero_le _, Nat.zero_le _⟩ dX4_putBackBeyondQuota_40 rfl (fun z u h => ?_)
            subst h
            refine jw_if_eq_b (pc := 43) (tgt := 54) C dX4_putBackBeyondQuota_43 (by decide) (fun c_43 => ?_) (fun c_43 => ?_)
            · obtain ⟨P3, c3, hP3, hc3, hI3, hq3, he3⟩ : ∃ P3 c3, P3 = P2 ∧ c3 = c ∧ PI P3 ∧ (j : Int) ≤ P3.req ∧ pBackQ g j P3 c3 = pBackQ g P.req.toNat P 0 := ⟨P2, c, rfl, rfl, hI2, by omega, by rw [← he, pBackQ, if_neg c_25, if_neg (fun q => of_decide_eq_false c_43 q.2)]⟩
              rw [← hP3, ← hc3]
              try rw [← hP3]
              try rw [← hc3]
              refine jw_iinc_3 (pc := 54) C dX4_putBackBeyondQuota_54 rfl ?_
              refine jw_goto (pc := 57) (tgt := 9) C dX4_putBackBeyondQuota_57 (by decide) ?_
              exact ih_9 j P3 c3 hI3 (by omega) he3 (by omega)
            · refine jw_aload_0 (pc := 46) C dX4_putBackBeyondQuota_46 ?_
              refine jw_iload_3 (pc := 47) C dX4_putBackBeyondQuota_47 ?_
              refine jw_V_V (pc := 48) C (c_X4_putBack G ad P2 l A T F j hI2 (by omega)) wd_X4_putBack kml_X4_59 1 rfl rfl rfl rfl (Nat.le_of_ble_eq_true rfl) ⟨by decide, by decide⟩ ⟨Nat.zero_le _, Nat.zero_le _⟩ dX4_putBackBeyondQuota_48 rfl (fun u h => ?_)
              subst h
              obtain ⟨P3, c3, hP3, hc3, hI3, hq3, he3⟩ : ∃ P3 c3, P3 = pPut P2 j ∧ c3 = c + 1 ∧ PI P3 ∧ (j : Int) ≤ P3.req ∧ pBackQ g j P3 c3 = pBackQ g P.req.toNat P 0 := ⟨pPut P2 j, c + 1, rfl, rfl, PI_put hI2 (by omega), by rw [pPut_req]; omega, by rw [← he, pBackQ, if_neg c_25, if_pos ⟨c_35, of_decide_eq_true c_43⟩]⟩
              refine jw_iinc_2 (pc := 51) C dX4_putBackBeyondQuota_51 rfl ?_
              try rw [← hP3]
              try rw [← hc3]
              refine jw_iinc_3 (pc := 54) C dX4_putBackBeyondQuota_54 rfl ?_
              refine jw_goto (pc := 57) (tgt := 9) C dX4_putBackBeyondQuota_57 (by decide) ?_
              exact ih_9 j P3 c3 hI3 (by omega) he3 (by omega)
  have e0 : (P.req.toNat : Int) = P.req := by omega
  have K := K9 (P.req.toNat + 1) P.req.toNat P 0 hI (by omega) rfl (by omega)
  rw [e0] at K
  exact K
set_option maxRecDepth 100000 in
set_option maxHeartbeats 4000000 in
theorem c_X1_clear (G : jG) (ad : Nat → Nat) (P : QP) (l : QL) (A : QA) (T : Nat → Bool) (F : QF) : CV G yX1_clear cX1_clear 1 (jrm 0 0 0 0) [.ref (ad 2)] (wC G ad P l A T F) (fun u : QL => u = (l.1, l.2.1, 0)) (fun u : QL => wC G ad P u A T F) 0 0 := by
  refine cv_intro (own := RX1) [some (.ref (ad 2))] (by decide) rfl rfl rfl (Nat.le_of_ble_eq_true rfl) (fun X C hret => ?_)
  refine jw_aload_0 (pc := 0) C dX1_clear_0 ?_
  refine jw_iconst (pc := 1) C dX1_clear_1 ?_
  refine fp_X1_18 (pc := 2) C 2 rfl (Nat.le_of_ble_eq_true rfl) dX1_clear_2 ?_
  exact hret _ _ (l.1, l.2.1, 0) dX1_clear_5 rfl
set_option maxRecDepth 100000 in
set_option maxHeartbeats 4000000 in
theorem c_X1_add (G : jG) (ad : Nat → Nat) (P : QP) (l : QL) (A : QA) (T : Nat → Bool) (F : QF) (r a : Int) (hl : 0 ≤ l.sz ∧ l.sz ≤ 200) : CV G yX1_add cX1_add 3 (jrm 0 0 0 0) [.ref (ad 2), .int (iI r), .int (iI a)] (wC G ad P l A T F) (fun u : QL => u = lAdd l r a) (fun u : QL => wC G ad P u A T F) 0 0 := by
  refine cv_intro (own := RX1) [some (.ref (ad 2)), some (.int (iI r)), some (.int (iI a))] (by decide) rfl rfl rfl (Nat.le_of_ble_eq_true rfl) (fun X C hret => ?_)
  refine jw_aload_0 (pc := 0) C dX1_add_0 ?_
  refine fg_X1_18 (pc := 1) C 2 rfl rfl dX1_add_1 ?_
  refine jw_sipush (pc := 4) C dX1_add_4 (by decide) ?_
  refine jw_icmp_ge (pc := 7) (tgt := 40) C dX1_add_7 (by decide) ⟨by omega, by omega⟩ ⟨by omega, by omega⟩ (fun c_7 => ?_) (fun c_7 => ?_)
  · have e : l = lAdd l r a := by rw [lAdd, if_neg (by omega)]
    exact hret _ _ _ dX1_add_40 e
  · have e : (updf l.rq l.sz.toNat r, updf l.tg l.sz.toNat a, l.sz + 1) = lAdd l r a := by rw [lAdd, if_pos (by omega)]
    refine jw_aload_0 (pc := 10) C dX1_add_10 ?_
    refine fg_X1_11 (pc := 11) C 2 rfl rfl dX1_add_11 ?_
    refine jw_aload_0 (pc := 14) C dX1_add_14 ?_
    refine fg_X1_18 (pc := 15) C 2 rfl rfl dX1_add_15 ?_
    refine jw_iload_1 (pc := 18) C dX1_add_18 ?_
    refine jw_iast (pc := 19) C 15 rfl l.sz.toNat (by omega) (by omega) (by decide) dX1_add_19 ?_
    refine jw_aload_0 (pc := 20) C dX1_add_20 ?_
    refine fg_X1_15 (pc := 21) C 2 rfl rfl dX1_add_21 ?_
    refine jw_aload_0 (pc := 24) C dX1_add_24 ?_
    refine fg_X1_18 (pc := 25) C 2 rfl rfl dX1_add_25 ?_
    refine jw_iload_2 (pc := 28) C dX1_add_28 ?_
    refine jw_iast (pc := 29) C 16 rfl l.sz.toNat (by omega) (by omega) (by decide) dX1_add_29 ?_
    refine jw_aload_0 (pc := 30) C dX1_add_30 ?_
    refine jw_dup (pc := 31) C dX1_add_31 rfl ?_
    refine fg_X1_18 (pc := 32) C 2 rfl rfl dX1_add_32 ?_
    refine jw_iconst (pc := 35) C dX1_add_35 ?_
    refine jw_iadd (pc := 36) C dX1_add_36 ?_
    refine fp_X1_18 (pc := 37) C 2 rfl (Nat.le_of_ble_eq_true rfl) dX1_add_37 ?_
    exact hret _ _ _ dX1_add_40 e
end
section
set_option maxRecDepth 100000 in
set_option maxHeartbeats 4000000 in
theorem c_X5_lowestResource (G : jG) (m : Int32) : CI G yX5_lowestResource cX5_lowestResource 2 (jrm 1 21 0 0) [.int m] [] (fun (z : Int32) _ => z = iI (lstI (fun k => bt m k) 12)) (fun _ : Unit => []) 0 0 := by
  refine ci_intro (own := RX5) [some (.int m), none] (by decide) rfl rfl rfl (Nat.le_of_ble_eq_true rfl) (fun X C hret => ?_)
  refine jw_iconst (pc := 0) C dX5_lowestResource_0 ?_
  refine jw_istore_1 (pc := 1) C dX5_lowestResource_1 rfl ?_
  have K2 : ∀ (n_2 : Nat) (i : Nat), (i ≤ 12) → (∀ j, j < i → bt m j = false) → 12 - i < n_2 → JW G X 0 0 [] 2 [some (.int m), some (.int (iI (i : Int)))] [] := by
    intro n_2
    induction n_2 with
    | zero => intro i hi hf hm_2; exact absurd hm_2 (Nat.not_lt_zero _)
    | succ n_2 ih_2 =>
      intro i hi hf hm_2
      refine jw_iload_1 (pc := 2) C dX5_lowestResource_2 ?_
      refine jw_bipush (pc := 3) C dX5_lowestResource_3 (by decide) ?_
      refine jw_icmp_ge (pc := 5) (tgt := 24) C dX5_lowestResource_5 (by decide) ⟨by omega, by omega⟩ ⟨by omega, by omega⟩ (fun c_5 => ?_) (fun c_5 => ?_)
      · refine jw_iconst (pc := 24) C dX5_lowestResource_24 ?_
        exact hret _ _ _ () dX5_lowestResource_25 (by rw [lstI_no (fun j hj => hf j (by omega))])
      · refine jw_iload_0 (pc := 8) C dX5_lowestResource_8 ?_
        refine jw_iload_1 (pc := 9) C dX5_lowestResource_9 ?_
        refine jw_S0_Z (pc := 10) C (c_X5_hasBit G m i) ws_X5_hasBit kml_X5_226 rfl rfl (Nat.le_of_ble_eq_true rfl) ⟨by decide, by decide⟩ ⟨Nat.zero_le _, Nat.zero_le _⟩ dX5_lowestResource_10 rfl (fun z u h => ?_)
        rw [bitB_bt m (by omega)] at h
        subst h
        refine jw_if_eq_b (pc := 13) (tgt := 18) C dX5_lowestResource_13 (by decide) (fun c_13 => ?_) (fun c_13 => ?_)
        · have hz : bt m i = false := c_13
          refine jw_iinc_1 (pc := 18) C dX5_lowestResource_18 rfl ?_
          refine jw_goto (pc := 21) (tgt := 2) C dX5_lowestResource_21 (by decide) ?_
          exact ih_2 (i + 1) (by omega) (lt_s hf hz) (by omega)
        · refine jw_iload_1 (pc := 16) C dX5_lowestResource_16 ?_
          exact hret _ _ _ () dX5_lowestResource_17 (by rw [lstI_of (by omega) c_13 hf])
  exact K2 13 0 (by omega) (fun j hj => absurd hj (Nat.not_lt_zero _)) (by omega)
set_option maxRecDepth 100000 in
set_option maxHeartbeats 4000000 in
theorem c_X2_firstMovable (G : jG) (ad : Nat → Nat) (P : QP) (l : QL) (A : QA) (T : Nat → Bool) (F : QF) (a : Int) (t : Int32) (hI : PI P) (ha : -1 ≤ a ∧ a ≤ 11) : CI G yX2_firstMovable cX2_firstMovable 4 (jrm 1 21 0 0) [.ref (ad 3), .int (iI a), .int t] (wC G ad P l A T F) (fun (z : Int32) _ => z = iI (lstI (fun r => ((decide (P.plc r = a) && movB P r) && decide (¬ (P.acc r &&& t) = 0))) P.req.toNat)) (fun _ : Unit => wC G ad P l A T F) 0 0 := by
  refine ci_intro (own := RX2) [some (.ref (ad 3)), some (.int (iI a)), some (.int t), none] (by decide) rfl rfl rfl (Nat.le_of_ble_eq_true rfl) (fun X C hret => ?_)
  have h1 := hI.req
  refine jw_iconst (pc := 0) C dX2_firstMovable_0 ?_
  refine jw_istore_3 (pc := 1) C dX2_firstMovable_1 rfl ?_
  have K2 : ∀ (n_2 : Nat) (i : Nat), ((i : Int) ≤ P.req) → (∀ j, j < i → ((decide (P.plc j = a) && movB P j) && decide (¬ (P.acc j &&& t) = 0)) = false) → 40 - i < n_2 → JW G X 0 0 (wC G ad P l A T F) 2 [some (.ref (ad 3)), some (.int (iI a)), some (.int t), some (.int (iI (i : Int)))] [] := by
    intro n_2
    induction n_2 with
    | zero => intro i hi hf hm_2; exact absurd hm_2 (Nat.not_lt_zero _)
    | succ n_2 ih_2 =>
      intro i hi hf hm_2
      have h2 := hI.plc i
      refine jw_iload_3 (pc := 2) C dX2_firstMovable_2 ?_
      refine jw_aload_0 (pc := 3) C dX2_firstMovable_3 ?_
      refine fg_X2_24 (pc := 4) C 3 rfl rfl dX2_firstMovable_4 ?_
      refine fg_X2_54 (pc := 7) C 1 rfl rfl dX2_firstMovable_7 ?_
      refine jw_icmp_ge (pc := 10) (tgt := 59) C dX2_firstMovable_10 (by decide) ⟨by omega, by omega⟩ ⟨by omega, by omega⟩ (fun c_10 => ?_) (fun c_10 => ?_)
      · refine jw_iconst (pc := 59) C dX2_firstMovable_59 ?_
        exact hret _ _ _ () dX2_firstMovable_60 (by rw [lstI_no (fun j hj => hf j (by omega))])
      · refine jw_aload_0 (pc := 13) C dX2_firstMovable_13 ?_
        refine fg_X2_24 (pc := 14) C 3 rfl rfl dX2_firstMovable_14 ?_
        refine fg_X2_60 (pc := 17) C 1 rfl rfl dX2_firstMovable_17 ?_
        refine jw_iload_3 (pc := 20) C dX2_firstMovable_20 ?_
        refine jw_iald (pc := 21) C 13 rfl _ rfl (by omega) (by decide) dX2_firstMovable_21 ?_
        refine jw_iload_1 (pc := 22) C dX2_firstMovable_22 ?_
        refine jw_icmp_ne (pc := 23) (tgt := 53) C dX2_firstMovable_23 (by decide) ⟨by omega, by omega⟩ ⟨by omega, by omega⟩ (fun c_23 => ?_) (fun c_23 => ?_)
        · have hz : ((decide (P.plc i = a) && movB P i) && decide (¬ (P.acc i &&& t) = 0)) = false := by rw [decide_eq_false c_23]; rfl
          refine jw_iinc_3 (pc := 53) C dX2_firstMovable_53 rfl ?_
          refine jw_goto (pc := 56) (tgt := 2) C dX2_firstMovable_56 (by decide) ?_
          exact ih_2 (i + 1) (by omega) (lt_s hf hz) (by omega)
        · refine jw_aload_0 (pc := 26) C dX2_firstMovable_26 ?_
          refine fg_X2_24 (pc := 27) C 3 rfl rfl dX2_firstMovable_27 ?_
          refine jw_iload_3 (pc := 30) C dX2_firstMovable_30 ?_
          refine jw_V_Z (pc := 31) C (c_X4_canBeMoved G ad P l A T F i (by omega) hI) wd_X4_canBeMoved kml_X2_57 1 rfl rfl rfl rfl (Nat.le_of_ble_eq_true rfl) ⟨by decide, by decide⟩ ⟨Nat.zero_le _, Nat.zero_le _⟩ dX2_firstMovable_31 rfl (fun z u h => ?_)
          have h : z = movB P i := h
          subst h
          refine jw_if_eq_b (pc := 34) (tgt := 53) C dX2_firstMovable_34 (by decide) (fun c_34 => ?_) (fun c_34 => ?_)
          · have hz : ((decide (P.plc i = a) && movB P i) && decide (¬ (P.acc i &&& t) = 0)) = false := by rw [c_34, Bool.and_false]; rfl
            refine jw_iinc_3 (pc := 53) C dX2_firstMovable_53 rfl ?_
            refine jw_goto (pc := 56) (tgt := 2) C dX2_firstMovable_56 (by decide) ?_
            exact ih_2 (i + 1) (by omega) (lt_s hf hz) (by omega)
          · refine jw_aload_0 (pc := 37) C dX2_firstMovable_37 ?_
            refine fg_X2_24 (pc := 38) C 3 rfl rfl dX2_firstMovable_38 ?_
            refine fg_X2_34 (pc := 41) C 1 rfl rfl dX2_firstMovable_41 ?_
            refine jw_iload_3 (pc := 44) C dX2_firstMovable_44 ?_
            refine jw_iald_r (pc := 45) C 12 rfl _ rfl (by omega) (by decide) dX2_firstMovable_45 ?_
            refine jw_iload_2 (pc := 46) C dX2_firstMovable_46 ?_
            refine jw_iand (pc := 47) C dX2_firstMovable_47 ?_
            refine jw_if_eq_r (pc := 48) (tgt := 53) C dX2_firstMovable_48 (by decide) (fun c_48 => ?_) (fun c_48 => ?_)
            · have hz : ((decide (P.plc i = a) && movB P i) && decide (¬ (P.acc i &&& t) = 0)) = false := by rw [decide_eq_false (not_not_intro c_48), Bool.and_false]
              refine jw_iinc_3 (pc := 53) C dX2_firstMovable_53 rfl ?_
              refine jw_goto (pc := 56) (tgt := 2) C dX2_firstMovable_56 (by decide) ?_
              exact ih_2 (i + 1) (by omega) (lt_s hf hz) (by omega)
            · refine jw_iload_3 (pc := 51) C dX2_firstMovable_51 ?_
              exact hret _ _ _ () dX2_firstMovable_52 (by rw [lstI_of (by omega) (by rw [decide_eq_true c_23, c_34, decide_eq_true c_48]; rfl) hf])
  exact K2 41 0 (by omega) (fun j hj => absurd hj (Nat.not_lt_zero _)) (by omega)
set_option maxRecDepth 100000 in
set_option maxHeartbeats 4000000 in
theorem c_X2_leadingTo (G : jG) (ad : Nat → Nat) (P : QP) (l : QL) (A : QA) (T : Nat → Bool) (F : QF) (t : Int32) (hI : PI P) : CI G yX2_leadingTo cX2_leadingTo 4 (jrm 0 0 0 0) [.ref (ad 3), .int t] (wC G ad P l A T F) (fun (z : Int32) _ => ∀ j, j < 32 → bt z j = (decide ((j : Int) < P.res) && decide (¬ (A.suc j &&& t) = 0))) (fun _ : Unit => wC G ad P l A T F) 0 0 := by
  refine ci_intro (own := RX2) [some (.ref (ad 3)), some (.int t), none, none] (by decide) rfl rfl rfl (Nat.le_of_ble_eq_true rfl) (fun X C hret => ?_)
  have h1 := hI.res
  refine jw_iconst (pc := 0) C dX2_leadingTo_0 ?_
  refine jw_istore_2 (pc := 1) C dX2_leadingTo_1 rfl ?_
  refine jw_iconst (pc := 2) C dX2_leadingTo_2 ?_
  refine jw_istore_3 (pc := 3) C dX2_leadingTo_3 rfl ?_
  have K4 : ∀ (n_4 : Nat) (i : Nat) (m : Int32), ((i : Int) ≤ P.res) → (∀ j, j < 32 → bt m j = (decide (j < i) && decide (¬ (A.suc j &&& t) = 0))) → 12 - i < n_4 → JW G X 0 0 (wC G ad P l A T F) 4 [some (.ref (ad 3)), some (.int t), some (.int m), some (.int (iI (i : Int)))] [] := by
    intro n_4
    induction n_4 with
    | zero => intro i m hi hf hm_4; exact absurd hm_4 (Nat.not_lt_zero _)
    | succ n_4 ih_4 =>
      intro i m hi hf hm_4
      refine jw_iload_3 (pc := 4) C dX2_leadingTo_4 ?_
      refine jw_aload_0 (pc := 5) C dX2_leadingTo_5 ?_
      refine fg_X2_24 (pc := 6) C 3 rfl rfl dX2_leadingTo_6 ?_
      refine fg_X2_51 (pc := 9) C 1 rfl rfl dX2_leadingTo_9 ?_
      refine jw_icmp_ge (pc := 12) (tgt := 38) C dX2_leadingTo_12 (by decide) ⟨by omega, by omega⟩ ⟨by omega, by omega⟩ (fun c_12 => ?_) (fun c_12 => ?_)
      · refine jw_iload_2 (pc := 38) C dX2_leadingTo_38 ?_
        have e : (i : Int) = P.res := by omega
        exact hret _ _ _ () dX2_leadingTo_39 (fun j hj => by rw [hf j hj]; congr 1; exact decide_eq_decide.mpr (by omega))
      · refine jw_aload_0 (pc := 15) C dX2_leadingTo_15 ?_
        refine fg_X2_9 (pc := 16) C 3 rfl rfl dX2_leadingTo_16 ?_
        refine jw_iload_3 (pc := 19) C dX2_leadingTo_19 ?_
        refine jw_iald_r (pc := 20) C 17 rfl _ rfl (by omega) (by decide) dX2_leadingTo_20 ?_
        refine jw_iload_1 (pc := 21) C dX2_leadingTo_21 ?_
        refine jw_iand (pc := 22) C dX2_leadingTo_22 ?_
        refine jw_if_eq_r (pc := 23) (tgt := 32) C dX2_leadingTo_23 (by decide) (fun c_23 => ?_) (fun c_23 => ?_)
        · obtain ⟨m2, e2, hz⟩ : ∃ m2, m2 = m ∧ ∀ j, j < 32 → bt m2 j = (decide (j < i + 1) && decide (¬ (A.suc j &&& t) = 0)) := ⟨m, rfl, fun j hj => by
            rw [hf j hj]
            by_cases e : j = i
            · subst e; rw [decide_eq_false (not_not_intro c_23)]; simp
            · have e1 : decide (j < i) = decide (j < i + 1) := decide_eq_decide.mpr (by omega)
              rw [e1]⟩
          rw [← e2]
          refine jw_iinc_3 (pc := 32) C dX2_leadingTo_32 rfl ?_
          refine jw_goto (pc := 35) (tgt := 4) C dX2_leadingTo_35 (by decide) ?_
          exact ih_4 (i + 1) m2 (by omega) hz (by omega)
        · obtain ⟨m2, e2, hz⟩ : ∃ m2, m2 = m ||| iI 1 <<< (iI (i : Int) &&& 31) ∧ ∀ j, j < 32 → bt m2 j = (decide (j < i + 1) && decide (¬ (A.suc j &&& t) = 0)) := ⟨_, rfl, fun j hj => by
            rw [b_or, hf j hj, b_pow (by omega) hj]
            by_cases e : j = i
            · subst e; rw [decide_eq_true c_23]; simp
            · have e1 : decide (j < i) = decide (j < i + 1) := decide_eq_decide.mpr (by omega)
              rw [e1, decide_eq_false e, Bool.or_false]⟩
          refine jw_iload_2 (pc := 26) C dX2_leadingTo_26 ?_
          refine jw_iconst (pc := 27) C dX2_leadingTo_27 ?_
          refine jw_iload_3 (pc := 28) C dX2_leadingTo_28 ?_
          refine jw_ishl (pc := 29) C dX2_leadingTo_29 ?_
          refine jw_ior (pc := 30) C dX2_leadingTo_30 ?_
          rw [← e2]
          refine jw_istore_2 (pc := 31) C dX2_leadingTo_31 rfl ?_
          refine jw_iinc_3 (pc := 32) C dX2_leadingTo_32 rfl ?_
          refine jw_goto (pc := 35) (tgt := 4) C dX2_leadingTo_35 (by decide) ?_
          exact ih_4 (i + 1) m2 (by omega) hz (by omega)
  exact K4 13 0 (iI 0) (by omega) (fun j hj => by rw [show iI 0 = (0 : Int32) from rfl, b_0]; simp) (by omega)
set_option maxRecDepth 100000 in
set_option maxHeartbeats 4000000 in
theorem c_X2_shortestFrom (G : jG) (ad : Nat → Nat) (P : QP) (l : QL) (A : QA) (T : Nat → Bool) (F : QF) (t : Int32) (hI : PI P) : CI G yX2_shortestFrom cX2_shortestFrom 3 (jrm 0 0 0 0) [.ref (ad 3), .int t] (wC G ad P l A T F) (fun (z : Int32) _ => z = iI (lstI (fun k => decide (¬ (A.lay (k + 1) &&& t) = 0)) P.res.toNat + 1)) (fun _ : Unit => wC G ad P l A T F) 0 0 := by
  refine ci_intro (own := RX2) [some (.ref (ad 3)), some (.int t), none] (by decide) rfl rfl rfl (Nat.le_of_ble_eq_true rfl) (fun X C hret => ?_)
  have h1 := hI.res
  refine jw_iconst (pc := 0) C dX2_shortestFrom_0 ?_
  refine jw_istore_2 (pc := 1) C dX2_shortestFrom_1 rfl ?_
  have K2 : ∀ (n_2 : Nat) (i : Nat), ((i : Int) ≤ P.res) → (∀ j, j < i → decide (¬ (A.lay (j + 1) &&& t) = 0) = false) → 12 - i < n_2 → JW G X 0 0 (wC G ad P l A T F) 2 [some (.ref (ad 3)), some (.int t), some (.int (iI ((i : Int) + 1)))] [] := by
    intro n_2
    induction n_2 with
    | zero => intro i hi hf hm_2; exact absurd hm_2 (Nat.not_lt_zero _)
    | succ n_2 ih_2 =>
      intro i hi hf hm_2
      refine jw_iload_2 (pc := 2) C dX2_shortestFrom_2 ?_
      refine jw_aload_0 (pc := 3) C dX2_shortestFrom_3 ?_
      refine fg_X2_24 (pc := 4) C 3 rfl rfl dX2_shortestFrom_4 ?_
      refine fg_X2_51 (pc := 7) C 1 rfl rfl dX2_shortestFrom_7 ?_
      refine jw_icmp_gt (pc := 10) (tgt := 32) C dX2_shortestFrom_10 (by decide) ⟨by omega, by omega⟩ ⟨by omega, by omega⟩ (fun c_10 => ?_) (fun c_10 => ?_)
      · refine jw_iconst (pc := 32) C dX2_shortestFrom_32 ?_
        exact hret _ _ _ () dX2_shortestFrom_33 (by rw [lstI_no (fun j hj => hf j (by omega))]; rfl)
      · refine jw_aload_0 (pc := 13) C dX2_shortestFrom_13 ?_
        refine fg_X2_15 (pc := 14) C 3 rfl rfl dX2_shortestFrom_14 ?_
        refine jw_iload_2 (pc := 17) C dX2_shortestFrom_17 ?_
        refine jw_iald_r (pc := 18) C 18 rfl (i + 1) (by omega) (by omega) (by decide) dX2_shortestFrom_18 ?_
        refine jw_iload_1 (pc := 19) C dX2_shortestFrom_19 ?_
        refine jw_iand (pc := 20) C dX2_shortestFrom_20 ?_
        refine jw_if_eq_r (pc := 21) (tgt := 26) C dX2_shortestFrom_21 (by decide) (fun c_21 => ?_) (fun c_21 => ?_)
        · have hz : decide (¬ (A.lay (i + 1) &&& t) = 0) = false := decide_eq_false (not_not_intro c_21)
          refine jw_iinc_2 (pc := 26) C dX2_shortestFrom_26 rfl ?_
          refine jw_goto (pc := 29) (tgt := 2) C dX2_shortestFrom_29 (by decide) ?_
          exact ih_2 (i + 1) (by omega) (lt_s hf hz) (by omega)
        · refine jw_iload_2 (pc := 24) C dX2_shortestFrom_24 ?_
          exact hret _ _ _ () dX2_shortestFrom_25 (by rw [lstI_of (by omega) (decide_eq_true c_21) hf])
  exact K2 13 0 (by omega) (fun j hj => absurd hj (Nat.not_lt_zero _)) (by omega)
set_option maxRecDepth 100000 in
set_option maxHeartbeats 4000000 in
theorem c_X2_collectSuccessors (G : jG) (ad : Nat → Nat) (P : QP) (l : QL) (A : QA) (T : Nat → Bool) (F : QF) (hI : PI P) : CV G yX2_collectSuccessors cX2_collectSuccessors 2 (jrm 1 21 0 0) [.ref (ad 3)] (wC G ad P l A T F) (fun u : Nat → Int32 => ∀ a : Nat, (a : Int) < P.res → ∀ b, b < 32 → bt (u a) b = exB (fun r => atB P a r && bt (P.acc r) b) P.req.toNat) (fun u : Nat → Int32 => wC G ad P l (u, A.lay, A.rs, A.rq, A.len) T F) 0 0 := by
  refine cv_intro (own := RX2) [some (.ref (ad 3)), none] (by decide) rfl rfl rfl (Nat.le_of_ble_eq_true rfl) (fun X C hret => ?_)
  have h1 := hI.res
  have h2 := hI.req
  refine jw_iconst (pc := 0) C dX2_collectSuccessors_0 ?_
  refine jw_istore_1 (pc := 1) C dX2_collectSuccessors_1 rfl ?_
  have K2 : ∀ (n_2 : Nat) (i : Nat) (q : Nat → Int32), ((i : Int) ≤ P.res) → (∀ a, a < i → q a = iI 0) → 12 - i < n_2 → JW G X 0 0 (wC G ad P l (q, A.lay, A.rs, A.rq, A.len) T F) 2 [some (.ref (ad 3)), some (.int (iI (i : Int)))] [] := by
    intro n_2
    induction n_2 with
    | zero => intro i q hi hf hm_2; exact absurd hm_2 (Nat.not_lt_zero _)
    | succ n_2 ih_2 =>
      intro i q hi hf hm_2
      refine jw_iload_1 (pc := 2) C dX2_collectSuccessors_2 ?_
      refine jw_aload_0 (pc := 3) C dX2_collectSuccessors_3 ?_
      refine fg_X2_24 (pc := 4) C 3 rfl rfl dX2_collectSuccessors_4 ?_
      refine fg_X2_51 (pc := 7) C 1 rfl rfl dX2_collectSuccessors_7 ?_
      refine jw_icmp_ge (pc := 10) (tgt := 26) C dX2_collectSuccessors_10 (by decide) ⟨by omega, by omega⟩ ⟨by omega, by omega⟩ (fun c_10 => ?_) (fun c_10 => ?_)
      · refine jw_iconst (pc := 26) C dX2_collectSuccessors_26 ?_
        refine jw_istore_1 (pc := 27) C dX2_collectSuccessors_27 rfl ?_
        have K28 : ∀ (n_28 : Nat) (i2 : Nat) (q2 : Nat → Int32), ((i2 : Int) ≤ P.req) → (∀ a : Nat, (a : Int) < P.res → ∀ b, b < 32 → bt (q2 a) b = exB (fun r => atB P a r && bt (P.acc r) b) i2) → 40 - i2 < n_28 → JW G X 0 0 (wC G ad P l (q2, A.lay, A.rs, A.rq, A.len) T F) 28 [some (.ref (ad 3)), some (.int (iI (i2 : Int)))] [] := by
          intro n_28
          induction n_28 with
          | zero => intro i2 q2 hi2 hf2 hm_28; exact absurd hm_28 (Nat.not_lt_zero _)
          | succ n_28 ih_28 =>
            intro i2 q2 hi2 hf2 hm_28
            have h3 := hI.plc i2
            have h4 := hI.plr i2
            refine jw_iload_1 (pc := 28) C dX2_collectSuccessors_28 ?_
            refine jw_aload_0 (pc := 29) C dX2_collectSuccessors_29 ?_
            refine fg_X2_24 (pc := 30) C 3 rfl rfl dX2_collectSuccessors_30 ?_
            refine fg_X2_54 (pc := 33) C 1 rfl rfl dX2_collectSuccessors_33 ?_
            refine jw_icmp_ge (pc := 36) (tgt := 82) C dX2_collectSuccessors_36 (by decide) ⟨by omega, by omega⟩ ⟨by omega, by omega⟩ (fun c_36 => ?_) (fun c_36 => ?_)
            · have e : P.req.toNat = i2 := by omega
              exact hret _ _ q2 dX2_collectSuccessors_82 (by rw [e]; exact hf2)
            · refine jw_aload_0 (pc := 39) C dX2_collectSuccessors_39 ?_
              refine fg_X2_24 (pc := 40) C 3 rfl rfl dX2_collectSuccessors_40 ?_
              refine jw_iload_1 (pc := 43) C dX2_collectSuccessors_43 ?_
              refine jw_V_Z (pc := 44) C (c_X4_canBeMoved G ad P l (q2, A.lay, A.rs, A.rq, A.len) T F i2 (by omega) hI) wd_X4_canBeMoved kml_X2_57 1 rfl rfl rfl rfl (Nat.le_of_ble_eq_true rfl) ⟨by decide, by decide⟩ ⟨Nat.zero_le _, Nat.zero_le _⟩ dX2_collectSuccessors_44 rfl (fun z u h => ?_)
              have h : z = movB P i2 := h
              subst h
              refine jw_if_eq_b (pc := 47) (tgt := 76) C dX2_collectSuccessors_47 (by decide) (fun c_47 => ?_) (fun c_47 => ?_)
              · obtain ⟨q3, e3, hz⟩ : ∃ q3, q3 = q2 ∧ ∀ a : Nat, (a : Int) < P.res → ∀ b, b < 32 → bt (q3 a) b = exB (fun r => atB P a r && bt (P.acc r) b) (i2 + 1) := ⟨q2, rfl, fun a ha b hb => by
                  rw [hf2 a ha b hb]
                  simp only [exB, atB, c_47, Bool.and_false, Bool.false_and, Bool.or_false]⟩
                rw [← e3]
                try rw [← e3]
                refine jw_iinc_1 (pc := 76) C dX2_collectSuccessors_76 rfl ?_
                refine jw_goto (pc := 79) (tgt := 28) C dX2_collectSuccessors_79 (by decide) ?_
                exact ih_28 (i2 + 1) q3 (by omega) hz (by omega)
              · have c := of_decide_eq_true c_47
                obtain ⟨q3, e3, hz⟩ : ∃ q3, q3 = updf q2 (P.plc i2).toNat (q2 (P.plc i2).toNat ||| P.acc i2) ∧ ∀ a : Nat, (a : Int) < P.res → ∀ b, b < 32 → bt (q3 a) b = exB (fun r => atB P a r && bt (P.acc r) b) (i2 + 1) := ⟨_, rfl, fun a ha b hb => by
                  show _ = (exB (fun r => atB P a r && bt (P.acc r) b) i2 || (atB P a i2 && bt (P.acc i2) b))
                  rw [← hf2 a ha b hb]
                  by_cases e : a = (P.plc i2).toNat
                  · subst e
                    have e5 : atB P (P.plc i2).toNat i2 = true := by rw [atB, c_47, decide_eq_true (by omega)]; rfl
                    rw [updf_same, b_or, e5, Bool.true_and]
                  · have e5 : atB P a i2 = false := by rw [atB, decide_eq_false (by omega)]; rfl
                    rw [updf_ne _ _ e, e5, Bool.false_and, Bool.or_false]⟩
                refine jw_aload_0 (pc := 50) C dX2_collectSuccessors_50 ?_
                refine fg_X2_9 (pc := 51) C 3 rfl rfl dX2_collectSuccessors_51 ?_
                refine jw_aload_0 (pc := 54) C dX2_collectSuccessors_54 ?_
                refine fg_X2_24 (pc := 55) C 3 rfl rfl dX2_collectSuccessors_55 ?_
                refine fg_X2_60 (pc := 58) C 1 rfl rfl dX2_collectSuccessors_58 ?_
                refine jw_iload_1 (pc := 61) C dX2_collectSuccessors_61 ?_
                refine jw_iald (pc := 62) C 13 rfl _ rfl (by omega) (by decide) dX2_collectSuccessors_62 ?_
                refine jw_dup2 (pc := 63) C dX2_collectSuccessors_63 rfl rfl ?_
                refine jw_iald_r (pc := 64) C 17 rfl (P.plc i2).toNat (by omega) (by omega) (by decide) dX2_collectSuccessors_64 ?_
                refine jw_aload_0 (pc := 65) C dX2_collectSuccessors_65 ?_
                refine fg_X2_24 (pc := 66) C 3 rfl rfl dX2_collectSuccessors_66 ?_
                refine fg_X2_34 (pc := 69) C 1 rfl rfl dX2_collectSuccessors_69 ?_
                refine jw_iload_1 (pc := 72) C dX2_collectSuccessors_72 ?_
                refine jw_iald_r (pc := 73) C 12 rfl _ rfl (by omega) (by decide) dX2_collectSuccessors_73 ?_
                refine jw_ior (pc := 74) C dX2_collectSuccessors_74 ?_
                refine jw_iast_r (pc := 75) C 17 rfl (P.plc i2).toNat (by omega) (by omega) (by decide) dX2_collectSuccessors_75 ?_
                try rw [← e3]
                refine jw_iinc_1 (pc := 76) C dX2_collectSuccessors_76 rfl ?_
                refine jw_goto (pc := 79) (tgt := 28) C dX2_collectSuccessors_79 (by decide) ?_
                exact ih_28 (i2 + 1) q3 (by omega) hz (by omega)
        exact K28 41 0 q (by omega) (fun a ha b hb => by rw [hf a (by omega), show iI 0 = (0 : Int32) from rfl, b_0]; rfl) (by omega)
      · refine jw_aload_0 (pc := 13) C dX2_collectSuccessors_13 ?_
        refine fg_X2_9 (pc := 14) C 3 rfl rfl dX2_collectSuccessors_14 ?_
        refine jw_iload_1 (pc := 17) C dX2_collectSuccessors_17 ?_
        refine jw_iconst (pc := 18) C dX2_collectSuccessors_18 ?_
        refine jw_iast_r (pc := 19) C 17 rfl _ rfl (by omega) (by decide) dX2_collectSuccessors_19 ?_
        refine jw_iinc_1 (pc := 20) C dX2_collectSuccessors_20 rfl ?_
        refine jw_goto (pc := 23) (tgt := 2) C dX2_collectSuccessors_23 (by decide) ?_
        exact ih_2 (i + 1) (updf q i (iI 0)) (by omega) (updf_fill hf) (by omega)
  exact K2 13 0 A.suc (by omega) (fun j hj => absurd hj (Nat.not_lt_zero _)) (by omega)
set_option maxRecDepth 100000 in
set_option maxHeartbeats 4000000 in
theorem c_X2_buildLayers (G : jG) (ad : Nat → Nat) (P : QP) (l : QL) (A : QA) (T : Nat → Bool) (F : QF) (hI : PI P) (hs : ∀ a : Nat, (a : Int) < P.res → ∀ b, b < 32 → bt (A.suc a) b = exB (fun r => atB P a r && bt (P.acc r) b) P.req.toNat) : CV G yX2_buildLayers cX2_buildLayers 3 (jrm 1 23 0 0) [.ref (ad 3)] (wC G ad P l A T F) (fun u : Nat → Int32 => ∀ k : Nat, 1 ≤ k → (k : Int) ≤ P.res → ∀ j, j < 32 → bt (u k) j = decide (dS P j = (k : Int))) (fun u : Nat → Int32 => wC G ad P l (A.suc, u, A.rs, A.rq, A.len) T F) 0 0 := by
  refine cv_intro (own := RX2) [some (.ref (ad 3)), none, none] (by decide) rfl rfl rfl (Nat.le_of_ble_eq_true rfl) (fun X C hret => ?_)
  have h1 := hI.res
  have h2 := hI.req
  refine jw_aload_0 (pc := 0) C dX2_buildLayers_0 ?_
  refine fg_X2_15 (pc := 1) C 3 rfl rfl dX2_buildLayers_1 ?_
  refine jw_iconst (pc := 4) C dX2_buildLayers_4 ?_
  refine jw_iconst (pc := 5) C dX2_buildLayers_5 ?_
  refine jw_iast_r (pc := 6) C 18 rfl 1 rfl (by omega) (by decide) dX2_buildLayers_6 ?_
  refine jw_iconst (pc := 7) C dX2_buildLayers_7 ?_
  refine jw_istore_1 (pc := 8) C dX2_buildLayers_8 rfl ?_
  have K9 : ∀ (n_9 : Nat) (i : Nat) (q : Nat → Int32), ((i : Int) ≤ P.res) → (∀ j, j < 32 → bt (q 1) j = (decide (j < i) && decide (P.load j < P.cap j))) → 12 - i < n_9 → JW G X 0 0 (wC G ad P l (A.suc, q, A.rs, A.rq, A.len) T F) 9 [some (.ref (ad 3)), some (.int (iI (i : Int))), none] [] := by
    intro n_9
    induction n_9 with
    | zero => intro i q hi hf hm_9; exact absurd hm_9 (Nat.not_lt_zero _)
    | succ n_9 ih_9 =>
      intro i q hi hf hm_9
      refine jw_iload_1 (pc := 9) C dX2_buildLayers_9 ?_
      refine jw_aload_0 (pc := 10) C dX2_buildLayers_10 ?_
      refine fg_X2_24 (pc := 11) C 3 rfl rfl dX2_buildLayers_11 ?_
      refine fg_X2_51 (pc := 14) C 1 rfl rfl dX2_buildLayers_14 ?_
      refine jw_icmp_ge (pc := 17) (tgt := 49) C dX2_buildLayers_17 (by decide) ⟨by omega, by omega⟩ ⟨by omega, by omega⟩ (fun c_17 => ?_) (fun c_17 => ?_)
      · refine jw_aload_0 (pc := 49) C dX2_buildLayers_49 ?_
        refine fg_X2_15 (pc := 50) C 3 rfl rfl dX2_buildLayers_50 ?_
        refine jw_iconst (pc := 53) C dX2_buildLayers_53 ?_
        refine jw_iald_r (pc := 54) C 18 rfl 1 rfl (by omega) (by decide) dX2_buildLayers_54 ?_
        refine jw_istore_1 (pc := 55) C dX2_buildLayers_55 rfl ?_
        refine jw_iconst (pc := 56) C dX2_buildLayers_56 ?_
        refine jw_istore_2 (pc := 57) C dX2_buildLayers_57 rfl ?_
        have K58 : ∀ (n_58 : Nat) (k : Nat) (sm : Int32) (q2 : Nat → Int32), (1 ≤ k ∧ k ≤ 12) → (∀ x : Nat, 1 ≤ x → x ≤ k → ∀ j, j < 32 → bt (q2 x) j = (sn P x j && !sn P (x - 1) j)) → (∀ j, j < 32 → bt sm j = sn P k j) → 12 - k < n_58 → JW G X 0 0 (wC G ad P l (A.suc, q2, A.rs, A.rq, A.len) T F) 58 [some (.ref (ad 3)), some (.int sm), some (.int (iI ((k : Int) + 1)))] [] := by
          intro n_58
          induction n_58 with
          | zero => intro k sm q2 hk hf1 hf2 hm_58; exact absurd hm_58 (Nat.not_lt_zero _)
          | succ n_58 ih_58 =>
            intro k sm q2 hk hf1 hf2 hm_58
            refine jw_iload_2 (pc := 58) C dX2_buildLayers_58 ?_
            refine jw_aload_0 (pc := 59) C dX2_buildLayers_59 ?_
            refine fg_X2_24 (pc := 60) C 3 rfl rfl dX2_buildLayers_60 ?_
            refine fg_X2_51 (pc := 63) C 1 rfl rfl dX2_buildLayers_63 ?_
            refine jw_icmp_gt (pc := 66) (tgt := 106) C dX2_buildLayers_66 (by decide) ⟨by omega, by omega⟩ ⟨by omega, by omega⟩ (fun c_66 => ?_) (fun c_66 => ?_)
            · exact hret _ _ q2 dX2_buildLayers_106 (fun x x1 x2 j hj => by
                rw [hf1 x x1 (by omega) j hj]
                apply Bool.eq_iff_iff.mpr
                rw [decide_eq_true_eq, dS_iff hI x1 (by omega)]
                simp)
            · have hk2 : (k : Int) + 1 ≤ P.res := by omega
              refine jw_aload_0 (pc := 69) C dX2_buildLayers_69 ?_
              refine fg_X2_15 (pc := 70) C 3 rfl rfl dX2_buildLayers_70 ?_
              refine jw_iload_2 (pc := 73) C dX2_buildLayers_73 ?_
              refine jw_aload_0 (pc := 74) C dX2_buildLayers_74 ?_
              refine jw_aload_0 (pc := 75) C dX2_buildLayers_75 ?_
              refine fg_X2_15 (pc := 76) C 3 rfl rfl dX2_buildLayers_76 ?_
              refine jw_iload_2 (pc := 79) C dX2_buildLayers_79 ?_
              refine jw_iconst (pc := 80) C dX2_buildLayers_80 ?_
              refine jw_isub (pc := 81) C dX2_buildLayers_81 ?_
              refine jw_iald_r (pc := 82) C 18 rfl k (by omega) (by omega) (by decide) dX2_buildLayers_82 ?_
              refine jw_V_I (pc := 83) C (c_X2_leadingTo G ad P l (A.suc, q2, A.rs, A.rq, A.len) T F (q2 k) hI) wd_X2_leadingTo kml_X2_66 3 rfl rfl rfl rfl (Nat.le_of_ble_eq_true rfl) ⟨by decide, by decide⟩ ⟨Nat.zero_le _, Nat.zero_le _⟩ dX2_buildLayers_83 rfl (fun z u h => ?_)
              have hnew : ∀ j, j < 32 → bt (z &&& (sm ^^^ iI (-1))) j = (sn P (k + 1) j && !sn P k j) := fun j hj => by
                rw [b_and, h j hj, b_not hj, hf2 j hj]
                cases hsk : sn P k j
                · simp only [Bool.not_false, Bool.and_true]
                  apply Bool.eq_iff_iff.mpr
                  rw [sn_succ]
                  simp only [Bool.and_eq_true, decide_eq_true_eq]
                  constructor
                  · rintro ⟨a1, a2⟩
                    refine ⟨a1, Or.inr ?_⟩
                    rw [b_and0] at a2
                    obtain ⟨b, a3⟩ := Classical.not_forall.mp a2
                    obtain ⟨b1, a4⟩ := Classical.not_imp.mp a3
                    rw [Bool.not_eq_false, Bool.and_eq_true, hs j a1 b b1, exB_iff] at a4
                    obtain ⟨⟨r, r1, r2⟩, a5⟩ := a4
                    rw [Bool.and_eq_true] at r2
                    rw [hf1 k (by omega) (by omega) b b1, Bool.and_eq_true] at a5
                    have := sn_lt a5.1
                    exact ⟨r, r1, r2.1, b, by omega, r2.2, a5.1⟩
                  · rintro ⟨a1, a2⟩
                    refine ⟨a1, ?_⟩
                    rcases a2 with a2 | ⟨r, r1, r2, b, b1, b2, b3⟩
                    · exfalso
                      have : sn P 1 j = true := by rw [sn_succ]; exact ⟨a1, Or.inl a2⟩
                      rw [sn_mono (show 1 ≤ k by omega) this] at hsk
                      cases hsk
                    · intro a3
                      rw [b_and0] at a3
                      have a4 := a3 b (by omega)
                      have a5 : bt (A.suc j) b = true := by rw [hs j a1 b (by omega), exB_iff]; exact ⟨r, r1, by rw [r2, b2]; rfl⟩
                      rw [a5, Bool.true_and, hf1 k (by omega) (by omega) b (by omega), b3, Bool.true_and] at a4
                      have a6 : sn P (k - 1) b = true := by simpa using a4
                      have a7 : sn P (k - 1 + 1) j = true := by rw [sn_succ]; exact ⟨a1, Or.inr ⟨r, r1, r2, b, b1, b2, a6⟩⟩
                      rw [show k - 1 + 1 = k by omega, hsk] at a7
                      cases a7
                · simp only [Bool.not_true, Bool.and_false]
              have e4 : (P.res.toNat : Int) = P.res := by omega
              refine jw_iload_1 (pc := 86) C dX2_buildLayers_86 ?_
              refine jw_iconst (pc := 87) C dX2_buildLayers_87 ?_
              refine jw_ixor (pc := 88) C dX2_buildLayers_88 ?_
              refine jw_iand (pc := 89) C dX2_buildLayers_89 ?_
              refine jw_iast_r (pc := 90) C 18 rfl (k + 1) (by omega) (by omega) (by decide) dX2_buildLayers_90 ?_
              refine jw_iload_1 (pc := 91) C dX2_buildLayers_91 ?_
              refine jw_aload_0 (pc := 92) C dX2_buildLayers_92 ?_
              refine fg_X2_15 (pc := 93) C 3 rfl rfl dX2_buildLayers_93 ?_
              refine jw_iload_2 (pc := 96) C dX2_buildLayers_96 ?_
              refine jw_iald_r (pc := 97) C 18 rfl (k + 1) (by omega) (by omega) (by decide) dX2_buildLayers_97 ?_
              refine jw_ior (pc := 98) C dX2_buildLayers_98 ?_
              refine jw_istore_1 (pc := 99) C dX2_buildLayers_99 rfl ?_
              obtain ⟨s3, es3, hz2⟩ : ∃ s3, s3 = sm ||| updf q2 (k + 1) (z &&& (sm ^^^ iI (-1))) (k + 1) ∧ ∀ j, j < 32 → bt s3 j = sn P (k + 1) j := ⟨_, rfl, fun j hj => by
                rw [b_or, updf_same, hnew j hj, hf2 j hj]
                cases hsk : sn P k j
                · simp
                · rw [sn_mono1 k hsk]; simp⟩
              obtain ⟨q3, e3, hz1⟩ : ∃ q3, q3 = updf q2 (k + 1) (z &&& (sm ^^^ iI (-1))) ∧ ∀ x : Nat, 1 ≤ x → x ≤ k + 1 → ∀ j, j < 32 → bt (q3 x) j = (sn P x j && !sn P (x - 1) j) := ⟨_, rfl, fun x x1 x2 j hj => by
                by_cases e : x = k + 1
                · subst e; rw [updf_same, hnew j hj]; rfl
                · rw [updf_ne _ _ e]; exact hf1 x x1 (by omega) j hj⟩
              rw [← es3]
              refine jw_iinc_2 (pc := 100) C dX2_buildLayers_100 rfl ?_
              refine jw_goto (pc := 103) (tgt := 58) C dX2_buildLayers_103 (by decide) ?_
              subst e3
              exact ih_58 (k + 1) s3 _ (by omega) hz1 hz2 (by omega)
        have hq1 : ∀ j, j < 32 → bt (q 1) j = sn P 1 j := fun j hj => by
          rw [hf j hj]
          apply Bool.eq_iff_iff.mpr
          rw [sn_succ]
          simp only [Bool.and_eq_true, decide_eq_true_eq]
          constructor
          · rintro ⟨a1, a2⟩; exact ⟨by omega, Or.inl a2⟩
          · rintro ⟨a1, a2 | ⟨r, -, -, b, -, -, a3⟩⟩
            · exact ⟨by omega, a2⟩
            · cases a3
        exact K58 12 1 (q 1) q (by omega) (fun x x1 x2 j hj => by rw [show x = 1 by omega, hq1 j hj]; simp [sn]) hq1 (by omega)
      · refine jw_aload_0 (pc := 20) C dX2_buildLayers_20 ?_
        refine fg_X2_24 (pc := 21) C 3 rfl rfl dX2_buildLayers_21 ?_
        refine jw_iload_1 (pc := 24) C dX2_buildLayers_24 ?_
        refine jw_V_Z (pc := 25) C (c_X4_resourceHasRoom G ad P l (A.suc, q, A.rs, A.rq, A.len) T F i (by omega) hI) wd_X4_resourceHasRoom kml_X2_63 1 rfl rfl rfl rfl (Nat.le_of_ble_eq_true rfl) ⟨by decide, by decide⟩ ⟨Nat.zero_le _, Nat.zero_le _⟩ dX2_buildLayers_25 rfl (fun z u h => ?_)
        subst h
        refine jw_if_eq_b (pc := 28) (tgt := 43) C dX2_buildLayers_28 (by decide) (fun c_28 => ?_) (fun c_28 => ?_)
        · obtain ⟨q3, e3, hz⟩ : ∃ q3, q3 = q ∧ ∀ j, j < 32 → bt (q3 1) j = (decide (j < i + 1) && decide (P.load j < P.cap j)) := ⟨q, rfl, fun j hj => by
            rw [hf j hj]
            by_cases e : j = i
            · subst e; rw [c_28]; simp
            · have e1 : decide (j < i) = decide (j < i + 1) := decide_eq_decide.mpr (by omega)
              rw [e1]⟩
          rw [← e3]
          try rw [← e3]
          refine jw_iinc_1 (pc := 43) C dX2_buildLayers_43 rfl ?_
          refine jw_goto (pc := 46) (tgt := 9) C dX2_buildLayers_46 (by decide) ?_
          exact ih_9 (i + 1) q3 (by omega) hz (by omega)
        · obtain ⟨q3, e3, hz⟩ : ∃ q3, q3 = updf q 1 (q 1 ||| iI 1 <<< (iI (i : Int) &&& 31)) ∧ ∀ j, j < 32 → bt (q3 1) j = (decide (j < i + 1) && decide (P.load j < P.cap j)) := ⟨_, rfl, fun j hj => by
            rw [updf_same, b_or, hf j hj, b_pow (by omega) hj]
            by_cases e : j = i
            · subst e; rw [c_28]; simp
            · have e1 : decide (j < i) = decide (j < i + 1) := decide_eq_decide.mpr (by omega)
              rw [e1, decide_eq_false e, Bool.or_false]⟩
          refine jw_aload_0 (pc := 31) C dX2_buildLayers_31 ?_
          refine fg_X2_15 (pc := 32) C 3 rfl rfl dX2_buildLayers_32 ?_
          refine jw_iconst (pc := 35) C dX2_buildLayers_35 ?_
          refine jw_dup2 (pc := 36) C dX2_buildLayers_36 rfl rfl ?_
          refine jw_iald_r (pc := 37) C 18 rfl 1 rfl (by omega) (by decide) dX2_buildLayers_37 ?_
          refine jw_iconst (pc := 38) C dX2_buildLayers_38 ?_
          refine jw_iload_1 (pc := 39) C dX2_buildLayers_39 ?_
          refine jw_ishl (pc := 40) C dX2_buildLayers_40 ?_
          refine jw_ior (pc := 41) C dX2_buildLayers_41 ?_
          refine jw_iast_r (pc := 42) C 18 rfl 1 rfl (by omega) (by decide) dX2_buildLayers_42 ?_
          try rw [← e3]
          refine jw_iinc_1 (pc := 43) C dX2_buildLayers_43 rfl ?_
          refine jw_goto (pc := 46) (tgt := 9) C dX2_buildLayers_46 (by decide) ?_
          exact ih_9 (i + 1) q3 (by omega) hz (by omega)
  exact K9 13 0 (updf A.lay 1 (iI 0)) (by omega) (fun j hj => by rw [updf_same, show iI 0 = (0 : Int32) from rfl, b_0]; simp) (by omega)
end
section
set_option maxRecDepth 100000 in
set_option maxHeartbeats 4000000 in
theorem c_X2_trace (G : jG) (ad : Nat → Nat) (P : QP) (l : QL) (A : QA) (T : Nat → Bool) (F : QF) (m : Int32) (hI : PI P) (hl : ∀ k : Nat, 1 ≤ k → (k : Int) ≤ P.res → ∀ j, j < 32 → bt (A.lay k) j = decide (dS P j = (k : Int))) (hn : A.len = minL P m) : CZ G yX2_trace cX2_trace 6 (jrm 2 44 0 0) [.ref (ad 3), .int m] (wC G ad P l A T F) (fun (z : Bool) (u : (Nat → Int) × (Nat → Int)) => z = decide (1 ≤ A.len) ∧ (∀ i : Nat, (i : Int) < A.len → u.1 i = pA P A.len (fstA P m) i) ∧ (∀ i : Nat, (i : Int) + 1 < A.len → u.2 i = pRq P A.len (fstA P m) i)) (fun u : (Nat → Int) × (Nat → Int) => wC G ad P l (A.suc, A.lay, u.1, u.2, A.len) T F) 0 0 := by
  refine cz_intro (own := RX2) [some (.ref (ad 3)), some (.int m), none, none, none, none] (by decide) rfl rfl rfl (Nat.le_of_ble_eq_true rfl) (fun X C hret => ?_)
  have h1 := hI.res
  have h2 := hI.req
  have hL : A.len = 0 ∨ ∃ (a n : Nat), A.len = (n : Int) ∧ 1 ≤ n ∧ (n : Int) ≤ P.res ∧ dS P a = (n : Int) ∧ fstA P m = (a : Int) := by
    rcases minL_spec P hI m with ⟨e1, -, -⟩ | ⟨a, e1, e2, e3, e4, e5, e6, e7⟩
    · left; rw [hn, e1]
    · right
      have := dS_rng hI a
      exact ⟨a, (dS P a).toNat, by rw [hn, e3]; omega, by omega, by omega, by omega, e6⟩
  have hA : 0 ≤ A.len ∧ A.len ≤ P.res := by
    rcases hL with h | ⟨a, n, e1, e2, e3, e4, e5⟩ <;> omega
  have hpath : ∀ i : Nat, (i : Int) < A.len → ∃ a : Nat, (a : Int) < P.res ∧ pA P A.len (fstA P m) i = (a : Int) ∧ dS P a = A.len - i ∧ ((i : Int) + 1 < A.len → ∃ (r b : Nat), (r : Int) < P.req ∧ pRq P A.len (fstA P m) i = (r : Int) ∧ P.plc r = (a : Int) ∧ P.mov r < P.ml ∧ (b : Int) < P.res ∧ pA P A.len (fstA P m) (i + 1) = (b : Int) ∧ bt (P.acc r) b = true) := by
    intro i hi
    rcases hL with h | ⟨a, n, e1, e2, e3, e4, e5⟩
    · omega
    · obtain ⟨b, g1, g2, g3, g4⟩ := path_spec P hI e4 e2 (by omega) i (by omega)
      rw [e1, e5]
      exact ⟨b, g1, g2, g3, fun q => g4 (by omega)⟩
  clear hL
  refine jw_iload_1 (pc := 0) C dX2_trace_0 ?_
  refine jw_aload_0 (pc := 1) C dX2_trace_1 ?_
  refine fg_X2_15 (pc := 2) C 3 rfl rfl dX2_trace_2 ?_
  refine jw_aload_0 (pc := 5) C dX2_trace_5 ?_
  refine fg_X2_43 (pc := 6) C 3 rfl rfl dX2_trace_6 ?_
  refine jw_iald_r (pc := 9) C 18 rfl A.len.toNat (by omega) (by omega) (by decide) dX2_trace_9 ?_
  refine jw_iand (pc := 10) C dX2_trace_10 ?_
  refine jw_SN0_I (pc := 11) C (c_X5_lowestResource G (m &&& A.lay A.len.toNat)) ws_X5_lowestResource kmn_X2_69 rfl rfl (Nat.le_of_ble_eq_true rfl) ⟨by decide, by decide⟩ ⟨Nat.zero_le _, Nat.zero_le _⟩ dX2_trace_11 rfl (fun z u h => ?_)
  obtain ⟨hr, ehr⟩ : ∃ hr, hr = lstI (fun k => bt (m &&& A.lay A.len.toNat) k) 12 := ⟨_, rfl⟩
  rw [← ehr] at h
  subst h
  have hhr : 1 ≤ A.len → hr = fstA P m := fun q => by
    rw [ehr]
    unfold fstA
    apply lstI_congr
    intro k hk
    rw [b_and, hl A.len.toNat (by omega) (by omega) k (by omega), ← hn]
    rw [show ((A.len.toNat : Nat) : Int) = A.len by omega]
  have hrr := lstI_rng (fun k => bt (m &&& A.lay A.len.toNat) k) 12
  rw [← ehr] at hrr
  refine jw_istore_2 (pc := 14) C dX2_trace_14 rfl ?_
  refine jw_iconst (pc := 15) C dX2_trace_15 ?_
  refine jw_istore_3 (pc := 16) C dX2_trace_16 rfl ?_
  have K17 : ∀ (n_17 : Nat) (i : Nat) (hr : Int) (rs : Nat → Int) (rq : Nat → Int), (-1 ≤ hr ∧ hr ≤ 11) → (A.len = 0 → i = 0) → (1 ≤ A.len → (i : Int) + 1 ≤ A.len ∧ hr = pA P A.len (fstA P m) i ∧ ∀ j, j < i → rs j = pA P A.len (fstA P m) j ∧ rq j = pRq P A.len (fstA P m) j) → 12 - i < n_17 → JW G X 0 0 (wC G ad P l (A.suc, A.lay, rs, rq, A.len) T F) 17 [some (.ref (ad 3)), some (.int m), some (.int (iI hr)), some (.int (iI (i : Int))), none, none] [] := by
    intro n_17
    induction n_17 with
    | zero => intro i hr rs rq hb h0 hc0 hm_17; exact absurd hm_17 (Nat.not_lt_zero _)
    | succ n_17 ih_17 =>
      intro i hr rs rq hb h0 hc0 hm_17
      have eL : QA.len (A.suc, A.lay, rs, rq, A.len) = A.len := rfl
      refine jw_iload_3 (pc := 17) C dX2_trace_17 ?_
      refine jw_aload_0 (pc := 18) C dX2_trace_18 ?_
      refine fg_X2_43 (pc := 19) C 3 rfl rfl dX2_trace_19 ?_
      refine jw_iconst (pc := 22) C dX2_trace_22 ?_
      refine jw_isub (pc := 23) C dX2_trace_23 ?_
      refine jw_icmp_ge (pc := 24) (tgt := 102) C dX2_trace_24 (by decide) ⟨by omega, by omega⟩ ⟨by omega, by omega⟩ (fun c_24 => ?_) (fun c_24 => ?_)
      · refine jw_aload_0 (pc := 102) C dX2_trace_102 ?_
        refine fg_X2_43 (pc := 103) C 3 rfl rfl dX2_trace_103 ?_
        refine jw_if_eq (pc := 106) (tgt := 114) C dX2_trace_106 (by decide) ⟨by omega, by omega⟩ (fun c_106 => ?_) (fun c_106 => ?_)
        · refine jw_iconst (pc := 114) C dX2_trace_114 ?_
          exact hret _ _ _ (rs, rq) dX2_trace_115 ⟨by rw [decide_eq_false (by omega)], fun i q => by omega, fun i q => by omega⟩
        · have hc := hc0 (by omega)
          obtain ⟨a, ha1, ha2, ha3, ha4⟩ := hpath i (by omega)
          have hra : hr = (a : Int) := by rw [hc.2.1, ha2]
          refine jw_iload_2 (pc := 109) C dX2_trace_109 ?_
          refine jw_iconst (pc := 110) C dX2_trace_110 ?_
          refine jw_icmp_ne (pc := 111) (tgt := 116) C dX2_trace_111 (by decide) ⟨by omega, by omega⟩ ⟨by omega, by omega⟩ (fun c_111 => ?_) (fun c_111 => ?_)
          · refine jw_aload_0 (pc := 116) C dX2_trace_116 ?_
            refine fg_X2_18 (pc := 117) C 3 rfl rfl dX2_trace_117 ?_
            refine jw_aload_0 (pc := 120) C dX2_trace_120 ?_
            refine fg_X2_43 (pc := 121) C 3 rfl rfl dX2_trace_121 ?_
            refine jw_iconst (pc := 124) C dX2_trace_124 ?_
            refine jw_isub (pc := 125) C dX2_trace_125 ?_
            refine jw_iload_2 (pc := 126) C dX2_trace_126 ?_
            refine jw_iast (pc := 127) C 19 rfl (A.len - 1).toNat (by omega) (by omega) (by decide) dX2_trace_127 ?_
            refine jw_iconst (pc := 128) C dX2_trace_128 ?_
            refine hret _ _ true (updf rs (A.len - 1).toNat hr, rq) dX2_trace_129 ⟨by rw [decide_eq_true (by omega)], fun j q => ?_, fun j q => ?_⟩
            · by_cases e : j = (A.len - 1).toNat
              · subst e
                show updf rs (A.len - 1).toNat hr (A.len - 1).toNat = _
                rw [updf_same, hc.2.1]
                congr 1
                omega
              · show updf rs (A.len - 1).toNat hr j = _
                rw [updf_ne _ _ e]
                exact (hc.2.2 j (by omega)).1
            · exact (hc.2.2 j (by omega)).2
          · exact absurd c_111 (by omega)
      · have hc := hc0 (by omega)
        obtain ⟨a, ha1, ha2, ha3, ha4⟩ := hpath i (by omega)
        obtain ⟨r, b, r1, er, r3, r4, b1, eb, b3⟩ := ha4 (by omega)
        have hra : hr = (a : Int) := by rw [hc.2.1, ha2]
        refine jw_iload_2 (pc := 27) C dX2_trace_27 ?_
        refine jw_iconst (pc := 28) C dX2_trace_28 ?_
        refine jw_icmp_eq (pc := 29) (tgt := 102) C dX2_trace_29 (by decide) ⟨by omega, by omega⟩ ⟨by omega, by omega⟩ (fun c_29 => ?_) (fun c_29 => ?_)
        · exact absurd c_29 (by omega)
        · refine jw_aload_0 (pc := 32) C dX2_trace_32 ?_
          refine fg_X2_15 (pc := 33) C 3 rfl rfl dX2_trace_33 ?_
          refine jw_aload_0 (pc := 36) C dX2_trace_36 ?_
          refine fg_X2_43 (pc := 37) C 3 rfl rfl dX2_trace_37 ?_
          refine jw_iload_3 (pc := 40) C dX2_trace_40 ?_
          refine jw_isub (pc := 41) C dX2_trace_41 ?_
          refine jw_iconst (pc := 42) C dX2_trace_42 ?_
          refine jw_isub (pc := 43) C dX2_trace_43 ?_
          refine jw_iald_r (pc := 44) C 18 rfl (A.len - 1 - (i : Int)).toNat (by omega) (by omega) (by decide) dX2_trace_44 ?_
          refine jw_istore_4 (pc := 45) C dX2_trace_45 rfl ?_
          refine jw_aload_0 (pc := 47) C dX2_trace_47 ?_
          refine jw_iload_2 (pc := 48) C dX2_trace_48 ?_
          refine jw_iload_4 (pc := 49) C dX2_trace_49 ?_
          refine jw_V_I (pc := 51) C (c_X2_firstMovable G ad P l (A.suc, A.lay, rs, rq, A.len) T F hr (A.lay (A.len - 1 - (i : Int)).toNat) hI hb) wd_X2_firstMovable kml_X2_72 3 rfl rfl rfl rfl (Nat.le_of_ble_eq_true rfl) ⟨by decide, by decide⟩ ⟨Nat.zero_le _, Nat.zero_le _⟩ dX2_trace_51 rfl (fun z u h => ?_)
          have hlk : ∀ j, j < 32 → bt (A.lay (A.len - 1 - (i : Int)).toNat) j = decide (dS P j = (((A.len - 1 - (i : Int)).toNat : Nat) : Int)) := hl _ (by omega) (by omega)
          have ed : (((A.len - 1 - (i : Int)).toNat : Nat) : Int) = A.len - 1 - (i : Int) := by omega
          have hz : z = iI ((r : Nat) : Int) := by
            rw [h, ← er]
            unfold pRq nR
            congr 1
            rw [← hc.2.1]
            apply lstI_congr
            intro x hx
            rw [msk_ex hI (x := P.acc x) (d := (A.len - 1 - (i : Int)).toNat) (by omega) hlk, ed]
          subst hz
          refine jw_istore_5 (pc := 54) C dX2_trace_54 rfl ?_
          refine jw_iload_5 (pc := 56) C dX2_trace_56 ?_
          refine jw_iconst (pc := 58) C dX2_trace_58 ?_
          refine jw_icmp_ne (pc := 59) (tgt := 64) C dX2_trace_59 (by decide) ⟨by omega, by omega⟩ ⟨by omega, by omega⟩ (fun c_59 => ?_) (fun c_59 => ?_)
          · refine jw_aload_0 (pc := 64) C dX2_trace_64 ?_
            refine fg_X2_18 (pc := 65) C 3 rfl rfl dX2_trace_65 ?_
            refine jw_iload_3 (pc := 68) C dX2_trace_68 ?_
            refine jw_iload_2 (pc := 69) C dX2_trace_69 ?_
            refine jw_iast (pc := 70) C 19 rfl _ rfl (by omega) (by decide) dX2_trace_70 ?_
            refine jw_aload_0 (pc := 71) C dX2_trace_71 ?_
            refine fg_X2_21 (pc := 72) C 3 rfl rfl dX2_trace_72 ?_
            refine jw_iload_3 (pc := 75) C dX2_trace_75 ?_
            refine jw_iload_5 (pc := 76) C dX2_trace_76 ?_
            refine jw_iast (pc := 78) C 20 rfl _ rfl (by omega) (by decide) dX2_trace_78 ?_
            refine jw_aload_0 (pc := 79) C dX2_trace_79 ?_
            refine fg_X2_24 (pc := 80) C 3 rfl rfl dX2_trace_80 ?_
            refine fg_X2_34 (pc := 83) C 1 rfl rfl dX2_trace_83 ?_
            refine jw_iload_5 (pc := 86) C dX2_trace_86 ?_
            refine jw_iald_r (pc := 88) C 12 rfl _ rfl (by omega) (by decide) dX2_trace_88 ?_
            refine jw_iload_4 (pc := 89) C dX2_trace_89 ?_
            refine jw_iand (pc := 91) C dX2_trace_91 ?_
            refine jw_SN0_I (pc := 92) C (c_X5_lowestResource G (P.acc r &&& A.lay (A.len - 1 - (i : Int)).toNat)) ws_X5_lowestResource kmn_X2_69 rfl rfl (Nat.le_of_ble_eq_true rfl) ⟨by decide, by decide⟩ ⟨Nat.zero_le _, Nat.zero_le _⟩ dX2_trace_92 rfl (fun z u h => ?_)
            have hz2 : z = iI ((b : Nat) : Int) := by
              rw [h, ← eb]
              show _ = iI (nA P (pRq P A.len (fstA P m) i).toNat (A.len - 1 - i))
              rw [er]
              unfold nA
              congr 1
              apply lstI_congr
              intro x hx
              rw [b_and, hlk x (by omega), ed]
              rfl
            subst hz2
            refine jw_istore_2 (pc := 95) C dX2_trace_95 rfl ?_
            refine jw_iinc_3 (pc := 96) C dX2_trace_96 rfl ?_
            refine jw_goto (pc := 99) (tgt := 17) C dX2_trace_99 (by decide) ?_
            exact jw_less (ih_17 (i + 1) (b : Int) (updf rs i hr) (updf rq i (r : Int)) (by omega) (fun q => by omega) (fun _ => ⟨by omega, eb.symm, fun j hj => by
              by_cases e : j = i
              · subst e; rw [updf_same, updf_same]; exact ⟨hc.2.1, er.symm⟩
              · rw [updf_ne _ _ e, updf_ne _ _ e]; exact hc.2.2 j (by omega)⟩) (by omega)) (by repeat (first | exact trivial | refine And.intro rfl ?_))
          · exact absurd c_59 (by omega)
  exact K17 13 0 hr A.rs A.rq (by omega) (fun _ => rfl) (fun q => ⟨by omega, hhr q, fun j hj => absurd hj (Nat.not_lt_zero _)⟩) (by omega)
set_option maxRecDepth 100000 in
set_option maxHeartbeats 4000000 in
theorem c_X2_search (G : jG) (ad : Nat → Nat) (P : QP) (l : QL) (A : QA) (T : Nat → Bool) (F : QF) (w : Nat) (hw : w < 40) (hI : PI P) : CI G yX2_search cX2_search 2 (jrm 3 69 0 0) [.ref (ad 3), .int (iI (w : Int))] (wC G ad P l A T F) (fun (z : Int32) (u : QA) => z = iI (minL P (P.acc w)) ∧ u.len = minL P (P.acc w) ∧ (∀ i : Nat, (i : Int) < u.len → u.rs i = pA P u.len (fstA P (P.acc w)) i) ∧ (∀ i : Nat, (i : Int) + 1 < u.len → u.rq i = pRq P u.len (fstA P (P.acc w)) i)) (fun u : QA => wC G ad P l u T F) 0 0 := by
  refine ci_intro (own := RX2) [some (.ref (ad 3)), some (.int (iI (w : Int)))] (by decide) rfl rfl rfl (Nat.le_of_ble_eq_true rfl) (fun X C hret => ?_)
  have hm := minL_rng P hI (P.acc w)
  refine jw_aload_0 (pc := 0) C dX2_search_0 ?_
  refine jw_V_V (pc := 1) C (c_X2_collectSuccessors G ad P l A T F hI) wd_X2_collectSuccessors kml_X2_28 3 rfl rfl rfl rfl (Nat.le_of_ble_eq_true rfl) ⟨by decide, by decide⟩ ⟨Nat.zero_le _, Nat.zero_le _⟩ dX2_search_1 rfl (fun q1 h => ?_)
  refine jw_aload_0 (pc := 4) C dX2_search_4 ?_
  refine jw_V_V (pc := 5) C (c_X2_buildLayers G ad P l (q1, A.lay, A.rs, A.rq, A.len) T F hI h) wd_X2_buildLayers kml_X2_31 3 rfl rfl rfl rfl (Nat.le_of_ble_eq_true rfl) ⟨by decide, by decide⟩ ⟨Nat.zero_le _, Nat.zero_le _⟩ dX2_search_5 rfl (fun q2 h2 => ?_)
  refine jw_aload_0 (pc := 8) C dX2_search_8 ?_
  refine jw_aload_0 (pc := 9) C dX2_search_9 ?_
  refine jw_aload_0 (pc := 10) C dX2_search_10 ?_
  refine fg_X2_24 (pc := 11) C 3 rfl rfl dX2_search_11 ?_
  refine fg_X2_34 (pc := 14) C 1 rfl rfl dX2_search_14 ?_
  refine jw_iload_1 (pc := 17) C dX2_search_17 ?_
  refine jw_iald_r (pc := 18) C 12 rfl _ rfl (by omega) (by decide) dX2_search_18 ?_
  refine jw_V_I (pc := 19) C (c_X2_shortestFrom G ad P l (q1, q2, A.rs, A.rq, A.len) T F (P.acc w) hI) wd_X2_shortestFrom kml_X2_39 3 rfl rfl rfl rfl (Nat.le_of_ble_eq_true rfl) ⟨by decide, by decide⟩ ⟨Nat.zero_le _, Nat.zero_le _⟩ dX2_search_19 rfl (fun z u h => ?_)
  have hz : z = iI (minL P (P.acc w)) := by rw [h, ← short_spec hI h2]
  subst hz
  refine fp_X2_43 (pc := 22) C 3 rfl (Nat.le_of_ble_eq_true rfl) dX2_search_22 ?_
  refine jw_aload_0 (pc := 25) C dX2_search_25 ?_
  refine jw_aload_0 (pc := 26) C dX2_search_26 ?_
  refine fg_X2_24 (pc := 27) C 3 rfl rfl dX2_search_27 ?_
  refine fg_X2_34 (pc := 30) C 1 rfl rfl dX2_search_30 ?_
  refine jw_iload_1 (pc := 33) C dX2_search_33 ?_
  refine jw_iald_r (pc := 34) C 12 rfl _ rfl (by omega) (by decide) dX2_search_34 ?_
  refine jw_V_Z (pc := 35) C (c_X2_trace G ad P l (q1, q2, A.rs, A.rq, minL P (P.acc w)) T F (P.acc w) hI h2 rfl) wd_X2_trace kml_X2_47 3 rfl rfl rfl rfl (Nat.le_of_ble_eq_true rfl) ⟨by decide, by decide⟩ ⟨Nat.zero_le _, Nat.zero_le _⟩ dX2_search_35 rfl (fun z u h3 => ?_)
  obtain ⟨h3, h4, h5⟩ := h3
  refine jw_if_ne_b (pc := 38) (tgt := 46) C dX2_search_38 (by decide) (fun c_38 => ?_) (fun c_38 => ?_)
  · refine jw_aload_0 (pc := 46) C dX2_search_46 ?_
    refine fg_X2_43 (pc := 47) C 3 rfl rfl dX2_search_47 ?_
    first | exact hret _ _ _ (q1, q2, u.1, u.2, minL P (P.acc w)) dX2_search_50 ⟨rfl, rfl, h4, h5⟩ | exact hret _ _ _ (q1, q2, u.1, u.2, (0 : Int)) dX2_search_50 ⟨by rw [e0], by rw [e0], fun i q => absurd q (by show ¬ (i : Int) < 0; omega), fun i q => absurd q (by show ¬ (i : Int) + 1 < 0; omega)⟩
  · have e0 : minL P (P.acc w) = 0 := by
      rw [c_38] at h3
      have h6 := of_decide_eq_false h3.symm
      have h7 : ¬ 1 ≤ minL P (P.acc w) := h6
      omega
    refine jw_aload_0 (pc := 41) C dX2_search_41 ?_
    refine jw_iconst (pc := 42) C dX2_search_42 ?_
    refine fp_X2_43 (pc := 43) C 3 rfl (Nat.le_of_ble_eq_true rfl) dX2_search_43 ?_
    refine jw_aload_0 (pc := 46) C dX2_search_46 ?_
    refine fg_X2_43 (pc := 47) C 3 rfl rfl dX2_search_47 ?_
    first | exact hret _ _ _ (q1, q2, u.1, u.2, minL P (P.acc w)) dX2_search_50 ⟨rfl, rfl, h4, h5⟩ | exact hret _ _ _ (q1, q2, u.1, u.2, (0 : Int)) dX2_search_50 ⟨by rw [e0], by rw [e0], fun i q => absurd q (by show ¬ (i : Int) < 0; omega), fun i q => absurd q (by show ¬ (i : Int) + 1 < 0; omega)⟩
end
section
set_option maxRecDepth 100000 in
set_option maxHeartbeats 4000000 in
theorem c_X3_isServedBefore (G : jG) (ad : Nat → Nat) (P : QP) (l : QL) (A : QA) (T : Nat → Bool) (F : QF) (g h : Int) (hI : PI P) (hg : 0 ≤ g ∧ g ≤ 3) (hh : 0 ≤ h ∧ h ≤ 3) : CZ G yX3_isServedBefore cX3_isServedBefore 5 (jrm 0 0 0 0) [.ref (ad 4), .int (iI g), .int (iI h)] (wC G ad P l A T F) (fun (z : Bool) _ => z = servB P g h) (fun _ : Unit => wC G ad P l A T F) 0 0 := by
  refine cz_intro (own := RX3) [some (.ref (ad 4)), some (.int (iI g)), some (.int (iI h)), none, none] (by decide) rfl rfl rfl (Nat.le_of_ble_eq_true rfl) (fun X C hret => ?_)
  have h1 := hI.asg g.toNat
  have h2 := hI.asg h.toNat
  have h3 := hI.wei g.toNat
  have h4 := hI.wei h.toNat
  have h5 := mul_rng h1 h4
  have h6 := mul_rng h2 h3
  refine jw_aload_0 (pc := 0) C dX3_isServedBefore_0 ?_
  refine fg_X3_15 (pc := 1) C 4 rfl rfl dX3_isServedBefore_1 ?_
  refine fg_X3_52 (pc := 4) C 1 rfl rfl dX3_isServedBefore_4 ?_
  refine jw_iload_1 (pc := 7) C dX3_isServedBefore_7 ?_
  refine jw_iald (pc := 8) C 10 rfl g.toNat (by omega) (by omega) (by decide) dX3_isServedBefore_8 ?_
  refine jw_aload_0 (pc := 9) C dX3_isServedBefore_9 ?_
  refine fg_X3_15 (pc := 10) C 4 rfl rfl dX3_isServedBefore_10 ?_
  refine fg_X3_55 (pc := 13) C 1 rfl rfl dX3_isServedBefore_13 ?_
  refine jw_iload_2 (pc := 16) C dX3_isServedBefore_16 ?_
  refine jw_iald (pc := 17) C 9 rfl h.toNat (by omega) (by omega) (by decide) dX3_isServedBefore_17 ?_
  refine jw_imul (pc := 18) C dX3_isServedBefore_18 ?_
  refine jw_istore_3 (pc := 19) C dX3_isServedBefore_19 rfl ?_
  refine jw_aload_0 (pc := 20) C dX3_isServedBefore_20 ?_
  refine fg_X3_15 (pc := 21) C 4 rfl rfl dX3_isServedBefore_21 ?_
  refine fg_X3_52 (pc := 24) C 1 rfl rfl dX3_isServedBefore_24 ?_
  refine jw_iload_2 (pc := 27) C dX3_isServedBefore_27 ?_
  refine jw_iald (pc := 28) C 10 rfl h.toNat (by omega) (by omega) (by decide) dX3_isServedBefore_28 ?_
  refine jw_aload_0 (pc := 29) C dX3_isServedBefore_29 ?_
  refine fg_X3_15 (pc := 30) C 4 rfl rfl dX3_isServedBefore_30 ?_
  refine fg_X3_55 (pc := 33) C 1 rfl rfl dX3_isServedBefore_33 ?_
  refine jw_iload_1 (pc := 36) C dX3_isServedBefore_36 ?_
  refine jw_iald (pc := 37) C 9 rfl g.toNat (by omega) (by omega) (by decide) dX3_isServedBefore_37 ?_
  refine jw_imul (pc := 38) C dX3_isServedBefore_38 ?_
  refine jw_istore_4 (pc := 39) C dX3_isServedBefore_39 rfl ?_
  refine jw_iload_3 (pc := 41) C dX3_isServedBefore_41 ?_
  refine jw_iload_4 (pc := 42) C dX3_isServedBefore_42 ?_
  refine jw_icmp_lt (pc := 44) (tgt := 58) C dX3_isServedBefore_44 (by decide) ⟨by omega, by omega⟩ ⟨by omega, by omega⟩ (fun c_44 => ?_) (fun c_44 => ?_)
  · have hz : true = servB P g h := (decide_eq_true (Or.inl c_44)).symm
    refine jw_iconst (pc := 58) C dX3_isServedBefore_58 ?_
    refine jw_goto (pc := 59) (tgt := 63) C dX3_isServedBefore_59 (by decide) ?_
    exact hret _ _ _ () dX3_isServedBefore_63 hz
  · refine jw_iload_3 (pc := 47) C dX3_isServedBefore_47 ?_
    refine jw_iload_4 (pc := 48) C dX3_isServedBefore_48 ?_
    refine jw_icmp_ne (pc := 50) (tgt := 62) C dX3_isServedBefore_50 (by decide) ⟨by omega, by omega⟩ ⟨by omega, by omega⟩ (fun c_50 => ?_) (fun c_50 => ?_)
    · have hz : false = servB P g h := (decide_eq_false (fun q => q.elim (fun q => c_44 q) (fun q => c_50 q.1))).symm
      refine jw_iconst (pc := 62) C dX3_isServedBefore_62 ?_
      exact hret _ _ _ () dX3_isServedBefore_63 hz
    · refine jw_iload_1 (pc := 53) C dX3_isServedBefore_53 ?_
      refine jw_iload_2 (pc := 54) C dX3_isServedBefore_54 ?_
      refine jw_icmp_ge (pc := 55) (tgt := 62) C dX3_isServedBefore_55 (by decide) ⟨by omega, by omega⟩ ⟨by omega, by omega⟩ (fun c_55 => ?_) (fun c_55 => ?_)
      · have hz : false = servB P g h := (decide_eq_false (fun q => q.elim (fun q => c_44 q) (fun q => by omega))).symm
        refine jw_iconst (pc := 62) C dX3_isServedBefore_62 ?_
        exact hret _ _ _ () dX3_isServedBefore_63 hz
      · have hz : true = servB P g h := (decide_eq_true (Or.inr ⟨c_50, by omega⟩)).symm
        refine jw_iconst (pc := 58) C dX3_isServedBefore_58 ?_
        refine jw_goto (pc := 59) (tgt := 63) C dX3_isServedBefore_59 (by decide) ?_
        exact hret _ _ _ () dX3_isServedBefore_63 hz
set_option maxRecDepth 100000 in
set_option maxHeartbeats 4000000 in
theorem c_X3_nextToTry (G : jG) (ad : Nat → Nat) (P : QP) (l : QL) (A : QA) (T : Nat → Bool) (F : QF) (hI : PI P) : CI G yX3_nextToTry cX3_nextToTry 3 (jrm 1 24 0 0) [.ref (ad 4)] (wC G ad P l A T F) (fun (z : Int32) _ => z = iI (nxF P T P.req.toNat)) (fun _ : Unit => wC G ad P l A T F) 0 0 := by
  refine ci_intro (own := RX3) [some (.ref (ad 4)), none, none] (by decide) rfl rfl rfl (Nat.le_of_ble_eq_true rfl) (fun X C hret => ?_)
  have h1 := hI.req
  refine jw_iconst (pc := 0) C dX3_nextToTry_0 ?_
  refine jw_istore_1 (pc := 1) C dX3_nextToTry_1 rfl ?_
  refine jw_iconst (pc := 2) C dX3_nextToTry_2 ?_
  refine jw_istore_2 (pc := 3) C dX3_nextToTry_3 rfl ?_
  have K4 : ∀ (n_4 : Nat) (i : Nat), ((i : Int) ≤ P.req) → 40 - i < n_4 → JW G X 0 0 (wC G ad P l A T F) 4 [some (.ref (ad 4)), some (.int (iI (nxF P T i))), some (.int (iI (i : Int)))] [] := by
    intro n_4
    induction n_4 with
    | zero => intro i hi hm_4; exact absurd hm_4 (Nat.not_lt_zero _)
    | succ n_4 ih_4 =>
      intro i hi hm_4
      have h2 := hI.grp i
      have h3 := hI.grp (nxF P T i).toNat
      have h4 : -1 ≤ nxF P T i ∧ nxF P T i < i := by
        rcases nxF_spec P T i with h | ⟨k, k1, k2, k3, k4⟩ <;> omega
      refine jw_iload_2 (pc := 4) C dX3_nextToTry_4 ?_
      refine jw_aload_0 (pc := 5) C dX3_nextToTry_5 ?_
      refine fg_X3_15 (pc := 6) C 4 rfl rfl dX3_nextToTry_6 ?_
      refine fg_X3_27 (pc := 9) C 1 rfl rfl dX3_nextToTry_9 ?_
      refine jw_icmp_ge (pc := 12) (tgt := 73) C dX3_nextToTry_12 (by decide) ⟨by omega, by omega⟩ ⟨by omega, by omega⟩ (fun c_12 => ?_) (fun c_12 => ?_)
      · refine jw_iload_1 (pc := 73) C dX3_nextToTry_73 ?_
        have e : P.req.toNat = i := by omega
        exact hret _ _ _ () dX3_nextToTry_74 (by rw [e])
      · refine jw_aload_0 (pc := 15) C dX3_nextToTry_15 ?_
        refine fg_X3_15 (pc := 16) C 4 rfl rfl dX3_nextToTry_16 ?_
        refine jw_iload_2 (pc := 19) C dX3_nextToTry_19 ?_
        refine jw_V_Z (pc := 20) C (c_X4_isWaiting G ad P l A T F i (by omega) hI) wd_X4_isWaiting kml_X3_41 1 rfl rfl rfl rfl (Nat.le_of_ble_eq_true rfl) ⟨by decide, by decide⟩ ⟨Nat.zero_le _, Nat.zero_le _⟩ dX3_nextToTry_20 rfl (fun z u h => ?_)
        subst h
        refine jw_if_eq_b (pc := 23) (tgt := 67) C dX3_nextToTry_23 (by decide) (fun c_23 => ?_) (fun c_23 => ?_)
        · have hz : nxF P T i = nxF P T (i + 1) := by
            rw [nxF, if_neg (fun q => of_decide_eq_false c_23 q.1)]
          refine jw_iinc_2 (pc := 67) C dX3_nextToTry_67 rfl ?_
          refine jw_goto (pc := 70) (tgt := 4) C dX3_nextToTry_70 (by decide) ?_
          have K := ih_4 (i + 1) (by omega) (by omega)
          rw [← hz] at K
          exact K
        · refine jw_aload_0 (pc := 26) C dX3_nextToTry_26 ?_
          refine fg_X3_9 (pc := 27) C 4 rfl rfl dX3_nextToTry_27 ?_
          refine jw_iload_2 (pc := 30) C dX3_nextToTry_30 ?_
          refine jw_zald (pc := 31) C 21 rfl _ rfl (by omega) (by decide) dX3_nextToTry_31 ?_
          refine jw_if_ne_b (pc := 32) (tgt := 67) C dX3_nextToTry_32 (by decide) (fun c_32 => ?_) (fun c_32 => ?_)
          · have hz : nxF P T i = nxF P T (i + 1) := by
              rw [nxF, if_neg (fun q => by rw [c_32] at q; cases q.2.1)]
            refine jw_iinc_2 (pc := 67) C dX3_nextToTry_67 rfl ?_
            refine jw_goto (pc := 70) (tgt := 4) C dX3_nextToTry_70 (by decide) ?_
            have K := ih_4 (i + 1) (by omega) (by omega)
            rw [← hz] at K
            exact K
          · refine jw_iload_1 (pc := 35) C dX3_nextToTry_35 ?_
            refine jw_iconst (pc := 36) C dX3_nextToTry_36 ?_
            refine jw_icmp_eq (pc := 37) (tgt := 65) C dX3_nextToTry_37 (by decide) ⟨by omega, by omega⟩ ⟨by omega, by omega⟩ (fun c_37 => ?_) (fun c_37 => ?_)
            · have hz : (i : Int) = nxF P T (i + 1) := by
                rw [nxF, if_pos ⟨of_decide_eq_true c_23, c_32, Or.inl c_37⟩]
              refine jw_iload_2 (pc := 65) C dX3_nextToTry_65 ?_
              refine jw_istore_1 (pc := 66) C dX3_nextToTry_66 rfl ?_
              refine jw_iinc_2 (pc := 67) C dX3_nextToTry_67 rfl ?_
              refine jw_goto (pc := 70) (tgt := 4) C dX3_nextToTry_70 (by decide) ?_
              have K := ih_4 (i + 1) (by omega) (by omega)
              rw [← hz] at K
              exact K
            · refine jw_aload_0 (pc := 40) C dX3_nextToTry_40 ?_
              refine jw_aload_0 (pc := 41) C dX3_nextToTry_41 ?_
              refine fg_X3_15 (pc := 42) C 4 rfl rfl dX3_nextToTry_42 ?_
              refine fg_X3_44 (pc := 45) C 1 rfl rfl dX3_nextToTry_45 ?_
              refine jw_iload_2 (pc := 48) C dX3_nextToTry_48 ?_
              refine jw_iald (pc := 49) C 11 rfl _ rfl (by omega) (by decide) dX3_nextToTry_49 ?_
              refine jw_aload_0 (pc := 50) C dX3_nextToTry_50 ?_
              refine fg_X3_15 (pc := 51) C 4 rfl rfl dX3_nextToTry_51 ?_
              refine fg_X3_44 (pc := 54) C 1 rfl rfl dX3_nextToTry_54 ?_
              refine jw_iload_1 (pc := 57) C dX3_nextToTry_57 ?_
              refine jw_iald (pc := 58) C 11 rfl (nxF P T i).toNat (by omega) (by omega) (by decide) dX3_nextToTry_58 ?_
              refine jw_V_Z (pc := 59) C (c_X3_isServedBefore G ad P l A T F (P.grp i) (P.grp (nxF P T i).toNat) hI h2 h3) wd_X3_isServedBefore kml_X3_48 4 rfl rfl rfl rfl (Nat.le_of_ble_eq_true rfl) ⟨by decide, by decide⟩ ⟨Nat.zero_le _, Nat.zero_le _⟩ dX3_nextToTry_59 rfl (fun z u h => ?_)
              subst h
              refine jw_if_eq_b (pc := 62) (tgt := 67) C dX3_nextToTry_62 (by decide) (fun c_62 => ?_) (fun c_62 => ?_)
              · have hz : nxF P T i = nxF P T (i + 1) := by
                  rw [nxF, if_neg (fun q => q.2.2.elim (fun q => c_37 q) (fun q => by rw [c_62] at q; cases q))]
                refine jw_iinc_2 (pc := 67) C dX3_nextToTry_67 rfl ?_
                refine jw_goto (pc := 70) (tgt := 4) C dX3_nextToTry_70 (by decide) ?_
                have K := ih_4 (i + 1) (by omega) (by omega)
                rw [← hz] at K
                exact K
              · have hz : (i : Int) = nxF P T (i + 1) := by
                  rw [nxF, if_pos ⟨of_decide_eq_true c_23, c_32, Or.inr c_62⟩]
                refine jw_iload_2 (pc := 65) C dX3_nextToTry_65 ?_
                refine jw_istore_1 (pc := 66) C dX3_nextToTry_66 rfl ?_
                refine jw_iinc_2 (pc := 67) C dX3_nextToTry_67 rfl ?_
                refine jw_goto (pc := 70) (tgt := 4) C dX3_nextToTry_70 (by decide) ?_
                have K := ih_4 (i + 1) (by omega) (by omega)
                rw [← hz] at K
                exact K
  exact K4 41 0 (by omega) (by omega)
set_option maxRecDepth 100000 in
set_option maxHeartbeats 4000000 in
theorem c_X3_placeAlongPath (G : jG) (ad : Nat → Nat) (P : QP) (l : QL) (A : QA) (T : Nat → Bool) (F : QF) (r n : Nat) (hI : PI P) (hA : A.len = (n : Int)) (hp : PathOK P r A.rs A.rq n) (hl : 0 ≤ l.sz ∧ l.sz ≤ 195) (hn : n ≤ 6) : CV G yX3_placeAlongPath cX3_placeAlongPath 5 (jrm 3 64 0 0) [.ref (ad 4), .int (iI (r : Int))] (wC G ad P l A T F) (fun u : QP × QL => u = plS P l r A.rs A.rq (n - 1)) (fun u : QP × QL => wC G ad u.1 u.2 A T F) 0 0 := by
  refine cv_intro (own := RX3) [some (.ref (ad 4)), some (.int (iI (r : Int))), none, none, none] (by decide) rfl rfl rfl (Nat.le_of_ble_eq_true rfl) (fun X C hret => ?_)
  have h1 := hI.res
  have h2 := hI.req
  have hs := plS_ok (l := l) hI hp
  obtain ⟨p1, p2, p3, p4, p5, p6, p7, p8⟩ := id hp
  have p50 := p5 0 (by omega)
  refine jw_aload_0 (pc := 0) C dX3_placeAlongPath_0 ?_
  refine fg_X3_15 (pc := 1) C 4 rfl rfl dX3_placeAlongPath_1 ?_
  refine jw_iload_1 (pc := 4) C dX3_placeAlongPath_4 ?_
  refine jw_aload_0 (pc := 5) C dX3_placeAlongPath_5 ?_
  refine fg_X3_19 (pc := 6) C 4 rfl rfl dX3_placeAlongPath_6 ?_
  refine fg_X3_74 (pc := 9) C 3 rfl rfl dX3_placeAlongPath_9 ?_
  refine jw_iconst (pc := 12) C dX3_placeAlongPath_12 ?_
  refine jw_iald (pc := 13) C 19 rfl 0 rfl (by omega) (by decide) dX3_placeAlongPath_13 ?_
  rw [show iI (A.rs 0) = iI ((A.rs 0).toNat : Int) from by rw [Int.toNat_of_nonneg p50.1]]
  refine jw_V_V (pc := 14) C (c_X4_assign G ad P l A T F r (A.rs 0).toNat hI p1 (by omega)) wd_X4_assign kml_X3_77 1 rfl rfl rfl rfl (Nat.le_of_ble_eq_true rfl) ⟨by decide, by decide⟩ ⟨Nat.zero_le _, Nat.zero_le _⟩ dX3_placeAlongPath_14 rfl (fun u h => ?_)
  subst h
  refine jw_iconst (pc := 17) C dX3_placeAlongPath_17 ?_
  refine jw_istore_2 (pc := 18) C dX3_placeAlongPath_18 rfl ?_
  have K19 : ∀ (n_19 : Nat) (i : Nat), (i + 1 ≤ n) → 12 - i < n_19 → JW G X 0 0 (wC G ad (plS P l r A.rs A.rq i).1 (plS P l r A.rs A.rq i).2 A T F) 19 [some (.ref (ad 4)), some (.int (iI (r : Int))), some (.int (iI (i : Int))), none, none] [] := by
    intro n_19
    induction n_19 with
    | zero => intro i hi hm_19; exact absurd hm_19 (Nat.not_lt_zero _)
    | succ n_19 ih_19 =>
      intro i hi hm_19
      obtain ⟨g1, g2, g3, g4, g5, g6, g7, g8, g9⟩ := hs i (by omega)
      refine jw_iload_2 (pc := 19) C dX3_placeAlongPath_19 ?_
      refine jw_aload_0 (pc := 20) C dX3_placeAlongPath_20 ?_
      refine fg_X3_19 (pc := 21) C 4 rfl rfl dX3_placeAlongPath_21 ?_
      refine fg_X3_81 (pc := 24) C 3 rfl rfl dX3_placeAlongPath_24 ?_
      refine jw_iconst (pc := 27) C dX3_placeAlongPath_27 ?_
      refine jw_isub (pc := 28) C dX3_placeAlongPath_28 ?_
      refine jw_icmp_ge (pc := 29) (tgt := 81) C dX3_placeAlongPath_29 (by decide) ⟨by omega, by omega⟩ ⟨by omega, by omega⟩ (fun c_29 => ?_) (fun c_29 => ?_)
      · have e : n - 1 = i := by omega
        exact hret _ _ (plS P l r A.rs A.rq i) dX3_placeAlongPath_81 (by rw [e])
      · have p51 := p5 (i + 1) (by omega)
        obtain ⟨q1, q2, q3, q4, q5⟩ := p8 i (by omega)
        refine jw_aload_0 (pc := 32) C dX3_placeAlongPath_32 ?_
        refine fg_X3_19 (pc := 33) C 4 rfl rfl dX3_placeAlongPath_33 ?_
        refine fg_X3_84 (pc := 36) C 3 rfl rfl dX3_placeAlongPath_36 ?_
        refine jw_iload_2 (pc := 39) C dX3_placeAlongPath_39 ?_
        refine jw_iald (pc := 40) C 20 rfl _ rfl (by omega) (by decide) dX3_placeAlongPath_40 ?_
        refine jw_istore_3 (pc := 41) C dX3_placeAlongPath_41 rfl ?_
        refine jw_aload_0 (pc := 42) C dX3_placeAlongPath_42 ?_
        refine fg_X3_19 (pc := 43) C 4 rfl rfl dX3_placeAlongPath_43 ?_
        refine fg_X3_74 (pc := 46) C 3 rfl rfl dX3_placeAlongPath_46 ?_
        refine jw_iload_2 (pc := 49) C dX3_placeAlongPath_49 ?_
        refine jw_iconst (pc := 50) C dX3_placeAlongPath_50 ?_
        refine jw_iadd (pc := 51) C dX3_placeAlongPath_51 ?_
        refine jw_iald (pc := 52) C 19 rfl (i + 1) (by omega) (by omega) (by decide) dX3_placeAlongPath_52 ?_
        refine jw_istore_4 (pc := 53) C dX3_placeAlongPath_53 rfl ?_
        refine jw_aload_0 (pc := 55) C dX3_placeAlongPath_55 ?_
        refine fg_X3_15 (pc := 56) C 4 rfl rfl dX3_placeAlongPath_56 ?_
        rw [show iI (A.rq i) = iI ((A.rq i).toNat : Int) from by rw [Int.toNat_of_nonneg q1], show iI (A.rs (i + 1)) = iI ((A.rs (i + 1)).toNat : Int) from by rw [Int.toNat_of_nonneg p51.1]]
        refine jw_iload_3 (pc := 59) C dX3_placeAlongPath_59 ?_
        refine jw_iload_4 (pc := 60) C dX3_placeAlongPath_60 ?_
        refine jw_V_V (pc := 62) C (c_X4_move G ad (plS P l r A.rs A.rq i).1 (plS P l r A.rs A.rq i).2 A T F (A.rq i).toNat (A.rs (i + 1)).toNat g1 (by rw [g2.2.2.2.2.1]; omega) (by omega)) wd_X4_move kml_X3_87 1 rfl rfl rfl rfl (Nat.le_of_ble_eq_true rfl) ⟨by decide, by decide⟩ ⟨Nat.zero_le _, Nat.zero_le _⟩ dX3_placeAlongPath_62 rfl (fun u h => ?_)
        subst h
        refine jw_aload_0 (pc := 65) C dX3_placeAlongPath_65 ?_
        refine fg_X3_23 (pc := 66) C 4 rfl rfl dX3_placeAlongPath_66 ?_
        refine jw_iload_3 (pc := 69) C dX3_placeAlongPath_69 ?_
        refine jw_iload_4 (pc := 70) C dX3_placeAlongPath_70 ?_
        refine jw_V_V (pc := 72) C (c_X1_add G ad (pMove (plS P l r A.rs A.rq i).1 (A.rq i).toNat (A.rs (i + 1)).toNat) (plS P l r A.rs A.rq i).2 A T F ((A.rq i).toNat : Int) ((A.rs (i + 1)).toNat : Int) (by rw [g9 hl.1 (by omega)]; omega)) wd_X1_add kml_X3_90 2 rfl rfl rfl rfl (Nat.le_of_ble_eq_true rfl) ⟨by decide, by decide⟩ ⟨Nat.zero_le _, Nat.zero_le _⟩ dX3_placeAlongPath_72 rfl (fun u h => ?_)
        subst h
        rw [show ((A.rq i).toNat : Int) = A.rq i by omega, show ((A.rs (i + 1)).toNat : Int) = A.rs (i + 1) by omega]
        refine jw_iinc_2 (pc := 75) C dX3_placeAlongPath_75 rfl ?_
        refine jw_goto (pc := 78) (tgt := 19) C dX3_placeAlongPath_78 (by decide) ?_
        exact jw_less (ih_19 (i + 1) (by omega) (by omega)) (by repeat (first | exact trivial | refine And.intro rfl ?_))
  exact K19 13 0 (by omega) (by omega)
set_option maxRecDepth 100000 in
set_option maxHeartbeats 4000000 in
theorem c_X3_tryToPlace (G : jG) (ad : Nat → Nat) (P : QP) (l : QL) (A : QA) (T : Nat → Bool) (F : QF) (r : Nat) (hI : PI P) (hr : (r : Int) < P.req) (hw : P.plc r = -1) (hl : 0 ≤ l.sz ∧ l.sz ≤ 195) : CZ G yX3_tryToPlace cX3_tryToPlace 3 (jrm 4 90 0 0) [.ref (ad 4), .int (iI (r : Int))] (wC G ad P l A T F) (fun (z : Bool) (u : QP × QL × QA) => z = (tryS P l r).1 ∧ u.1 = (tryS P l r).2.1 ∧ u.2.1 = (tryS P l r).2.2) (fun u : QP × QL × QA => wC G ad u.1 u.2.1 u.2.2 T F) 0 0 := by
  refine cz_intro (own := RX3) [some (.ref (ad 4)), some (.int (iI (r : Int))), none] (by decide) rfl rfl rfl (Nat.le_of_ble_eq_true rfl) (fun X C hret => ?_)
  have h1 := hI.res
  have h2 := hI.req
  have h3 := hI.pl
  have h4 := hI.grp r
  have h5 := minL_rng P hI (P.acc r)
  refine jw_aload_0 (pc := 0) C dX3_tryToPlace_0 ?_
  refine fg_X3_15 (pc := 1) C 4 rfl rfl dX3_tryToPlace_1 ?_
  refine jw_aload_0 (pc := 4) C dX3_tryToPlace_4 ?_
  refine fg_X3_15 (pc := 5) C 4 rfl rfl dX3_tryToPlace_5 ?_
  refine fg_X3_44 (pc := 8) C 1 rfl rfl dX3_tryToPlace_8 ?_
  refine jw_iload_1 (pc := 11) C dX3_tryToPlace_11 ?_
  refine jw_iald (pc := 12) C 11 rfl _ rfl (by omega) (by decide) dX3_tryToPlace_12 ?_
  rw [show iI (P.grp r) = iI ((P.grp r).toNat : Int) from by rw [Int.toNat_of_nonneg h4.1]]
  refine jw_V_Z (pc := 13) C (c_X4_groupHasRoom G ad P l A T F (P.grp r).toNat (by omega) hI) wd_X4_groupHasRoom kml_X3_58 1 rfl rfl rfl rfl (Nat.le_of_ble_eq_true rfl) ⟨by decide, by decide⟩ ⟨Nat.zero_le _, Nat.zero_le _⟩ dX3_tryToPlace_13 rfl (fun z u h => ?_)
  subst h
  refine jw_if_ne_b (pc := 16) (tgt := 21) C dX3_tryToPlace_16 (by decide) (fun c_16 => ?_) (fun c_16 => ?_)
  · refine jw_aload_0 (pc := 21) C dX3_tryToPlace_21 ?_
    refine fg_X3_19 (pc := 22) C 4 rfl rfl dX3_tryToPlace_22 ?_
    refine jw_iload_1 (pc := 25) C dX3_tryToPlace_25 ?_
    refine jw_V_I (pc := 26) C (c_X2_search G ad P l A T F r (by omega) hI) wd_X2_search kml_X3_61 3 rfl rfl rfl rfl (Nat.le_of_ble_eq_true rfl) ⟨by decide, by decide⟩ ⟨Nat.zero_le _, Nat.zero_le _⟩ dX3_tryToPlace_26 rfl (fun z A2 h => ?_)
    obtain ⟨ha, hb, hc, hd⟩ := h
    subst ha
    refine jw_istore_2 (pc := 29) C dX3_tryToPlace_29 rfl ?_
    refine jw_iload_2 (pc := 30) C dX3_tryToPlace_30 ?_
    refine jw_if_eq (pc := 31) (tgt := 47) C dX3_tryToPlace_31 (by decide) ⟨by omega, by omega⟩ (fun c_31 => ?_) (fun c_31 => ?_)
    · have hz : tryS P l r = (false, P, l) := by rw [tryS, if_neg (fun q => by omega)]
      refine jw_iconst (pc := 47) C dX3_tryToPlace_47 ?_
      exact hret _ _ _ (P, l, A2) dX3_tryToPlace_48 ⟨by rw [hz], by rw [hz], by rw [hz]⟩
    · refine jw_iload_2 (pc := 34) C dX3_tryToPlace_34 ?_
      refine jw_iconst (pc := 35) C dX3_tryToPlace_35 ?_
      refine jw_isub (pc := 36) C dX3_tryToPlace_36 ?_
      refine jw_aload_0 (pc := 37) C dX3_tryToPlace_37 ?_
      refine fg_X3_15 (pc := 38) C 4 rfl rfl dX3_tryToPlace_38 ?_
      refine fg_X3_67 (pc := 41) C 1 rfl rfl dX3_tryToPlace_41 ?_
      refine jw_icmp_le (pc := 44) (tgt := 49) C dX3_tryToPlace_44 (by decide) ⟨by omega, by omega⟩ ⟨by omega, by omega⟩ (fun c_44 => ?_) (fun c_44 => ?_)
      · have hz : tryS P l r = (true, plX P l r) := by rw [tryS, if_pos ⟨of_decide_eq_true c_16, by omega, by omega⟩]
        have hp := (path_ok hI hr hw (by omega)).1
        have hpe : PathOK P r A2.rs A2.rq (minL P (P.acc r)).toNat := by
          obtain ⟨q1, q2, q3, q4, q5, q6, q7, q8⟩ := hp
          have hc2 : ∀ i : Nat, i < (minL P (P.acc r)).toNat → A2.rs i = pA P (minL P (P.acc r)) (fstA P (P.acc r)) i := fun i hi => by
            rw [hc i (by rw [hb]; omega), hb]
          have hd2 : ∀ i : Nat, i + 1 < (minL P (P.acc r)).toNat → A2.rq i = pRq P (minL P (P.acc r)) (fstA P (P.acc r)) i := fun i hi => by
            rw [hd i (by rw [hb]; omega), hb]
          refine ⟨q1, q2, q3, q4, fun i hi => by rw [hc2 i hi]; exact q5 i hi, fun i j hi hj e => q6 i j hi hj (by rw [← hc2 i hi, ← hc2 j hj]; exact e), by rw [hc2 0 (by omega)]; exact q7, fun i hi => ?_⟩
          rw [hd2 i hi, hc2 i (by omega), hc2 (i + 1) hi]
          exact q8 i hi
        have hpo := hpe
        refine jw_aload_0 (pc := 49) C dX3_tryToPlace_49 ?_
        refine jw_iload_1 (pc := 50) C dX3_tryToPlace_50 ?_
        refine jw_V_V (pc := 51) C (c_X3_placeAlongPath G ad P l A2 T F r (minL P (P.acc r)).toNat hI (by rw [hb]; omega) hpo hl (by omega)) wd_X3_placeAlongPath kml_X3_70 4 rfl rfl rfl rfl (Nat.le_of_ble_eq_true rfl) ⟨by decide, by decide⟩ ⟨Nat.zero_le _, Nat.zero_le _⟩ dX3_tryToPlace_51 rfl (fun u h => ?_)
        subst h
        refine jw_iconst (pc := 54) C dX3_tryToPlace_54 ?_
        refine hret _ _ true ((plS P l r A2.rs A2.rq ((minL P (P.acc r)).toNat - 1)).1, (plS P l r A2.rs A2.rq ((minL P (P.acc r)).toNat - 1)).2, A2) dX3_tryToPlace_55 ?_
        have e : plS P l r A2.rs A2.rq ((minL P (P.acc r)).toNat - 1) = plX P l r := plS_congr (fun j hj => by rw [hc j (by rw [hb]; omega), hb]) (fun j hj => by rw [hd j (by rw [hb]; omega), hb])
        rw [hz, e]
        exact ⟨rfl, rfl, rfl⟩
      · have hz : tryS P l r = (false, P, l) := by rw [tryS, if_neg (fun q => by omega)]
        refine jw_iconst (pc := 47) C dX3_tryToPlace_47 ?_
        exact hret _ _ _ (P, l, A2) dX3_tryToPlace_48 ⟨by rw [hz], by rw [hz], by rw [hz]⟩
  · have hz : tryS P l r = (false, P, l) := by rw [tryS, if_neg (fun q => of_decide_eq_false c_16 q.1)]
    refine jw_iconst (pc := 19) C dX3_tryToPlace_19 ?_
    exact hret _ _ _ (P, l, A) dX3_tryToPlace_20 ⟨by rw [hz], by rw [hz], by rw [hz]⟩
set_option maxRecDepth 100000 in
set_option maxHeartbeats 4000000 in
theorem c_X3_runOnce (G : jG) (ad : Nat → Nat) (P : QP) (l : QL) (A : QA) (T : Nat → Bool) (F : QF) (hI : PI P) (hl : l.sz = 0) : CI G yX3_runOnce cX3_runOnce 4 (jrm 5 112 0 0) [.ref (ad 4)] (wC G ad P l A T F) (fun (z : Int32) (u : QP × QL × QA × (Nat → Bool)) => z = iI (runF P.req.toNat P l (fun _ => false) 0).2.2 ∧ u.1 = (runF P.req.toNat P l (fun _ => false) 0).1 ∧ u.2.1 = (runF P.req.toNat P l (fun _ => false) 0).2.1) (fun u : QP × QL × QA × (Nat → Bool) => wC G ad u.1 u.2.1 u.2.2.1 u.2.2.2 F) 0 0 := by
  refine ci_intro (own := RX3) [some (.ref (ad 4)), none, none, none] (by decide) rfl rfl rfl (Nat.le_of_ble_eq_true rfl) (fun X C hret => ?_)
  have h2 := hI.req
  refine jw_iconst (pc := 0) C dX3_runOnce_0 ?_
  refine jw_istore_1 (pc := 1) C dX3_runOnce_1 rfl ?_
  have K2 : ∀ (n_2 : Nat) (i : Nat) (T1 : Nat → Bool), ((i : Int) ≤ P.req) → (∀ j, j < i → T1 j = false) → 40 - i < n_2 → JW G X 0 0 (wC G ad P l A T1 F) 2 [some (.ref (ad 4)), some (.int (iI (i : Int))), none, none] [] := by
    intro n_2
    induction n_2 with
    | zero => intro i T1 hi hf hm_2; exact absurd hm_2 (Nat.not_lt_zero _)
    | succ n_2 ih_2 =>
      intro i T1 hi hf hm_2
      refine jw_iload_1 (pc := 2) C dX3_runOnce_2 ?_
      refine jw_aload_0 (pc := 3) C dX3_runOnce_3 ?_
      refine fg_X3_15 (pc := 4) C 4 rfl rfl dX3_runOnce_4 ?_
      refine fg_X3_27 (pc := 7) C 1 rfl rfl dX3_runOnce_7 ?_
      refine jw_icmp_ge (pc := 10) (tgt := 26) C dX3_runOnce_10 (by decide) ⟨by omega, by omega⟩ ⟨by omega, by omega⟩ (fun c_10 => ?_) (fun c_10 => ?_)
      · refine jw_iconst (pc := 26) C dX3_runOnce_26 ?_
        refine jw_istore_1 (pc := 27) C dX3_runOnce_27 rfl ?_
        refine jw_iconst (pc := 28) C dX3_runOnce_28 ?_
        refine jw_istore_2 (pc := 29) C dX3_runOnce_29 rfl ?_
        have K30 : ∀ (n_30 : Nat) (i2 : Nat) (P2 : QP) (l2 : QL) (A2 : QA) (T2 : Nat → Bool) (c : Int), (PI P2) → (P2.req = P.req) → ((i2 : Int) ≤ P.req) → (0 ≤ l2.sz ∧ l2.sz ≤ 5 * (i2 : Int)) → (runF (P.req.toNat - i2) P2 l2 T2 c = runF P.req.toNat P l (fun _ => false) 0) → 40 - i2 < n_30 → JW G X 0 0 (wC G ad P2 l2 A2 T2 F) 30 [some (.ref (ad 4)), some (.int (iI c)), some (.int (iI (i2 : Int))), none] [] := by
          intro n_30
          induction n_30 with
          | zero => intro i2 P2 l2 A2 T2 c hI2 hq hi2 hs he hm_30; exact absurd hm_30 (Nat.not_lt_zero _)
          | succ n_30 ih_30 =>
            intro i2 P2 l2 A2 T2 c hI2 hq hi2 hs he hm_30
            refine jw_iload_2 (pc := 30) C dX3_runOnce_30 ?_
            refine jw_aload_0 (pc := 31) C dX3_runOnce_31 ?_
            refine fg_X3_15 (pc := 32) C 4 rfl rfl dX3_runOnce_32 ?_
            refine fg_X3_27 (pc := 35) C 1 rfl rfl dX3_runOnce_35 ?_
            refine jw_icmp_ge (pc := 38) (tgt := 78) C dX3_runOnce_38 (by decide) ⟨by omega, by omega⟩ ⟨by omega, by omega⟩ (fun c_38 => ?_) (fun c_38 => ?_)
            · have hfin : (P2, l2, c) = runF P.req.toNat P l (fun _ => false) 0 := by
                rw [← he, show P.req.toNat - i2 = 0 by omega]
                rfl
              refine jw_iload_1 (pc := 78) C dX3_runOnce_78 ?_
              exact hret _ _ _ (P2, l2, A2, T2) dX3_runOnce_79 ⟨by rw [← hfin], by rw [← hfin], by rw [← hfin]⟩
            · refine jw_aload_0 (pc := 41) C dX3_runOnce_41 ?_
              refine jw_V_I (pc := 42) C (c_X3_nextToTry G ad P2 l2 A2 T2 F hI2) wd_X3_nextToTry kml_X3_33 4 rfl rfl rfl rfl (Nat.le_of_ble_eq_true rfl) ⟨by decide, by decide⟩ ⟨Nat.zero_le _, Nat.zero_le _⟩ dX3_runOnce_42 rfl (fun z u h => ?_)
              obtain ⟨x, hx⟩ : ∃ x, x = nxF P2 T2 P2.req.toNat := ⟨_, rfl⟩
              rw [← hx] at h
              subst h
              have hxr : -1 ≤ x ∧ x ≤ 39 := by
                rcases nxF_spec P2 T2 P2.req.toNat with h | ⟨k, k1, k2, k3, k4⟩ <;> omega
              refine jw_istore_3 (pc := 45) C dX3_runOnce_45 rfl ?_
              refine jw_iload_3 (pc := 46) C dX3_runOnce_46 ?_
              refine jw_iconst (pc := 47) C dX3_runOnce_47 ?_
              refine jw_icmp_ne (pc := 48) (tgt := 54) C dX3_runOnce_48 (by decide) ⟨by omega, by omega⟩ ⟨by omega, by omega⟩ (fun c_48 => ?_) (fun c_48 => ?_)
              · obtain ⟨k, k1, k2, k3, k4⟩ : ∃ k : Nat, k < P2.req.toNat ∧ x = (k : Int) ∧ P2.plc k = -1 ∧ T2 k = false := by
                  rcases nxF_spec P2 T2 P2.req.toNat with h | ⟨k, k1, k2, k3, k4⟩
                  · omega
                  · exact ⟨k, k1, by rw [hx]; exact k2, k3, k4⟩
                subst k2
                refine jw_aload_0 (pc := 54) C dX3_runOnce_54 ?_
                refine fg_X3_9 (pc := 55) C 4 rfl rfl dX3_runOnce_55 ?_
                refine jw_iload_3 (pc := 58) C dX3_runOnce_58 ?_
                refine jw_iconst (pc := 59) C dX3_runOnce_59 ?_
                refine jw_zast (pc := 60) (x := true) C 21 rfl _ rfl (by omega) (by decide) dX3_runOnce_60 ?_
                refine jw_aload_0 (pc := 61) C dX3_runOnce_61 ?_
                refine jw_iload_3 (pc := 62) C dX3_runOnce_62 ?_
                refine jw_V_Z (pc := 63) C (c_X3_tryToPlace G ad P2 l2 A2 (updf T2 k true) F k hI2 (by omega) k3 ⟨hs.1, by omega⟩) wd_X3_tryToPlace kml_X3_37 4 rfl rfl rfl rfl (Nat.le_of_ble_eq_true rfl) ⟨by decide, by decide⟩ ⟨Nat.zero_le _, Nat.zero_le _⟩ dX3_runOnce_63 rfl (fun z u h => ?_)
                obtain ⟨hu1, hu2, hu3⟩ := h
                obtain ⟨t1, t2, t3, t4⟩ := tryS_ok (l := l2) hI2 (show (k : Int) < P2.req by omega) k3
                have t5 := t4 hs.1 (by omega)
                obtain ⟨P3, hP3⟩ : ∃ P3, P3 = (tryS P2 l2 k).2.1 := ⟨_, rfl⟩
                have hI3 : PI P3 := by rw [hP3]; exact t1
                rw [← hP3] at hu2
                rw [hu2]
                have hstep : ∀ c3, c3 = c + (if (tryS P2 l2 k).1 then 1 else 0) → runF (P.req.toNat - (i2 + 1)) P3 u.2.1 (updf T2 k true) c3 = runF P.req.toNat P l (fun _ => false) 0 := by
                  intro c3 e3
                  rw [e3, ← he, show P.req.toNat - i2 = (P.req.toNat - (i2 + 1)) + 1 by omega]
                  conv => rhs; rw [runF]
                  rw [← hx, if_neg (show ¬ (k : Int) = -1 by omega), hP3, hu3, show ((k : Int)).toNat = k by omega]
                refine jw_if_eq_b (pc := 66) (tgt := 72) C dX3_runOnce_66 (by decide) (fun c_66 => ?_) (fun c_66 => ?_)
                · obtain ⟨c3, ec3, hc3⟩ : ∃ c3, c3 = c ∧ runF (P.req.toNat - (i2 + 1)) P3 u.2.1 (updf T2 k true) c3 = runF P.req.toNat P l (fun _ => false) 0 := ⟨c, rfl, hstep c (by rw [← hu1, c_66]; simp)⟩
                  rw [← ec3]
                  try rw [← ec3]
                  refine jw_iinc_2 (pc := 72) C dX3_runOnce_72 rfl ?_
                  refine jw_goto (pc := 75) (tgt := 30) C dX3_runOnce_75 (by decide) ?_
                  exact jw_less (ih_30 (i2 + 1) P3 u.2.1 u.2.2 (updf T2 k true) c3 hI3 (by rw [hP3, (tryS_same P2 l2 k).2.2.2.2.1, hq]) (by omega) (by rw [hu3]; omega) hc3 (by omega)) (by repeat (first | exact trivial | refine And.intro rfl ?_))
                · obtain ⟨c3, ec3, hc3⟩ : ∃ c3, c3 = c + 1 ∧ runF (P.req.toNat - (i2 + 1)) P3 u.2.1 (updf T2 k true) c3 = runF P.req.toNat P l (fun _ => false) 0 := ⟨c + 1, rfl, hstep (c + 1) (by rw [← hu1, c_66]; simp)⟩
                  refine jw_iinc_1 (pc := 69) C dX3_runOnce_69 rfl ?_
                  try rw [← ec3]
                  refine jw_iinc_2 (pc := 72) C dX3_runOnce_72 rfl ?_
                  refine jw_goto (pc := 75) (tgt := 30) C dX3_runOnce_75 (by decide) ?_
                  exact jw_less (ih_30 (i2 + 1) P3 u.2.1 u.2.2 (updf T2 k true) c3 hI3 (by rw [hP3, (tryS_same P2 l2 k).2.2.2.2.1, hq]) (by omega) (by rw [hu3]; omega) hc3 (by omega)) (by repeat (first | exact trivial | refine And.intro rfl ?_))
              · have hfin : (P2, l2, c) = runF P.req.toNat P l (fun _ => false) 0 := by
                  rw [← he, show P.req.toNat - i2 = (P.req.toNat - (i2 + 1)) + 1 by omega, runF, ← hx, if_pos c_48]
                refine jw_goto (pc := 51) (tgt := 78) C dX3_runOnce_51 (by decide) ?_
                refine jw_iload_1 (pc := 78) C dX3_runOnce_78 ?_
                exact hret _ _ _ (P2, l2, A2, T2) dX3_runOnce_79 ⟨by rw [← hfin], by rw [← hfin], by rw [← hfin]⟩
        exact K30 41 0 P l A T1 0 hI rfl (by omega) (by omega) (by
          rw [Nat.sub_zero]
          exact runF_congr _ (fun j hj => hf j (by omega)) (fun P2 l2 r => (tryS_same P2 l2 r).2.2.2.2.1)) (by omega)
      · refine jw_aload_0 (pc := 13) C dX3_runOnce_13 ?_
        refine fg_X3_9 (pc := 14) C 4 rfl rfl dX3_runOnce_14 ?_
        refine jw_iload_1 (pc := 17) C dX3_runOnce_17 ?_
        refine jw_iconst (pc := 18) C dX3_runOnce_18 ?_
        refine jw_zast (pc := 19) (x := false) C 21 rfl _ rfl (by omega) (by decide) dX3_runOnce_19 ?_
        refine jw_iinc_1 (pc := 20) C dX3_runOnce_20 rfl ?_
        refine jw_goto (pc := 23) (tgt := 2) C dX3_runOnce_23 (by decide) ?_
        exact ih_2 (i + 1) (updf T1 i false) (by omega) (updf_fill hf) (by omega)
  exact K2 41 0 T (by omega) (fun j hj => absurd hj (Nat.not_lt_zero _)) (by omega)
end
section
/-! what each step of the service keeps: PI, PFe, the log's bounds -/
theorem PI_open {P : QP} {c : Int} (hI : PI P) (h : P.res < 12) (hc : 0 ≤ c ∧ c ≤ 4) : PI (pOpen P c) := by
  obtain ⟨⟨h1, h2, h3, h4, h5, h6, h7, h8, h9, h10, h11, h12⟩, h13, h14⟩ := hI
  refine ⟨⟨?_, h2, h3, h4, fun i => ?_, h6, h7, h8, h9, h10, h11, fun i hi => ?_⟩, h13, h14⟩
  · show 0 ≤ P.res + 1 ∧ P.res + 1 ≤ 12
    omega
  · show 0 ≤ updf P.cap P.res.toNat c i ∧ updf P.cap P.res.toNat c i ≤ 4
    by_cases e : i = P.res.toNat
    · rw [e, updf_same]; exact hc
    · rw [updf_ne _ _ e]; exact h5 i
  · show P.plc i < P.res + 1
    have := h12 i hi
    omega
theorem PI_admit {P : QP} {g : Int} {m : Int32} (hI : PI P) (h : P.req < 40) (hg : 0 ≤ g ∧ g ≤ 3) : PI (pAdmit P g m) := by
  obtain ⟨⟨h1, h2, h3, h4, h5, h6, h7, h8, h9, h10, h11, h12⟩, h13, h14⟩ := hI
  have e0 : (P.req + 1).toNat = P.req.toNat + 1 := by omega
  refine ⟨⟨h1, ?_, h3, h4, h5, h6, h7, h8, fun i => ?_, fun i => ?_, h11, fun i hi => ?_⟩, fun a => ?_, fun b => ?_⟩
  · show 0 ≤ P.req + 1 ∧ P.req + 1 ≤ 40
    omega
  · show 0 ≤ updf P.grp P.req.toNat g i ∧ updf P.grp P.req.toNat g i ≤ 3
    by_cases e : i = P.req.toNat
    · rw [e, updf_same]; exact hg
    · rw [updf_ne _ _ e]; exact h9 i
  · show -2 ≤ updf P.plc P.req.toNat (-1) i ∧ updf P.plc P.req.toNat (-1) i ≤ 11
    by_cases e : i = P.req.toNat
    · rw [e, updf_same]; omega
    · rw [updf_ne _ _ e]; exact h10 i
  · show updf P.plc P.req.toNat (-1) i < P.res
    by_cases e : i = P.req.toNat
    · rw [e, updf_same]; omega
    · have hi2 : (i : Int) < P.req + 1 := hi
      rw [updf_ne _ _ e]; exact h12 i (by omega)
  · show P.load a = cntF (fun x => decide (updf P.plc P.req.toNat (-1) x = (a : Int))) (P.req + 1).toNat
    rw [e0, h13 a]
    simp only [cntF, updf_same]
    have e1 : decide ((-1 : Int) = (a : Int)) = false := by simp <;> omega
    rw [e1, cntF_congr (p := fun x => decide (P.plc x = (a : Int))) (q := fun x => decide (updf P.plc P.req.toNat (-1) x = (a : Int))) (fun j hj => by simp only [updf_ne _ _ (Nat.ne_of_lt hj)])]
    simp
  · show P.asg b = cntF (fun x => decide (0 ≤ updf P.plc P.req.toNat (-1) x ∧ updf P.grp P.req.toNat g x = (b : Int))) (P.req + 1).toNat
    rw [e0, h14 b]
    simp only [cntF, updf_same]
    have e1 : decide (0 ≤ (-1 : Int) ∧ g = (b : Int)) = false := by simp
    rw [e1, cntF_congr (p := fun x => decide (0 ≤ P.plc x ∧ P.grp x = (b : Int))) (q := fun x => decide (0 ≤ updf P.plc P.req.toNat (-1) x ∧ updf P.grp P.req.toNat g x = (b : Int))) (fun j hj => by simp only [updf_ne _ _ (Nat.ne_of_lt hj)])]
    simp
theorem PI_gone {P : QP} {r : Nat} (hI : PI P) (h : P.plc r < 0) : PI (pGone P r) := by
  obtain ⟨⟨h1, h2, h3, h4, h5, h6, h7, h8, h9, h10, h11, h12⟩, h13, h14⟩ := hI
  refine ⟨⟨h1, h2, h3, h4, h5, h6, h7, h8, h9, fun i => ?_, h11, fun i hi => ?_⟩, fun a => ?_, fun b => ?_⟩
  · show -2 ≤ updf P.plc r (-2) i ∧ updf P.plc r (-2) i ≤ 11
    by_cases e : i = r
    · rw [e, updf_same]; omega
    · rw [updf_ne _ _ e]; exact h10 i
  · show updf P.plc r (-2) i < P.res
    by_cases e : i = r
    · rw [e, updf_same]; omega
    · rw [updf_ne _ _ e]; exact h12 i hi
  · show P.load a = cntF (fun x => decide (updf P.plc r (-2) x = (a : Int))) P.req.toNat
    rw [h13 a]
    refine (cntF_congr fun j _ => ?_).symm
    by_cases e : j = r
    · rw [e, updf_same, decide_eq_false (by omega), decide_eq_false (by omega)]
    · rw [updf_ne _ _ e]
  · show P.asg b = cntF (fun x => decide (0 ≤ updf P.plc r (-2) x ∧ P.grp x = (b : Int))) P.req.toNat
    rw [h14 b]
    refine (cntF_congr fun j _ => ?_).symm
    by_cases e : j = r
    · rw [e, updf_same, decide_eq_false (by omega), decide_eq_false (by omega)]
    · rw [updf_ne _ _ e]
theorem PI_dismiss {P : QP} {r : Nat} (hI : PI P) (hr : (r : Int) < P.req) : PI (pDismiss P r) := PI_gone (PI_put hI hr) (pPut_plc P r)
theorem PI_mask {P : QP} {r : Nat} {m : Int32} (hI : PI P) : PI (pMask P r m) := hI
theorem PI_accept {P : QP} {r : Nat} {m : Int32} (hI : PI P) (hr : (r : Int) < P.req) : PI (pAccept P r m) := by
  unfold pAccept
  split
  · exact PI_put (PI_mask hI) hr
  · exact PI_mask hI
theorem PI_cap {P : QP} {a : Nat} {c : Int} (hI : PI P) (hc : 0 ≤ c ∧ c ≤ 4) : PI (pCap P a c) := by
  obtain ⟨⟨h1, h2, h3, h4, h5, h6, h7, h8, h9, h10, h11, h12⟩, h13, h14⟩ := hI
  refine ⟨⟨h1, h2, h3, h4, fun i => ?_, h6, h7, h8, h9, h10, h11, h12⟩, h13, h14⟩
  show 0 ≤ updf P.cap a c i ∧ updf P.cap a c i ≤ 4
  by_cases e : i = a
  · rw [e, updf_same]; exact hc
  · rw [updf_ne _ _ e]; exact h5 i
theorem PI_grp {P : QP} {g : Nat} {q w : Int} (hI : PI P) (hq : 0 ≤ q ∧ q ≤ 40) (hw : 1 ≤ w ∧ w ≤ 10) : PI (pGrp P g q w) := by
  obtain ⟨⟨h1, h2, h3, h4, h5, h6, h7, h8, h9, h10, h11, h12⟩, h13, h14⟩ := hI
  refine ⟨⟨h1, h2, h3, h4, h5, fun i => ?_, fun i => ?_, fun i hi => ?_, h9, h10, h11, h12⟩, h13, h14⟩
  · show 0 ≤ updf P.quo g q i ∧ updf P.quo g q i ≤ 40
    by_cases e : i = g
    · rw [e, updf_same]; exact hq
    · rw [updf_ne _ _ e]; exact h6 i
  · show 0 ≤ updf P.wei g w i ∧ updf P.wei g w i ≤ 10
    by_cases e : i = g
    · rw [e, updf_same]; omega
    · rw [updf_ne _ _ e]; exact h7 i
  · show 1 ≤ updf P.wei g w i
    by_cases e : i = g
    · rw [e, updf_same]; omega
    · rw [updf_ne _ _ e]; exact h8 i hi
theorem PI_lim {P : QP} {x y : Int} (hI : PI P) (hx : 0 ≤ x ∧ x ≤ 5) (hy : 0 ≤ y ∧ y ≤ 20) : PI (pLim P x y) := by
  obtain ⟨⟨h1, h2, h3, h4, h5, h6, h7, h8, h9, h10, h11, h12⟩, h13, h14⟩ := hI
  exact ⟨⟨h1, h2, hx, hy, h5, h6, h7, h8, h9, h10, h11, h12⟩, h13, h14⟩
/-- some requests put back -/
def Less (P Q : QP) : Prop := (Q.res = P.res ∧ Q.cap = P.cap ∧ Q.quo = P.quo ∧ Q.wei = P.wei ∧ Q.req = P.req ∧ Q.grp = P.grp ∧ Q.acc = P.acc ∧ Q.mov = P.mov ∧ Q.pl = P.pl ∧ Q.ml = P.ml) ∧ (∀ b, Q.load b ≤ P.load b) ∧ (∀ g, Q.asg g ≤ P.asg g) ∧ ∀ x, Q.plc x = P.plc x ∨ (Q.plc x = -1 ∧ 0 ≤ P.plc x)
theorem Less.rf (P : QP) : Less P P := ⟨⟨rfl, rfl, rfl, rfl, rfl, rfl, rfl, rfl, rfl, rfl⟩, fun _ => Int.le_refl _, fun _ => Int.le_refl _, fun _ => Or.inl rfl⟩
theorem Less.tr {P Q S : QP} (h : Less P Q) (g : Less Q S) : Less P S := by
  obtain ⟨⟨a1, a2, a3, a4, a5, a6, a7, a8, a9, a10⟩, h2, h3, h4⟩ := h
  obtain ⟨⟨b1, b2, b3, b4, b5, b6, b7, b8, b9, b10⟩, g2, g3, g4⟩ := g
  refine ⟨⟨b1.trans a1, b2.trans a2, b3.trans a3, b4.trans a4, b5.trans a5, b6.trans a6, b7.trans a7, b8.trans a8, b9.trans a9, b10.trans a10⟩, fun b => Int.le_trans (g2 b) (h2 b), fun b => Int.le_trans (g3 b) (h3 b), fun x => ?_⟩
  rcases g4 x with e | ⟨e, e2⟩
  · rw [e]; exact h4 x
  · rcases h4 x with f | ⟨f, f2⟩
    · exact Or.inr ⟨e, f ▸ e2⟩
    · exact Or.inr ⟨e, f2⟩
theorem Less_put (P : QP) (r : Nat) : Less P (pPut P r) := by
  by_cases h : 0 ≤ P.plc r
  · rw [pPut_pos h]
    refine ⟨⟨rfl, rfl, rfl, rfl, rfl, rfl, rfl, rfl, rfl, rfl⟩, fun b => ?_, fun b => ?_, fun x => ?_⟩
    · show updf P.load (P.plc r).toNat (P.load (P.plc r).toNat - 1) b ≤ P.load b
      by_cases e : b = (P.plc r).toNat
      · rw [e, updf_same]; omega
      · rw [updf_ne _ _ e]; exact Int.le_refl _
    · show updf P.asg (P.grp r).toNat (P.asg (P.grp r).toNat - 1) b ≤ P.asg b
      by_cases e : b = (P.grp r).toNat
      · rw [e, updf_same]; omega
      · rw [updf_ne _ _ e]; exact Int.le_refl _
    · show updf P.plc r (-1) x = P.plc x ∨ (updf P.plc r (-1) x = -1 ∧ 0 ≤ P.plc x)
      by_cases e : x = r
      · rw [e, updf_same]; exact Or.inr ⟨rfl, h⟩
      · rw [updf_ne _ _ e]; exact Or.inl rfl
  · rw [pPut_neg h]; exact Less.rf P
theorem Less.fa {P Q : QP} (h : Less P Q) (hF : PFa P) : PFa Q := by
  obtain ⟨⟨a1, a2, a3, a4, a5, a6, a7, a8, a9, a10⟩, h2, h3, h4⟩ := h
  intro x hx hp
  rw [a5] at hx
  rw [a7]
  rcases h4 x with e | ⟨e, e2⟩
  · rw [e] at hp ⊢; exact hF x hx hp
  · omega
theorem Less.fe {P Q : QP} (h : Less P Q) (hF : PFe P) : PFe Q := by
  obtain ⟨f1, f2, f3, f4⟩ := hF
  have h0 := h.fa f3
  obtain ⟨⟨a1, a2, a3, a4, a5, a6, a7, a8, a9, a10⟩, h2, h3, h4⟩ := h
  refine ⟨fun a ha => ?_, fun g hg => ?_, h0, fun r hr j hj hb => ?_⟩
  · rw [a1] at ha; rw [a2]; exact Int.le_trans (h2 a) (f1 a ha)
  · rw [a3]; exact Int.le_trans (h3 g) (f2 g hg)
  · rw [a5] at hr; rw [a7] at hb; rw [a1]; exact f4 r hr j hj hb
theorem backC_ok (a : Nat) : ∀ (k : Nat) (P : QP) (c : Int), PI P → (k : Int) ≤ P.req → 0 ≤ c → PI (pBackC a k P c).1 ∧ Less P (pBackC a k P c).1 ∧ 0 ≤ (pBackC a k P c).2 ∧ (pBackC a k P c).2 ≤ c + k ∧ ((∀ j : Nat, k ≤ j → (j : Int) < P.req → P.plc j ≠ (a : Int)) → 0 ≤ P.cap a → (pBackC a k P c).1.load a ≤ P.cap a)
  | 0, P, c, hI, hk, hc => ⟨hI, Less.rf P, hc, by show c ≤ c + 0; omega, fun h h0 => by
      show P.load a ≤ P.cap a
      rw [hI.2.1 a, cntF_congr (p := fun _ => false) (q := fun r => decide (P.plc r = (a : Int))) (fun j hj => decide_eq_false (h j (Nat.zero_le j) (by omega)))]
      have : ∀ n, cntF (fun _ => false) n = 0 := fun n => by
        induction n with
        | zero => rfl
        | succ n ih => simp [cntF, ih]
      rw [this]; exact h0⟩
  | k + 1, P, c, hI, hk, hc => by
    simp only [pBackC]
    split
    · rename_i h
      exact ⟨hI, Less.rf P, hc, by show c ≤ c + ((k + 1 : Nat) : Int); omega, fun _ _ => h⟩
    · split
      · rename_i h1 h2
        obtain ⟨g1, g2, g3, g4, g5⟩ := backC_ok a k (pPut P k) (c + 1) (PI_put hI (by omega)) (by rw [pPut_req]; omega) (by omega)
        refine ⟨g1, (Less_put P k).tr g2, g3, by omega, fun h h0 => ?_⟩
        rw [pPut_req, pPut_cap] at g5
        refine g5 (fun j hj hj2 => ?_) h0
        by_cases e : j = k
        · rw [e]; have := pPut_plc P k; omega
        · rcases (Less_put P k).2.2.2 j with e2 | ⟨e2, -⟩
          · rw [e2]; exact h j (by omega) hj2
          · omega
      · rename_i h1 h2
        obtain ⟨g1, g2, g3, g4, g5⟩ := backC_ok a k P c hI (by omega) hc
        refine ⟨g1, g2, g3, by omega, fun h h0 => g5 (fun j hj hj2 => ?_) h0⟩
        by_cases e : j = k
        · rw [e]; exact h2
        · exact h j (by omega) hj2
theorem backQ_ok (g : Nat) : ∀ (k : Nat) (P : QP) (c : Int), PI P → (k : Int) ≤ P.req → 0 ≤ c → PI (pBackQ g k P c).1 ∧ Less P (pBackQ g k P c).1 ∧ 0 ≤ (pBackQ g k P c).2 ∧ (pBackQ g k P c).2 ≤ c + k ∧ ((∀ j : Nat, k ≤ j → (j : Int) < P.req → ¬ (P.grp j = (g : Int) ∧ 0 ≤ P.plc j)) → 0 ≤ P.quo g → (pBackQ g k P c).1.asg g ≤ P.quo g)
  | 0, P, c, hI, hk, hc => ⟨hI, Less.rf P, hc, by show c ≤ c + 0; omega, fun h h0 => by
      show P.asg g ≤ P.quo g
      rw [hI.2.2 g, cntF_congr (p := fun _ => false) (q := fun r => decide (0 ≤ P.plc r ∧ P.grp r = (g : Int))) (fun j hj => decide_eq_false (fun q => h j (Nat.zero_le j) (by omega) ⟨q.2, q.1⟩))]
      have : ∀ n, cntF (fun _ => false) n = 0 := fun n => by
        induction n with
        | zero => rfl
        | succ n ih => simp [cntF, ih]
      rw [this]; exact h0⟩
  | k + 1, P, c, hI, hk, hc => by
    simp only [pBackQ]
    split
    · rename_i h
      exact ⟨hI, Less.rf P, hc, by show c ≤ c + ((k + 1 : Nat) : Int); omega, fun _ _ => h⟩
    · split
      · rename_i h1 h2
        obtain ⟨g1, g2, g3, g4, g5⟩ := backQ_ok g k (pPut P k) (c + 1) (PI_put hI (by omega)) (by rw [pPut_req]; omega) (by omega)
        refine ⟨g1, (Less_put P k).tr g2, g3, by omega, fun h h0 => ?_⟩
        rw [pPut_req, pPut_quo, pPut_grp] at g5
        refine g5 (fun j hj hj2 => ?_) h0
        by_cases e : j = k
        · rw [e]; have := pPut_plc P k; exact fun q => by omega
        · rcases (Less_put P k).2.2.2 j with e2 | ⟨e2, -⟩
          · rw [e2]; exact h j (by omega) hj2
          · exact fun q => by omega
      · rename_i h1 h2
        obtain ⟨g1, g2, g3, g4, g5⟩ := backQ_ok g k P c hI (by omega) hc
        refine ⟨g1, g2, g3, by omega, fun h h0 => g5 (fun j hj hj2 => ?_) h0⟩
        by_cases e : j = k
        · rw [e]; exact h2
        · exact h j (by omega) hj2
theorem tryS_fe {P : QP} {l : QL} {r : Nat} (hI : PI P) (hr : (r : Int) < P.req) (hw : P.plc r = -1) (hF : PFe P) : PFe (tryS P l r).2.1 := by
  unfold tryS
  split
  · rename_i h
    obtain ⟨h1, h2, h3⟩ := h
    obtain ⟨hp, a, ha1, ha2⟩ := path_ok hI hr hw h2
    obtain ⟨g1, g2, g3, g4, g5, g6, g7, g8, g9⟩ := plS_ok (l := l) hI hp ((minL P (P.acc r)).toNat - 1) (by omega)
    rw [ha1] at g6
    obtain ⟨f1, f2, f3, f4⟩ := hF
    obtain ⟨b1, b2, b3, b4, b5, b6, b7, b8, b9⟩ := g2
    show PFe (plX P l r).1
    unfold plX
    refine ⟨fun b hb => ?_, fun g hg => ?_, g8 f3, fun x hx j hj hb => ?_⟩
    · rw [b1] at hb
      rw [b2, g6 b]
      have := f1 b hb
      split
      · rename_i e
        have e2 : a = b := by omega
        subst e2
        omega
      · omega
    · rw [b3, g7 g]
      have := f2 g hg
      split
      · rename_i e
        rw [e] at h1
        have e2 : ((g : Int)).toNat = g := by omega
        rw [e2] at h1
        omega
      · omega
    · rw [b5] at hx
      rw [b7] at hb
      rw [b1]
      exact f4 x hx j hj hb
  · exact hF
theorem runF_ok : ∀ (n : Nat) (P : QP) (l : QL) (T : Nat → Bool) (c : Int), PI P → 0 ≤ l.sz → l.sz + 5 * n ≤ 200 → 0 ≤ c → PI (runF n P l T c).1 ∧ SameQ P (runF n P l T c).1 ∧ (PFe P → PFe (runF n P l T c).1) ∧ (0 ≤ (runF n P l T c).2.1.sz ∧ (runF n P l T c).2.1.sz ≤ 200) ∧ (0 ≤ (runF n P l T c).2.2 ∧ (runF n P l T c).2.2 ≤ c + n)
  | 0, P, l, T, c, hI, h0, h1, hc => ⟨hI, SameQ.rf P, fun h => h, ⟨h0, by show l.sz ≤ 200; omega⟩, ⟨hc, by show c ≤ c + 0; omega⟩⟩
  | n + 1, P, l, T, c, hI, h0, h1, hc => by
    simp only [runF]
    split
    · exact ⟨hI, SameQ.rf P, fun h => h, ⟨h0, by show l.sz ≤ 200; omega⟩, ⟨hc, by show c ≤ c + ((n + 1 : Nat) : Int); omega⟩⟩
    · rename_i hn
      rcases nxF_spec P T P.req.toNat with e | ⟨k, e1, e2, e3, e4⟩
      · exact absurd e hn
      · have ek : (nxF P T P.req.toNat).toNat = k := by omega
        rw [ek]
        have hk : (k : Int) < P.req := by omega
        obtain ⟨g1, g2, g3, g4⟩ := tryS_ok (l := l) hI hk e3
        have g5 := tryS_same P l k
        have g6 := fun h => tryS_fe (l := l) hI hk e3 h
        obtain ⟨g7, g8⟩ := g4 h0 (by omega)
        generalize tryS P l k = t at g1 g2 g3 g5 g6 g7 g8 ⊢
        obtain ⟨z, P2, l2⟩ := t
        simp only at g1 g2 g3 g5 g6 g7 g8 ⊢
        obtain ⟨i1, i2, i3, i4, i5⟩ := runF_ok n P2 l2 (updf T k true) (c + if z = true then 1 else 0) g1 (by omega) (by omega) (by split <;> omega)
        refine ⟨i1, g5.tr i2, fun h => i3 (g6 h), i4, i5.1, ?_⟩
        have := i5.2
        split at this
        · simp_all; omega
        · simp_all; omega
end
section
/-! the service's state and its steps -/
def SV (P : QP) (l : QL) : Prop := PI P ∧ PFe P ∧ 0 ≤ l.sz ∧ l.sz ≤ 200
/-- a mask that names only resources that are -/
def mOK (P : QP) (m : Int32) : Prop := ¬ (m < 0) ∧ m &&& (maskAll P.res ^^^ iI (-1)) = 0
theorem mOK_bits {P : QP} {m : Int32} (hI : PI P) (h : mOK P m) : ∀ j, j < 32 → bt m j = true → (j : Int) < P.res := by
  intro j hj hb
  have h1 := b_and0.mp h.2 j hj
  rw [hb, b_not hj, maskAll_bt hI hj, Bool.true_and] at h1
  by_cases e : (j : Int) < P.res
  · exact e
  · rw [decide_eq_false e] at h1; cases h1
/-- all waiting requests tried once, the log anew -/
def rn (P : QP) (l : QL) : QP × QL × Int := runF P.req.toNat P (l.1, l.2.1, 0) (fun _ => false) 0
theorem rn_ok {P : QP} {l : QL} (hI : PI P) (hF : PFe P) : SV (rn P l).1 (rn P l).2.1 ∧ SameQ P (rn P l).1 ∧ 0 ≤ (rn P l).2.2 ∧ (rn P l).2.2 ≤ 40 := by
  have hr := hI.req
  obtain ⟨h1, h2, h3, h4, h5⟩ := runF_ok P.req.toNat P (l.1, l.2.1, 0) (fun _ => false) 0 hI (Int.le_refl 0) (by show (0 : Int) + 5 * (P.req.toNat : Int) ≤ 200; omega) (Int.le_refl 0)
  exact ⟨⟨h1, h3 hF, h4.1, h4.2⟩, h2, h5.1, by have := h5.2; show (runF P.req.toNat P (l.1, l.2.1, 0) (fun _ => false) 0).2.2 ≤ 40; omega⟩
theorem cnt0 {p : Nat → Bool} : ∀ n, (∀ j, j < n → p j = false) → cntF p n = 0
  | 0, _ => rfl
  | n + 1, h => by
    simp only [cntF]
    rw [cnt0 n (fun j hj => h j (by omega)), h n (by omega)]
    rfl
theorem PFe_open {P : QP} {c : Int} (hI : PI P) (hF : PFe P) (hc : 0 ≤ c) : PFe (pOpen P c) := by
  obtain ⟨f1, f2, f3, f4⟩ := hF
  have hr := hI.res
  refine ⟨fun a ha => ?_, f2, f3, fun r hr j hj hb => ?_⟩
  · show P.load a ≤ updf P.cap P.res.toNat c a
    have ha2 : (a : Int) < P.res + 1 := ha
    by_cases e : a = P.res.toNat
    · rw [e, updf_same, hI.2.1, cnt0 _ (fun j hj => decide_eq_false (by have := hI.plr j (by omega); omega))]
      exact hc
    · rw [updf_ne _ _ e]; exact f1 a (by omega)
  · have := f4 r hr j hj hb
    show (j : Int) < P.res + 1
    omega
theorem PFe_admit {P : QP} {g : Int} {m : Int32} (hI : PI P) (hF : PFe P) (hm : mOK P m) : PFe (pAdmit P g m) := by
  obtain ⟨f1, f2, f3, f4⟩ := hF
  have hr := hI.req
  refine ⟨f1, f2, fun x hx hp => ?_, fun r hr2 j hj hb => ?_⟩
  · have hx2 : (x : Int) < P.req + 1 := hx
    have hp2 : 0 ≤ updf P.plc P.req.toNat (-1) x := hp
    show bt (updf P.acc P.req.toNat m x) (updf P.plc P.req.toNat (-1) x).toNat = true
    by_cases e : x = P.req.toNat
    · rw [e, updf_same] at hp2; omega
    · rw [updf_ne _ _ e] at hp2 ⊢
      rw [updf_ne _ _ e]
      exact f3 x (by omega) hp2
  · have hx2 : (r : Int) < P.req + 1 := hr2
    have hb2 : bt (updf P.acc P.req.toNat m r) j = true := hb
    by_cases e : r = P.req.toNat
    · rw [e, updf_same] at hb2; exact mOK_bits hI hm j hj hb2
    · rw [updf_ne _ _ e] at hb2; exact f4 r (by omega) j hj hb2
theorem PFe_dismiss {P : QP} {r : Nat} (hF : PFe P) : PFe (pDismiss P r) := by
  obtain ⟨f1, f2, f3, f4⟩ := (Less_put P r).fe hF
  refine ⟨f1, f2, fun x hx hp => ?_, f4⟩
  have hp2 : 0 ≤ updf (pPut P r).plc r (-2) x := hp
  show bt ((pPut P r).acc x) (updf (pPut P r).plc r (-2) x).toNat = true
  by_cases e : x = r
  · rw [e, updf_same] at hp2; omega
  · rw [updf_ne _ _ e] at hp2 ⊢
    exact f3 x hx hp2
theorem PFe_accept {P : QP} {r : Nat} {m : Int32} (hI : PI P) (hF : PFe P) (hm : mOK P m) : PFe (pAccept P r m) := by
  obtain ⟨f1, f2, f3, f4⟩ := hF
  have hpl := hI.plc r
  have h4 : ∀ x : Nat, (x : Int) < P.req → ∀ j, j < 32 → bt (updf P.acc r m x) j = true → (j : Int) < P.res := fun x hx j hj hb => by
    by_cases e : x = r
    · rw [e, updf_same] at hb; exact mOK_bits hI hm j hj hb
    · rw [updf_ne _ _ e] at hb; exact f4 x hx j hj hb
  unfold pAccept
  split
  · rename_i h
    have L := Less_put (pMask P r m) r
    have hq : (pPut (pMask P r m) r).plc r < 0 := pPut_plc _ r
    obtain ⟨⟨a1, a2, a3, a4, a5, a6, a7, a8, a9, a10⟩, h2, h3, h5⟩ := L
    refine ⟨fun a ha => ?_, fun g hg => ?_, fun x hx hp => ?_, fun x hx j hj hb => ?_⟩
    · rw [a1] at ha; rw [a2]; exact Int.le_trans (h2 a) (f1 a ha)
    · rw [a3]; exact Int.le_trans (h3 g) (f2 g hg)
    · rw [a5] at hx
      rw [a7]
      show bt (updf P.acc r m x) _ = true
      by_cases e : x = r
      · rw [e] at hp; omega
      · rw [updf_ne _ _ e]
        rcases h5 x with e2 | ⟨e2, e3⟩
        · rw [e2] at hp ⊢; exact f3 x hx hp
        · omega
    · rw [a5] at hx; rw [a7] at hb; rw [a1]; exact h4 x hx j hj hb
  · rename_i h
    refine ⟨f1, f2, fun x hx hp => ?_, h4⟩
    show bt (updf P.acc r m x) (P.plc x).toNat = true
    have hp2 : 0 ≤ P.plc x := hp
    by_cases e : x = r
    · rw [e] at hp2 ⊢
      rw [updf_same]
      cases hb : bitB m (P.plc r).toNat
      · exact absurd ⟨hp2, hb⟩ h
      · rw [← bitB_bt m (by omega)]; exact hb
    · rw [updf_ne _ _ e]; exact f3 x hx hp2
theorem PFe_backC {P : QP} {a : Nat} {c : Int} (hI : PI P) (hF : PFe P) (hc : 0 ≤ c ∧ c ≤ 4) : PFe (pBackC a P.req.toNat (pCap P a c) 0).1 := by
  obtain ⟨f1, f2, f3, f4⟩ := hF
  have hr := hI.req
  obtain ⟨g1, L, g3, g4, g5⟩ := backC_ok a P.req.toNat (pCap P a c) 0 (PI_cap hI hc) (by show (P.req.toNat : Int) ≤ P.req; omega) (Int.le_refl 0)
  have L3 := L.fa (P := pCap P a c) f3
  have g6 := g5 (fun j hj hj2 => by have hj3 : (j : Int) < P.req := hj2; omega) (by show 0 ≤ updf P.cap a c a; rw [updf_same]; exact hc.1)
  obtain ⟨⟨a1, a2, a3, a4, a5, a6, a7, a8, a9, a10⟩, h2, h3, h4⟩ := L
  refine ⟨fun b hb => ?_, fun g hg => ?_, L3, fun x hx j hj hb => ?_⟩
  · rw [a1] at hb; rw [a2]
    by_cases e : b = a
    · rw [e]; exact g6
    · have := h2 b
      have h9 : P.load b ≤ P.cap b := f1 b hb
      show _ ≤ updf P.cap a c b
      rw [updf_ne _ _ e]
      exact Int.le_trans this h9
  · rw [a3]; exact Int.le_trans (h3 g) (f2 g hg)
  · rw [a5] at hx; rw [a7] at hb; rw [a1]; exact f4 x hx j hj hb
theorem PFe_backQ {P : QP} {g : Nat} {q w : Int} (hI : PI P) (hF : PFe P) (hq : 0 ≤ q ∧ q ≤ 40) (hw : 1 ≤ w ∧ w ≤ 10) : PFe (pBackQ g P.req.toNat (pGrp P g q w) 0).1 := by
  obtain ⟨f1, f2, f3, f4⟩ := hF
  have hr := hI.req
  obtain ⟨g1, L, g3, g4, g5⟩ := backQ_ok g P.req.toNat (pGrp P g q w) 0 (PI_grp hI hq hw) (by show (P.req.toNat : Int) ≤ P.req; omega) (Int.le_refl 0)
  have L3 := L.fa (P := pGrp P g q w) f3
  have g6 := g5 (fun j hj hj2 => by have hj3 : (j : Int) < P.req := hj2; omega) (by show 0 ≤ updf P.quo g q g; rw [updf_same]; exact hq.1)
  obtain ⟨⟨a1, a2, a3, a4, a5, a6, a7, a8, a9, a10⟩, h2, h3, h4⟩ := L
  refine ⟨fun b hb => ?_, fun b hb => ?_, L3, fun x hx j hj hb => ?_⟩
  · rw [a1] at hb; rw [a2]; exact Int.le_trans (h2 b) (f1 b hb)
  · rw [a3]
    by_cases e : b = g
    · rw [e]; exact g6
    · have := h3 b
      have h9 : P.asg b ≤ P.quo b := f2 b hb
      show _ ≤ updf P.quo g q b
      rw [updf_ne _ _ e]
      exact Int.le_trans this h9
  · rw [a5] at hx; rw [a7] at hb; rw [a1]; exact f4 x hx j hj hb
theorem PI_backC {P : QP} {a : Nat} {c : Int} (hI : PI P) (hc : 0 ≤ c ∧ c ≤ 4) : PI (pBackC a P.req.toNat (pCap P a c) 0).1 ∧ 0 ≤ (pBackC a P.req.toNat (pCap P a c) 0).2 ∧ (pBackC a P.req.toNat (pCap P a c) 0).2 ≤ 40 := by
  have hr := hI.req
  obtain ⟨g1, L, g3, g4, g5⟩ := backC_ok a P.req.toNat (pCap P a c) 0 (PI_cap hI hc) (by show (P.req.toNat : Int) ≤ P.req; omega) (Int.le_refl 0)
  exact ⟨g1, g3, by omega⟩
theorem PI_backQ {P : QP} {g : Nat} {q w : Int} (hI : PI P) (hq : 0 ≤ q ∧ q ≤ 40) (hw : 1 ≤ w ∧ w ≤ 10) : PI (pBackQ g P.req.toNat (pGrp P g q w) 0).1 ∧ 0 ≤ (pBackQ g P.req.toNat (pGrp P g q w) 0).2 ∧ (pBackQ g P.req.toNat (pGrp P g q w) 0).2 ≤ 40 := by
  have hr := hI.req
  obtain ⟨g1, L, g3, g4, g5⟩ := backQ_ok g P.req.toNat (pGrp P g q w) 0 (PI_grp hI hq hw) (by show (P.req.toNat : Int) ≤ P.req; omega) (Int.le_refl 0)
  exact ⟨g1, g3, by omega⟩
end
section
/-! a link that gen_links leaves out: the method's name is read off the tables -/
theorem wd_X4_admit : jWd yX4_admit RX4 cX4_admit 4 (some .int) 2 := ⟨kim_X4_admit, kse_X4_admit, kini_X4, kco_X4_admit, by decide +kernel⟩
end
section
set_option maxRecDepth 100000 in
set_option maxHeartbeats 4000000 in
theorem c_X5_requireRequest (G : jG) (ad : Nat → Nat) (P : QP) (l : QL) (A : QA) (T : Nat → Bool) (F : QF) (hI : PI P) (a : Nat) (ha : (a : Int) < P.req) : CV G yX5_requireRequest cX5_requireRequest 2 (jrm 1 22 0 0) [.ref (ad 0), .int (iI (a : Int))] (wC G ad P l A T F) (fun _ : Unit => True) (fun _ : Unit => wC G ad P l A T F) 0 0 := by
  refine cv_intro (own := RX5) [some (.ref (ad 0)), some (.int (iI (a : Int)))] (by decide) rfl rfl rfl (Nat.le_of_ble_eq_true rfl) (fun X C hret => ?_)
  have h1 := hI.res
  have h2 := hI.req
  refine jw_iload_1 (pc := 0) C dX5_requireRequest_0 ?_
  refine jw_iconst (pc := 1) C dX5_requireRequest_1 ?_
  refine jw_aload_0 (pc := 2) C dX5_requireRequest_2 ?_
  refine fg_X5_10 (pc := 3) C 0 rfl rfl dX5_requireRequest_3 ?_
  refine fg_X5_119 (pc := 6) C 1 rfl rfl dX5_requireRequest_6 ?_
  refine jw_iconst (pc := 9) C dX5_requireRequest_9 ?_
  refine jw_isub (pc := 10) C dX5_requireRequest_10 ?_
  refine jw_S0_Z (pc := 11) C (c_X5_isWithin G ((a : Int)) (0) (P.req - 1) ⟨by omega, by omega⟩ ⟨by omega, by omega⟩ ⟨by omega, by omega⟩) ws_X5_isWithin kml_X5_48 rfl rfl (Nat.le_of_ble_eq_true rfl) ⟨by decide, by decide⟩ ⟨Nat.zero_le _, Nat.zero_le _⟩ dX5_requireRequest_11 rfl (fun z u h => ?_)
  subst h
  refine jw_if_ne_b (pc := 14) (tgt := 27) C dX5_requireRequest_14 (by decide) (fun c_14 => ?_) (fun c_14 => ?_)
  · exact hret _ _ () dX5_requireRequest_27 trivial
  · exact absurd (of_decide_eq_false c_14) (fun q => q ⟨by omega, by omega⟩)
set_option maxRecDepth 100000 in
set_option maxHeartbeats 4000000 in
theorem c_X5_requireLogged (G : jG) (ad : Nat → Nat) (P : QP) (l : QL) (A : QA) (T : Nat → Bool) (F : QF) (hl : 0 ≤ l.sz ∧ l.sz ≤ 200) (a : Nat) (ha : (a : Int) < l.sz) : CV G yX5_requireLogged cX5_requireLogged 2 (jrm 1 22 0 0) [.ref (ad 0), .int (iI (a : Int))] (wC G ad P l A T F) (fun _ : Unit => True) (fun _ : Unit => wC G ad P l A T F) 0 0 := by
  refine cv_intro (own := RX5) [some (.ref (ad 0)), some (.int (iI (a : Int)))] (by decide) rfl rfl rfl (Nat.le_of_ble_eq_true rfl) (fun X C hret => ?_)
  refine jw_iload_1 (pc := 0) C dX5_requireLogged_0 ?_
  refine jw_iconst (pc := 1) C dX5_requireLogged_1 ?_
  refine jw_aload_0 (pc := 2) C dX5_requireLogged_2 ?_
  refine fg_X5_19 (pc := 3) C 0 rfl rfl dX5_requireLogged_3 ?_
  refine fg_X5_174 (pc := 6) C 2 rfl rfl dX5_requireLogged_6 ?_
  refine jw_iconst (pc := 9) C dX5_requireLogged_9 ?_
  refine jw_isub (pc := 10) C dX5_requireLogged_10 ?_
  refine jw_S0_Z (pc := 11) C (c_X5_isWithin G ((a : Int)) (0) (l.sz - 1) ⟨by omega, by omega⟩ ⟨by omega, by omega⟩ ⟨by omega, by omega⟩) ws_X5_isWithin kml_X5_48 rfl rfl (Nat.le_of_ble_eq_true rfl) ⟨by decide, by decide⟩ ⟨Nat.zero_le _, Nat.zero_le _⟩ dX5_requireLogged_11 rfl (fun z u h => ?_)
  subst h
  refine jw_if_ne_b (pc := 14) (tgt := 27) C dX5_requireLogged_14 (by decide) (fun c_14 => ?_) (fun c_14 => ?_)
  · exact hret _ _ () dX5_requireLogged_27 trivial
  · exact absurd (of_decide_eq_false c_14) (fun q => q ⟨by omega, by omega⟩)
set_option maxRecDepth 100000 in
set_option maxHeartbeats 4000000 in
theorem c_X5_requireGroup (G : jG) (ad : Nat → Nat) (P : QP) (l : QL) (A : QA) (T : Nat → Bool) (F : QF) (a : Nat) (ha : (a : Int) < 4) : CV G yX5_requireGroup cX5_requireGroup 2 (jrm 1 22 0 0) [.ref (ad 0), .int (iI (a : Int))] (wC G ad P l A T F) (fun _ : Unit => True) (fun _ : Unit => wC G ad P l A T F) 0 0 := by
  refine cv_intro (own := RX5) [some (.ref (ad 0)), some (.int (iI (a : Int)))] (by decide) rfl rfl rfl (Nat.le_of_ble_eq_true rfl) (fun X C hret => ?_)
  refine jw_iload_1 (pc := 0) C dX5_requireGroup_0 ?_
  refine jw_iconst (pc := 1) C dX5_requireGroup_1 ?_
  refine jw_iconst (pc := 2) C dX5_requireGroup_2 ?_
  refine jw_S0_Z (pc := 3) C (c_X5_isWithin G ((a : Int)) (0) (3) ⟨by omega, by omega⟩ ⟨by omega, by omega⟩ ⟨by omega, by omega⟩) ws_X5_isWithin kml_X5_48 rfl rfl (Nat.le_of_ble_eq_true rfl) ⟨by decide, by decide⟩ ⟨Nat.zero_le _, Nat.zero_le _⟩ dX5_requireGroup_3 rfl (fun z u h => ?_)
  subst h
  refine jw_if_ne_b (pc := 6) (tgt := 19) C dX5_requireGroup_6 (by decide) (fun c_6 => ?_) (fun c_6 => ?_)
  · exact hret _ _ () dX5_requireGroup_19 trivial
  · exact absurd (of_decide_eq_false c_6) (fun q => q ⟨by omega, by omega⟩)
set_option maxRecDepth 100000 in
set_option maxHeartbeats 4000000 in
theorem c_X5_requirePresent (G : jG) (ad : Nat → Nat) (P : QP) (l : QL) (A : QA) (T : Nat → Bool) (F : QF) (hI : PI P) (r : Nat) (hr : (r : Int) < P.req) (hd : P.plc r ≠ -2) : CV G yX5_requirePresent cX5_requirePresent 2 (jrm 2 43 0 0) [.ref (ad 0), .int (iI (r : Int))] (wC G ad P l A T F) (fun _ : Unit => True) (fun _ : Unit => wC G ad P l A T F) 0 0 := by
  refine cv_intro (own := RX5) [some (.ref (ad 0)), some (.int (iI (r : Int)))] (by decide) rfl rfl rfl (Nat.le_of_ble_eq_true rfl) (fun X C hret => ?_)
  have h1 := hI.res
  have h2 := hI.req
  refine jw_aload_0 (pc := 0) C dX5_requirePresent_0 ?_
  refine jw_iload_1 (pc := 1) C dX5_requirePresent_1 ?_
  refine jw_V_V (pc := 2) C (c_X5_requireRequest G ad P l A T F hI r hr) wd_X5_requireRequest kml_X5_157 0 rfl rfl rfl rfl (Nat.le_of_ble_eq_true rfl) ⟨by decide, by decide⟩ ⟨Nat.zero_le _, Nat.zero_le _⟩ dX5_requirePresent_2 rfl (fun u h => ?_)
  refine jw_aload_0 (pc := 5) C dX5_requirePresent_5 ?_
  refine fg_X5_10 (pc := 6) C 0 rfl rfl dX5_requirePresent_6 ?_
  refine jw_iload_1 (pc := 9) C dX5_requirePresent_9 ?_
  refine jw_V_Z (pc := 10) C (c_X4_isDeparted G ad P l A T F r (by omega) hI) wd_X4_isDeparted kml_X5_197 1 rfl rfl rfl rfl (Nat.le_of_ble_eq_true rfl) ⟨by decide, by decide⟩ ⟨Nat.zero_le _, Nat.zero_le _⟩ dX5_requirePresent_10 rfl (fun z u h => ?_)
  subst h
  refine jw_if_eq_b (pc := 13) (tgt := 26) C dX5_requirePresent_13 (by decide) (fun c_13 => ?_) (fun c_13 => ?_)
  · exact hret _ _ () dX5_requirePresent_26 trivial
  · exact absurd (of_decide_eq_true c_13) hd
set_option maxRecDepth 100000 in
set_option maxHeartbeats 4000000 in
theorem c_X5_requireMask (G : jG) (ad : Nat → Nat) (P : QP) (l : QL) (A : QA) (T : Nat → Bool) (F : QF) (m : Int32) (hm : mOK P m) : CV G yX5_requireMask cX5_requireMask 2 (jrm 1 20 0 0) [.ref (ad 0), .int m] (wC G ad P l A T F) (fun _ : Unit => True) (fun _ : Unit => wC G ad P l A T F) 0 0 := by
  refine cv_intro (own := RX5) [some (.ref (ad 0)), some (.int m)] (by decide) rfl rfl rfl (Nat.le_of_ble_eq_true rfl) (fun X C hret => ?_)
  refine jw_iload_1 (pc := 0) C dX5_requireMask_0 ?_
  refine jw_if_lt_r (pc := 1) (tgt := 18) C dX5_requireMask_1 (by decide) (fun c_1 => ?_) (fun c_1 => ?_)
  · exact absurd c_1 hm.1
  · refine jw_iload_1 (pc := 4) C dX5_requireMask_4 ?_
    refine jw_aload_0 (pc := 5) C dX5_requireMask_5 ?_
    refine fg_X5_10 (pc := 6) C 0 rfl rfl dX5_requireMask_6 ?_
    refine jw_V_I (pc := 9) C (c_X4_maskOfAll G ad P l A T F) wd_X4_maskOfAll kml_X5_219 1 rfl rfl rfl rfl (Nat.le_of_ble_eq_true rfl) ⟨by decide, by decide⟩ ⟨Nat.zero_le _, Nat.zero_le _⟩ dX5_requireMask_9 rfl (fun z u h => ?_)
    subst h
    refine jw_iconst (pc := 12) C dX5_requireMask_12 ?_
    refine jw_ixor (pc := 13) C dX5_requireMask_13 ?_
    refine jw_iand (pc := 14) C dX5_requireMask_14 ?_
    refine jw_if_eq_r (pc := 15) (tgt := 28) C dX5_requireMask_15 (by decide) (fun c_15 => ?_) (fun c_15 => ?_)
    · exact hret _ _ () dX5_requireMask_28 trivial
    · exact absurd hm.2 c_15
set_option maxRecDepth 100000 in
set_option maxHeartbeats 4000000 in
theorem c_X5_addResource (G : jG) (ad : Nat → Nat) (P : QP) (l : QL) (A : QA) (T : Nat → Bool) (F : QF) (hI : PI P) (hF : PFe P) (c : Int) (hc : 0 ≤ c ∧ c ≤ 4) (hr : P.res < 12) : CI G yX5_addResource cX5_addResource 3 (jrm 6 135 0 0) [.ref (ad 0), .int (iI c)] (wC G ad P l A T F) (fun (z : Int32) (u : QP × QL × QA × (Nat → Bool)) => z = iI P.res ∧ u.1 = (rn (pOpen P c) l).1 ∧ u.2.1 = (rn (pOpen P c) l).2.1) (fun u : QP × QL × QA × (Nat → Bool) => wC G ad u.1 u.2.1 u.2.2.1 u.2.2.2 F) 0 0 := by
  refine ci_intro (own := RX5) [some (.ref (ad 0)), some (.int (iI c)), none] (by decide) rfl rfl rfl (Nat.le_of_ble_eq_true rfl) (fun X C hret => ?_)
  have h1 := hI.res
  have h2 := hI.req
  refine jw_iload_1 (pc := 0) C dX5_addResource_0 ?_
  refine jw_iconst (pc := 1) C dX5_addResource_1 ?_
  refine jw_iconst (pc := 2) C dX5_addResource_2 ?_
  refine jw_S0_Z (pc := 3) C (c_X5_isWithin G (c) (0) (4) ⟨by omega, by omega⟩ ⟨by omega, by omega⟩ ⟨by omega, by omega⟩) ws_X5_isWithin kml_X5_48 rfl rfl (Nat.le_of_ble_eq_true rfl) ⟨by decide, by decide⟩ ⟨Nat.zero_le _, Nat.zero_le _⟩ dX5_addResource_3 rfl (fun z u h => ?_)
  subst h
  refine jw_if_ne_b (pc := 6) (tgt := 19) C dX5_addResource_6 (by decide) (fun c_6 => ?_) (fun c_6 => ?_)
  · refine jw_aload_0 (pc := 19) C dX5_addResource_19 ?_
    refine fg_X5_10 (pc := 20) C 0 rfl rfl dX5_addResource_20 ?_
    refine fg_X5_59 (pc := 23) C 1 rfl rfl dX5_addResource_23 ?_
    refine jw_bipush (pc := 26) C dX5_addResource_26 (by decide) ?_
    refine jw_icmp_lt (pc := 28) (tgt := 41) C dX5_addResource_28 (by decide) ⟨by omega, by omega⟩ ⟨by omega, by omega⟩ (fun c_28 => ?_) (fun c_28 => ?_)
    · refine jw_aload_0 (pc := 41) C dX5_addResource_41 ?_
      refine fg_X5_19 (pc := 42) C 0 rfl rfl dX5_addResource_42 ?_
      refine jw_V_V (pc := 45) C (c_X1_clear G ad P l A T F) wd_X1_clear kml_X5_68 2 rfl rfl rfl rfl (Nat.le_of_ble_eq_true rfl) ⟨by decide, by decide⟩ ⟨Nat.zero_le _, Nat.zero_le _⟩ dX5_addResource_45 rfl (fun u1 h => ?_)
      subst h
      refine jw_aload_0 (pc := 48) C dX5_addResource_48 ?_
      refine fg_X5_10 (pc := 49) C 0 rfl rfl dX5_addResource_49 ?_
      refine jw_iload_1 (pc := 52) C dX5_addResource_52 ?_
      refine jw_V_I (pc := 53) C (c_X4_openResource G ad P (l.1, l.2.1, 0) A T F c hI hr) wd_X4_openResource kml_X5_71 1 rfl rfl rfl rfl (Nat.le_of_ble_eq_true rfl) ⟨by decide, by decide⟩ ⟨Nat.zero_le _, Nat.zero_le _⟩ dX5_addResource_53 rfl (fun z2 u2 h2 => ?_)
      obtain ⟨e1, e2⟩ := h2
      subst e1
      subst e2
      refine jw_istore_2 (pc := 56) C dX5_addResource_56 rfl ?_
      refine jw_aload_0 (pc := 57) C dX5_addResource_57 ?_
      refine fg_X5_37 (pc := 58) C 0 rfl rfl dX5_addResource_58 ?_
      refine jw_V_I (pc := 61) C (c_X3_runOnce G ad (pOpen P c) (l.1, l.2.1, 0) A T F (PI_open hI hr hc) rfl) wd_X3_runOnce kml_X5_75 4 rfl rfl rfl rfl (Nat.le_of_ble_eq_true rfl) ⟨by decide, by decide⟩ ⟨Nat.zero_le _, Nat.zero_le _⟩ dX5_addResource_61 rfl (fun z9 u9 h9 => ?_)
      refine jw_pop (pc := 64) C dX5_addResource_64 rfl ?_
      refine jw_iload_2 (pc := 65) C dX5_addResource_65 ?_
      exact hret _ _ _ u9 dX5_addResource_66 ⟨rfl, h9.2⟩
    · exact absurd hr (by omega)
  · exact absurd (of_decide_eq_false c_6) (fun q => q ⟨by omega, by omega⟩)
set_option maxRecDepth 100000 in
set_option maxHeartbeats 4000000 in
theorem c_X5_setGroup (G : jG) (ad : Nat → Nat) (P : QP) (l : QL) (A : QA) (T : Nat → Bool) (F : QF) (hI : PI P) (hF : PFe P) (a : Nat) (ha : (a : Int) < 4) (q : Int) (hq : 0 ≤ q ∧ q ≤ 40) (v : Int) (hv : 1 ≤ v ∧ v ≤ 10) : CI G yX5_setGroup cX5_setGroup 5 (jrm 6 135 0 0) [.ref (ad 0), .int (iI (a : Int)), .int (iI q), .int (iI v)] (wC G ad P l A T F) (fun (z : Int32) (u : QP × QL × QA × (Nat → Bool)) => z = iI (pBackQ a P.req.toNat (pGrp P a q v) 0).2 ∧ u.1 = (rn (pBackQ a P.req.toNat (pGrp P a q v) 0).1 l).1 ∧ u.2.1 = (rn (pBackQ a P.req.toNat (pGrp P a q v) 0).1 l).2.1) (fun u : QP × QL × QA × (Nat → Bool) => wC G ad u.1 u.2.1 u.2.2.1 u.2.2.2 F) 0 0 := by
  refine ci_intro (own := RX5) [some (.ref (ad 0)), some (.int (iI (a : Int))), some (.int (iI q)), some (.int (iI v)), none] (by decide) rfl rfl rfl (Nat.le_of_ble_eq_true rfl) (fun X C hret => ?_)
  have h1 := hI.res
  have h2 := hI.req
  refine jw_aload_0 (pc := 0) C dX5_setGroup_0 ?_
  refine jw_iload_1 (pc := 1) C dX5_setGroup_1 ?_
  refine jw_V_V (pc := 2) C (c_X5_requireGroup G ad P l A T F a ha) wd_X5_requireGroup kml_X5_90 0 rfl rfl rfl rfl (Nat.le_of_ble_eq_true rfl) ⟨by decide, by decide⟩ ⟨Nat.zero_le _, Nat.zero_le _⟩ dX5_setGroup_2 rfl (fun u h => ?_)
  refine jw_iload_2 (pc := 5) C dX5_setGroup_5 ?_
  refine jw_iconst (pc := 6) C dX5_setGroup_6 ?_
  refine jw_bipush (pc := 7) C dX5_setGroup_7 (by decide) ?_
  refine jw_S0_Z (pc := 9) C (c_X5_isWithin G (q) (0) (40) ⟨by omega, by omega⟩ ⟨by omega, by omega⟩ ⟨by omega, by omega⟩) ws_X5_isWithin kml_X5_48 rfl rfl (Nat.le_of_ble_eq_true rfl) ⟨by decide, by decide⟩ ⟨Nat.zero_le _, Nat.zero_le _⟩ dX5_setGroup_9 rfl (fun z u h => ?_)
  subst h
  refine jw_if_ne_b (pc := 12) (tgt := 25) C dX5_setGroup_12 (by decide) (fun c_12 => ?_) (fun c_12 => ?_)
  · refine jw_iload_3 (pc := 25) C dX5_setGroup_25 ?_
    refine jw_iconst (pc := 26) C dX5_setGroup_26 ?_
    refine jw_bipush (pc := 27) C dX5_setGroup_27 (by decide) ?_
    refine jw_S0_Z (pc := 29) C (c_X5_isWithin G (v) (1) (10) ⟨by omega, by omega⟩ ⟨by omega, by omega⟩ ⟨by omega, by omega⟩) ws_X5_isWithin kml_X5_48 rfl rfl (Nat.le_of_ble_eq_true rfl) ⟨by decide, by decide⟩ ⟨Nat.zero_le _, Nat.zero_le _⟩ dX5_setGroup_29 rfl (fun z u h => ?_)
    subst h
    refine jw_if_ne_b (pc := 32) (tgt := 45) C dX5_setGroup_32 (by decide) (fun c_32 => ?_) (fun c_32 => ?_)
    · refine jw_aload_0 (pc := 45) C dX5_setGroup_45 ?_
      refine fg_X5_19 (pc := 46) C 0 rfl rfl dX5_setGroup_46 ?_
      refine jw_V_V (pc := 49) C (c_X1_clear G ad P l A T F) wd_X1_clear kml_X5_68 2 rfl rfl rfl rfl (Nat.le_of_ble_eq_true rfl) ⟨by decide, by decide⟩ ⟨Nat.zero_le _, Nat.zero_le _⟩ dX5_setGroup_49 rfl (fun u1 h => ?_)
      subst h
      refine jw_aload_0 (pc := 52) C dX5_setGroup_52 ?_
      refine fg_X5_10 (pc := 53) C 0 rfl rfl dX5_setGroup_53 ?_
      refine fg_X5_97 (pc := 56) C 1 rfl rfl dX5_setGroup_56 ?_
      refine jw_iload_1 (pc := 59) C dX5_setGroup_59 ?_
      refine jw_iload_2 (pc := 60) C dX5_setGroup_60 ?_
      refine jw_iast (pc := 61) C 8 rfl a rfl (by omega) (by decide) dX5_setGroup_61 ?_
      refine jw_aload_0 (pc := 62) C dX5_setGroup_62 ?_
      refine fg_X5_10 (pc := 63) C 0 rfl rfl dX5_setGroup_63 ?_
      refine fg_X5_100 (pc := 66) C 1 rfl rfl dX5_setGroup_66 ?_
      refine jw_iload_1 (pc := 69) C dX5_setGroup_69 ?_
      refine jw_iload_3 (pc := 70) C dX5_setGroup_70 ?_
      refine jw_iast (pc := 71) C 9 rfl a rfl (by omega) (by decide) dX5_setGroup_71 ?_
      refine jw_aload_0 (pc := 72) C dX5_setGroup_72 ?_
      refine fg_X5_10 (pc := 73) C 0 rfl rfl dX5_setGroup_73 ?_
      refine jw_iload_1 (pc := 76) C dX5_setGroup_76 ?_
      refine jw_V_I (pc := 77) C (c_X4_putBackBeyondQuota G ad (pGrp P a q v) (l.1, l.2.1, 0) A T F a (by omega) (PI_grp hI hq hv)) wd_X4_putBackBeyondQuota kml_X5_103 1 rfl rfl rfl rfl (Nat.le_of_ble_eq_true rfl) ⟨by decide, by decide⟩ ⟨Nat.zero_le _, Nat.zero_le _⟩ dX5_setGroup_77 rfl (fun z2 u2 h2 => ?_)
      obtain ⟨e1, e2⟩ := h2
      subst e1
      subst e2
      refine jw_istore_4 (pc := 80) C dX5_setGroup_80 rfl ?_
      refine jw_aload_0 (pc := 82) C dX5_setGroup_82 ?_
      refine fg_X5_37 (pc := 83) C 0 rfl rfl dX5_setGroup_83 ?_
      refine jw_V_I (pc := 86) C (c_X3_runOnce G ad (pBackQ a P.req.toNat (pGrp P a q v) 0).1 (l.1, l.2.1, 0) A T F (PI_backQ hI hq hv).1 rfl) wd_X3_runOnce kml_X5_75 4 rfl rfl rfl rfl (Nat.le_of_ble_eq_true rfl) ⟨by decide, by decide⟩ ⟨Nat.zero_le _, Nat.zero_le _⟩ dX5_setGroup_86 rfl (fun z9 u9 h9 => ?_)
      refine jw_pop (pc := 89) C dX5_setGroup_89 rfl ?_
      refine jw_iload_4 (pc := 90) C dX5_setGroup_90 ?_
      exact hret _ _ _ u9 dX5_setGroup_92 ⟨rfl, h9.2⟩
    · exact absurd (of_decide_eq_false c_32) (fun q => q ⟨by omega, by omega⟩)
  · exact absurd (of_decide_eq_false c_12) (fun q => q ⟨by omega, by omega⟩)
set_option maxRecDepth 100000 in
set_option maxHeartbeats 4000000 in
theorem c_X5_setLimits (G : jG) (ad : Nat → Nat) (P : QP) (l : QL) (A : QA) (T : Nat → Bool) (F : QF) (hI : PI P) (hF : PFe P) (x : Int) (hx : 0 ≤ x ∧ x ≤ 5) (y : Int) (hy : 0 ≤ y ∧ y ≤ 20) : CI G yX5_setLimits cX5_setLimits 3 (jrm 6 135 0 0) [.ref (ad 0), .int (iI x), .int (iI y)] (wC G ad P l A T F) (fun (z : Int32) (u : QP × QL × QA × (Nat → Bool)) => z = iI (rn (pLim P x y) l).2.2 ∧ u.1 = (rn (pLim P x y) l).1 ∧ u.2.1 = (rn (pLim P x y) l).2.1) (fun u : QP × QL × QA × (Nat → Bool) => wC G ad u.1 u.2.1 u.2.2.1 u.2.2.2 F) 0 0 := by
  refine ci_intro (own := RX5) [some (.ref (ad 0)), some (.int (iI x)), some (.int (iI y))] (by decide) rfl rfl rfl (Nat.le_of_ble_eq_true rfl) (fun X C hret => ?_)
  have h1 := hI.res
  have h2 := hI.req
  refine jw_iload_1 (pc := 0) C dX5_setLimits_0 ?_
  refine jw_iconst (pc := 1) C dX5_setLimits_1 ?_
  refine jw_iconst (pc := 2) C dX5_setLimits_2 ?_
  refine jw_S0_Z (pc := 3) C (c_X5_isWithin G (x) (0) (5) ⟨by omega, by omega⟩ ⟨by omega, by omega⟩ ⟨by omega, by omega⟩) ws_X5_isWithin kml_X5_48 rfl rfl (Nat.le_of_ble_eq_true rfl) ⟨by decide, by decide⟩ ⟨Nat.zero_le _, Nat.zero_le _⟩ dX5_setLimits_3 rfl (fun z u h => ?_)
  subst h
  refine jw_if_ne_b (pc := 6) (tgt := 19) C dX5_setLimits_6 (by decide) (fun c_6 => ?_) (fun c_6 => ?_)
  · refine jw_iload_2 (pc := 19) C dX5_setLimits_19 ?_
    refine jw_iconst (pc := 20) C dX5_setLimits_20 ?_
    refine jw_bipush (pc := 21) C dX5_setLimits_21 (by decide) ?_
    refine jw_S0_Z (pc := 23) C (c_X5_isWithin G (y) (0) (20) ⟨by omega, by omega⟩ ⟨by omega, by omega⟩ ⟨by omega, by omega⟩) ws_X5_isWithin kml_X5_48 rfl rfl (Nat.le_of_ble_eq_true rfl) ⟨by decide, by decide⟩ ⟨Nat.zero_le _, Nat.zero_le _⟩ dX5_setLimits_23 rfl (fun z u h => ?_)
    subst h
    refine jw_if_ne_b (pc := 26) (tgt := 39) C dX5_setLimits_26 (by decide) (fun c_26 => ?_) (fun c_26 => ?_)
    · refine jw_aload_0 (pc := 39) C dX5_setLimits_39 ?_
      refine fg_X5_19 (pc := 40) C 0 rfl rfl dX5_setLimits_40 ?_
      refine jw_V_V (pc := 43) C (c_X1_clear G ad P l A T F) wd_X1_clear kml_X5_68 2 rfl rfl rfl rfl (Nat.le_of_ble_eq_true rfl) ⟨by decide, by decide⟩ ⟨Nat.zero_le _, Nat.zero_le _⟩ dX5_setLimits_43 rfl (fun u1 h => ?_)
      subst h
      refine jw_aload_0 (pc := 46) C dX5_setLimits_46 ?_
      refine fg_X5_10 (pc := 47) C 0 rfl rfl dX5_setLimits_47 ?_
      refine jw_iload_1 (pc := 50) C dX5_setLimits_50 ?_
      refine fp_X5_110 (pc := 51) C 1 rfl (Nat.le_of_ble_eq_true rfl) dX5_setLimits_51 ?_
      refine jw_aload_0 (pc := 54) C dX5_setLimits_54 ?_
      refine fg_X5_10 (pc := 55) C 0 rfl rfl dX5_setLimits_55 ?_
      refine jw_iload_2 (pc := 58) C dX5_setLimits_58 ?_
      refine fp_X5_113 (pc := 59) C 1 rfl (Nat.le_of_ble_eq_true rfl) dX5_setLimits_59 ?_
      refine jw_aload_0 (pc := 62) C dX5_setLimits_62 ?_
      refine fg_X5_37 (pc := 63) C 0 rfl rfl dX5_setLimits_63 ?_
      refine jw_V_I (pc := 66) C (c_X3_runOnce G ad (pLim P x y) (l.1, l.2.1, 0) A T F (PI_lim hI hx hy) rfl) wd_X3_runOnce kml_X5_75 4 rfl rfl rfl rfl (Nat.le_of_ble_eq_true rfl) ⟨by decide, by decide⟩ ⟨Nat.zero_le _, Nat.zero_le _⟩ dX5_setLimits_66 rfl (fun z9 u9 h9 => ?_)
      exact hret _ _ _ u9 dX5_setLimits_69 h9
    · exact absurd (of_decide_eq_false c_26) (fun q => q ⟨by omega, by omega⟩)
  · exact absurd (of_decide_eq_false c_6) (fun q => q ⟨by omega, by omega⟩)
set_option maxRecDepth 100000 in
set_option maxHeartbeats 4000000 in
theorem c_X5_arrive (G : jG) (ad : Nat → Nat) (P : QP) (l : QL) (A : QA) (T : Nat → Bool) (F : QF) (hI : PI P) (hF : PFe P) (a : Nat) (ha : (a : Int) < 4) (m : Int32) (hm : mOK P m) (hq : P.req < 40) : CI G yX5_arrive cX5_arrive 4 (jrm 5 112 0 0) [.ref (ad 0), .int (iI (a : Int)), .int m] (wC G ad P l A T F) (fun (z : Int32) (u : QP × QL × QA) => z = iI P.req ∧ u.1 = (tryS (pAdmit P (a : Int) m) (l.1, l.2.1, 0) P.req.toNat).2.1 ∧ u.2.1 = (tryS (pAdmit P (a : Int) m) (l.1, l.2.1, 0) P.req.toNat).2.2) (fun u : QP × QL × QA => wC G ad u.1 u.2.1 u.2.2 T F) 0 0 := by
  refine ci_intro (own := RX5) [some (.ref (ad 0)), some (.int (iI (a : Int))), some (.int m), none] (by decide) rfl rfl rfl (Nat.le_of_ble_eq_true rfl) (fun X C hret => ?_)
  have h1 := hI.res
  have h2 := hI.req
  refine jw_aload_0 (pc := 0) C dX5_arrive_0 ?_
  refine jw_iload_1 (pc := 1) C dX5_arrive_1 ?_
  refine jw_V_V (pc := 2) C (c_X5_requireGroup G ad P l A T F a ha) wd_X5_requireGroup kml_X5_90 0 rfl rfl rfl rfl (Nat.le_of_ble_eq_true rfl) ⟨by decide, by decide⟩ ⟨Nat.zero_le _, Nat.zero_le _⟩ dX5_arrive_2 rfl (fun u h => ?_)
  refine jw_aload_0 (pc := 5) C dX5_arrive_5 ?_
  refine jw_iload_2 (pc := 6) C dX5_arrive_6 ?_
  refine jw_V_V (pc := 7) C (c_X5_requireMask G ad P l A T F m hm) wd_X5_requireMask kml_X5_116 0 rfl rfl rfl rfl (Nat.le_of_ble_eq_true rfl) ⟨by decide, by decide⟩ ⟨Nat.zero_le _, Nat.zero_le _⟩ dX5_arrive_7 rfl (fun u h => ?_)
  refine jw_aload_0 (pc := 10) C dX5_arrive_10 ?_
  refine fg_X5_10 (pc := 11) C 0 rfl rfl dX5_arrive_11 ?_
  refine fg_X5_119 (pc := 14) C 1 rfl rfl dX5_arrive_14 ?_
  refine jw_bipush (pc := 17) C dX5_arrive_17 (by decide) ?_
  refine jw_icmp_lt (pc := 19) (tgt := 32) C dX5_arrive_19 (by decide) ⟨by omega, by omega⟩ ⟨by omega, by omega⟩ (fun c_19 => ?_) (fun c_19 => ?_)
  · refine jw_aload_0 (pc := 32) C dX5_arrive_32 ?_
    refine fg_X5_19 (pc := 33) C 0 rfl rfl dX5_arrive_33 ?_
    refine jw_V_V (pc := 36) C (c_X1_clear G ad P l A T F) wd_X1_clear kml_X5_68 2 rfl rfl rfl rfl (Nat.le_of_ble_eq_true rfl) ⟨by decide, by decide⟩ ⟨Nat.zero_le _, Nat.zero_le _⟩ dX5_arrive_36 rfl (fun u1 h => ?_)
    subst h
    refine jw_aload_0 (pc := 39) C dX5_arrive_39 ?_
    refine fg_X5_10 (pc := 40) C 0 rfl rfl dX5_arrive_40 ?_
    refine jw_iload_1 (pc := 43) C dX5_arrive_43 ?_
    refine jw_iload_2 (pc := 44) C dX5_arrive_44 ?_
    refine jw_V_I (pc := 45) C (c_X4_admit G ad P (l.1, l.2.1, 0) A T F (a : Int) m hI hq) wd_X4_admit kml_X5_124 1 rfl rfl rfl rfl (Nat.le_of_ble_eq_true rfl) ⟨by decide, by decide⟩ ⟨Nat.zero_le _, Nat.zero_le _⟩ dX5_arrive_45 rfl (fun z2 u2 h2 => ?_)
    obtain ⟨e1, e2⟩ := h2
    subst e1
    subst e2
    refine jw_istore_3 (pc := 48) C dX5_arrive_48 rfl ?_
    refine jw_aload_0 (pc := 49) C dX5_arrive_49 ?_
    refine fg_X5_37 (pc := 50) C 0 rfl rfl dX5_arrive_50 ?_
    refine jw_iload_3 (pc := 53) C dX5_arrive_53 ?_
    rw [show iI P.req = iI ((P.req.toNat : Nat) : Int) from by rw [Int.toNat_of_nonneg h2.1]]
    refine jw_V_Z (pc := 54) C (c_X3_tryToPlace G ad (pAdmit P (a : Int) m) (l.1, l.2.1, 0) A T F P.req.toNat (PI_admit hI hq ⟨by omega, by omega⟩) (by show ((P.req.toNat : Nat) : Int) < P.req + 1; omega) (updf_same _ _ _) ⟨Int.le_refl 0, (by decide : (0 : Int) ≤ 195)⟩) wd_X3_tryToPlace kml_X5_128 4 rfl rfl rfl rfl (Nat.le_of_ble_eq_true rfl) ⟨by decide, by decide⟩ ⟨Nat.zero_le _, Nat.zero_le _⟩ dX5_arrive_54 rfl (fun z9 u9 h9 => ?_)
    refine jw_pop (pc := 57) C dX5_arrive_57 rfl ?_
    refine jw_iload_3 (pc := 58) C dX5_arrive_58 ?_
    exact hret _ _ _ u9 dX5_arrive_59 ⟨by rw [Int.toNat_of_nonneg h2.1], h9.2⟩
  · exact absurd hq (by omega)
set_option maxRecDepth 100000 in
set_option maxHeartbeats 4000000 in
theorem c_X5_depart (G : jG) (ad : Nat → Nat) (P : QP) (l : QL) (A : QA) (T : Nat → Bool) (F : QF) (hI : PI P) (r : Nat) (hr : (r : Int) < P.req) (hF : PFe P) (hd : P.plc r ≠ -2) : CI G yX5_depart cX5_depart 2 (jrm 6 135 0 0) [.ref (ad 0), .int (iI (r : Int))] (wC G ad P l A T F) (fun (z : Int32) (u : QP × QL × QA × (Nat → Bool)) => z = iI (rn (pDismiss P r) l).2.2 ∧ u.1 = (rn (pDismiss P r) l).1 ∧ u.2.1 = (rn (pDismiss P r) l).2.1) (fun u : QP × QL × QA × (Nat → Bool) => wC G ad u.1 u.2.1 u.2.2.1 u.2.2.2 F) 0 0 := by
  refine ci_intro (own := RX5) [some (.ref (ad 0)), some (.int (iI (r : Int)))] (by decide) rfl rfl rfl (Nat.le_of_ble_eq_true rfl) (fun X C hret => ?_)
  have h1 := hI.res
  have h2 := hI.req
  refine jw_aload_0 (pc := 0) C dX5_depart_0 ?_
  refine jw_iload_1 (pc := 1) C dX5_depart_1 ?_
  refine jw_V_V (pc := 2) C (c_X5_requirePresent G ad P l A T F hI r hr hd) wd_X5_requirePresent kml_X5_132 0 rfl rfl rfl rfl (Nat.le_of_ble_eq_true rfl) ⟨by decide, by decide⟩ ⟨Nat.zero_le _, Nat.zero_le _⟩ dX5_depart_2 rfl (fun u h => ?_)
  refine jw_aload_0 (pc := 5) C dX5_depart_5 ?_
  refine fg_X5_19 (pc := 6) C 0 rfl rfl dX5_depart_6 ?_
  refine jw_V_V (pc := 9) C (c_X1_clear G ad P l A T F) wd_X1_clear kml_X5_68 2 rfl rfl rfl rfl (Nat.le_of_ble_eq_true rfl) ⟨by decide, by decide⟩ ⟨Nat.zero_le _, Nat.zero_le _⟩ dX5_depart_9 rfl (fun u1 h => ?_)
  subst h
  refine jw_aload_0 (pc := 12) C dX5_depart_12 ?_
  refine fg_X5_10 (pc := 13) C 0 rfl rfl dX5_depart_13 ?_
  refine jw_iload_1 (pc := 16) C dX5_depart_16 ?_
  refine jw_V_V (pc := 17) C (c_X4_dismiss G ad P (l.1, l.2.1, 0) A T F r hI hr) wd_X4_dismiss kml_X5_135 1 rfl rfl rfl rfl (Nat.le_of_ble_eq_true rfl) ⟨by decide, by decide⟩ ⟨Nat.zero_le _, Nat.zero_le _⟩ dX5_depart_17 rfl (fun u2 h2 => ?_)
  subst h2
  refine jw_aload_0 (pc := 20) C dX5_depart_20 ?_
  refine fg_X5_37 (pc := 21) C 0 rfl rfl dX5_depart_21 ?_
  refine jw_V_I (pc := 24) C (c_X3_runOnce G ad (pDismiss P r) (l.1, l.2.1, 0) A T F (PI_dismiss hI hr) rfl) wd_X3_runOnce kml_X5_75 4 rfl rfl rfl rfl (Nat.le_of_ble_eq_true rfl) ⟨by decide, by decide⟩ ⟨Nat.zero_le _, Nat.zero_le _⟩ dX5_depart_24 rfl (fun z9 u9 h9 => ?_)
  exact hret _ _ _ u9 dX5_depart_27 h9
set_option maxRecDepth 100000 in
set_option maxHeartbeats 4000000 in
theorem c_X5_setAccepts (G : jG) (ad : Nat → Nat) (P : QP) (l : QL) (A : QA) (T : Nat → Bool) (F : QF) (hI : PI P) (r : Nat) (hr : (r : Int) < P.req) (hF : PFe P) (hd : P.plc r ≠ -2) (m : Int32) (hm : mOK P m) : CZ G yX5_setAccepts cX5_setAccepts 3 (jrm 6 135 0 0) [.ref (ad 0), .int (iI (r : Int)), .int m] (wC G ad P l A T F) (fun (z : Bool) (u : QP × QL × QA × (Nat → Bool)) => z = decide (0 ≤ (rn (pAccept P r m) l).1.plc r) ∧ u.1 = (rn (pAccept P r m) l).1 ∧ u.2.1 = (rn (pAccept P r m) l).2.1) (fun u : QP × QL × QA × (Nat → Bool) => wC G ad u.1 u.2.1 u.2.2.1 u.2.2.2 F) 0 0 := by
  refine cz_intro (own := RX5) [some (.ref (ad 0)), some (.int (iI (r : Int))), some (.int m)] (by decide) rfl rfl rfl (Nat.le_of_ble_eq_true rfl) (fun X C hret => ?_)
  have h1 := hI.res
  have h2 := hI.req
  refine jw_aload_0 (pc := 0) C dX5_setAccepts_0 ?_
  refine jw_iload_1 (pc := 1) C dX5_setAccepts_1 ?_
  refine jw_V_V (pc := 2) C (c_X5_requirePresent G ad P l A T F hI r hr hd) wd_X5_requirePresent kml_X5_132 0 rfl rfl rfl rfl (Nat.le_of_ble_eq_true rfl) ⟨by decide, by decide⟩ ⟨Nat.zero_le _, Nat.zero_le _⟩ dX5_setAccepts_2 rfl (fun u h => ?_)
  refine jw_aload_0 (pc := 5) C dX5_setAccepts_5 ?_
  refine jw_iload_2 (pc := 6) C dX5_setAccepts_6 ?_
  refine jw_V_V (pc := 7) C (c_X5_requireMask G ad P l A T F m hm) wd_X5_requireMask kml_X5_116 0 rfl rfl rfl rfl (Nat.le_of_ble_eq_true rfl) ⟨by decide, by decide⟩ ⟨Nat.zero_le _, Nat.zero_le _⟩ dX5_setAccepts_7 rfl (fun u h => ?_)
  refine jw_aload_0 (pc := 10) C dX5_setAccepts_10 ?_
  refine fg_X5_19 (pc := 11) C 0 rfl rfl dX5_setAccepts_11 ?_
  refine jw_V_V (pc := 14) C (c_X1_clear G ad P l A T F) wd_X1_clear kml_X5_68 2 rfl rfl rfl rfl (Nat.le_of_ble_eq_true rfl) ⟨by decide, by decide⟩ ⟨Nat.zero_le _, Nat.zero_le _⟩ dX5_setAccepts_14 rfl (fun u1 h => ?_)
  subst h
  refine jw_aload_0 (pc := 17) C dX5_setAccepts_17 ?_
  refine fg_X5_10 (pc := 18) C 0 rfl rfl dX5_setAccepts_18 ?_
  refine jw_iload_1 (pc := 21) C dX5_setAccepts_21 ?_
  refine jw_iload_2 (pc := 22) C dX5_setAccepts_22 ?_
  refine jw_V_V (pc := 23) C (c_X4_accept G ad P (l.1, l.2.1, 0) A T F r m hI hr) wd_X4_accept kml_X5_138 1 rfl rfl rfl rfl (Nat.le_of_ble_eq_true rfl) ⟨by decide, by decide⟩ ⟨Nat.zero_le _, Nat.zero_le _⟩ dX5_setAccepts_23 rfl (fun u2 h2 => ?_)
  subst h2
  refine jw_aload_0 (pc := 26) C dX5_setAccepts_26 ?_
  refine fg_X5_37 (pc := 27) C 0 rfl rfl dX5_setAccepts_27 ?_
  refine jw_V_I (pc := 30) C (c_X3_runOnce G ad (pAccept P r m) (l.1, l.2.1, 0) A T F (PI_accept hI hr) rfl) wd_X3_runOnce kml_X5_75 4 rfl rfl rfl rfl (Nat.le_of_ble_eq_true rfl) ⟨by decide, by decide⟩ ⟨Nat.zero_le _, Nat.zero_le _⟩ dX5_setAccepts_30 rfl (fun z9 u9 h9 => ?_)
  refine jw_pop (pc := 33) C dX5_setAccepts_33 rfl ?_
  refine jw_aload_0 (pc := 34) C dX5_setAccepts_34 ?_
  refine fg_X5_10 (pc := 35) C 0 rfl rfl dX5_setAccepts_35 ?_
  refine jw_iload_1 (pc := 38) C dX5_setAccepts_38 ?_
  refine jw_V_Z (pc := 39) C (c_X4_isAssigned G ad u9.1 u9.2.1 u9.2.2.1 u9.2.2.2 F r (by omega) (by rw [h9.2.1]; exact (rn_ok (l := l) (PI_accept hI hr) (PFe_accept hI hF hm)).1.1)) wd_X4_isAssigned kml_X5_142 1 rfl rfl rfl rfl (Nat.le_of_ble_eq_true rfl) ⟨by decide, by decide⟩ ⟨Nat.zero_le _, Nat.zero_le _⟩ dX5_setAccepts_39 rfl (fun z8 u8 h8 => ?_)
  subst h8
  have e9 : u9.1 = (rn (pAccept P r m) l).1 := h9.2.1
  exact hret _ _ _ u9 dX5_setAccepts_42 ⟨by rw [e9], h9.2⟩
set_option maxRecDepth 100000 in
set_option maxHeartbeats 4000000 in
theorem c_X5_resourceCount (G : jG) (ad : Nat → Nat) (P : QP) (l : QL) (A : QA) (T : Nat → Bool) (F : QF)  : CI G yX5_resourceCount cX5_resourceCount 1 (jrm 0 0 0 0) [.ref (ad 0)] (wC G ad P l A T F) (fun (z : Int32) (_ : Unit) => z = iI P.res) (fun _ : Unit => wC G ad P l A T F) 0 0 := by
  refine ci_intro (own := RX5) [some (.ref (ad 0))] (by decide) rfl rfl rfl (Nat.le_of_ble_eq_true rfl) (fun X C hret => ?_)
  refine jw_aload_0 (pc := 0) C dX5_resourceCount_0 ?_
  refine fg_X5_10 (pc := 1) C 0 rfl rfl dX5_resourceCount_1 ?_
  refine fg_X5_59 (pc := 4) C 1 rfl rfl dX5_resourceCount_4 ?_
  exact hret _ _ _ () dX5_resourceCount_7 rfl
set_option maxRecDepth 100000 in
set_option maxHeartbeats 4000000 in
theorem c_X5_arrivedCount (G : jG) (ad : Nat → Nat) (P : QP) (l : QL) (A : QA) (T : Nat → Bool) (F : QF)  : CI G yX5_arrivedCount cX5_arrivedCount 1 (jrm 0 0 0 0) [.ref (ad 0)] (wC G ad P l A T F) (fun (z : Int32) (_ : Unit) => z = iI P.req) (fun _ : Unit => wC G ad P l A T F) 0 0 := by
  refine ci_intro (own := RX5) [some (.ref (ad 0))] (by decide) rfl rfl rfl (Nat.le_of_ble_eq_true rfl) (fun X C hret => ?_)
  refine jw_aload_0 (pc := 0) C dX5_arrivedCount_0 ?_
  refine fg_X5_10 (pc := 1) C 0 rfl rfl dX5_arrivedCount_1 ?_
  refine fg_X5_119 (pc := 4) C 1 rfl rfl dX5_arrivedCount_4 ?_
  exact hret _ _ _ () dX5_arrivedCount_7 rfl
set_option maxRecDepth 100000 in
set_option maxHeartbeats 4000000 in
theorem c_X5_moveCount (G : jG) (ad : Nat → Nat) (P : QP) (l : QL) (A : QA) (T : Nat → Bool) (F : QF)  : CI G yX5_moveCount cX5_moveCount 1 (jrm 0 0 0 0) [.ref (ad 0)] (wC G ad P l A T F) (fun (z : Int32) (_ : Unit) => z = iI l.sz) (fun _ : Unit => wC G ad P l A T F) 0 0 := by
  refine ci_intro (own := RX5) [some (.ref (ad 0))] (by decide) rfl rfl rfl (Nat.le_of_ble_eq_true rfl) (fun X C hret => ?_)
  refine jw_aload_0 (pc := 0) C dX5_moveCount_0 ?_
  refine fg_X5_19 (pc := 1) C 0 rfl rfl dX5_moveCount_1 ?_
  refine fg_X5_174 (pc := 4) C 2 rfl rfl dX5_moveCount_4 ?_
  exact hret _ _ _ () dX5_moveCount_7 rfl
set_option maxRecDepth 100000 in
set_option maxHeartbeats 4000000 in
theorem c_X5_state (G : jG) (ad : Nat → Nat) (P : QP) (l : QL) (A : QA) (T : Nat → Bool) (F : QF) (hI : PI P) (r : Nat) (hr : (r : Int) < P.req)  : CI G yX5_state cX5_state 2 (jrm 2 43 0 0) [.ref (ad 0), .int (iI (r : Int))] (wC G ad P l A T F) (fun (z : Int32) (_ : Unit) => z = iI (stN (P.plc r))) (fun _ : Unit => wC G ad P l A T F) 0 0 := by
  refine ci_intro (own := RX5) [some (.ref (ad 0)), some (.int (iI (r : Int)))] (by decide) rfl rfl rfl (Nat.le_of_ble_eq_true rfl) (fun X C hret => ?_)
  have h1 := hI.res
  have h2 := hI.req
  refine jw_aload_0 (pc := 0) C dX5_state_0 ?_
  refine jw_iload_1 (pc := 1) C dX5_state_1 ?_
  refine jw_V_V (pc := 2) C (c_X5_requireRequest G ad P l A T F hI r hr) wd_X5_requireRequest kml_X5_157 0 rfl rfl rfl rfl (Nat.le_of_ble_eq_true rfl) ⟨by decide, by decide⟩ ⟨Nat.zero_le _, Nat.zero_le _⟩ dX5_state_2 rfl (fun u h => ?_)
  refine jw_aload_0 (pc := 5) C dX5_state_5 ?_
  refine fg_X5_10 (pc := 6) C 0 rfl rfl dX5_state_6 ?_
  refine jw_iload_1 (pc := 9) C dX5_state_9 ?_
  refine jw_V_I (pc := 10) C (c_X4_stateNumber G ad P l A T F r (by omega) hI) wd_X4_stateNumber kml_X5_160 1 rfl rfl rfl rfl (Nat.le_of_ble_eq_true rfl) ⟨by decide, by decide⟩ ⟨Nat.zero_le _, Nat.zero_le _⟩ dX5_state_10 rfl (fun z u h => ?_)
  subst h
  exact hret _ _ _ () dX5_state_13 rfl
set_option maxRecDepth 100000 in
set_option maxHeartbeats 4000000 in
theorem c_X5_resourceOf (G : jG) (ad : Nat → Nat) (P : QP) (l : QL) (A : QA) (T : Nat → Bool) (F : QF) (hI : PI P) (r : Nat) (hr : (r : Int) < P.req) (hd : 0 ≤ P.plc r) : CI G yX5_resourceOf cX5_resourceOf 2 (jrm 2 43 0 0) [.ref (ad 0), .int (iI (r : Int))] (wC G ad P l A T F) (fun (z : Int32) (_ : Unit) => z = iI (P.plc r)) (fun _ : Unit => wC G ad P l A T F) 0 0 := by
  refine ci_intro (own := RX5) [some (.ref (ad 0)), some (.int (iI (r : Int)))] (by decide) rfl rfl rfl (Nat.le_of_ble_eq_true rfl) (fun X C hret => ?_)
  have h1 := hI.res
  have h2 := hI.req
  refine jw_aload_0 (pc := 0) C dX5_resourceOf_0 ?_
  refine jw_iload_1 (pc := 1) C dX5_resourceOf_1 ?_
  refine jw_V_V (pc := 2) C (c_X5_requireRequest G ad P l A T F hI r hr) wd_X5_requireRequest kml_X5_157 0 rfl rfl rfl rfl (Nat.le_of_ble_eq_true rfl) ⟨by decide, by decide⟩ ⟨Nat.zero_le _, Nat.zero_le _⟩ dX5_resourceOf_2 rfl (fun u h => ?_)
  refine jw_aload_0 (pc := 5) C dX5_resourceOf_5 ?_
  refine fg_X5_10 (pc := 6) C 0 rfl rfl dX5_resourceOf_6 ?_
  refine jw_iload_1 (pc := 9) C dX5_resourceOf_9 ?_
  refine jw_V_Z (pc := 10) C (c_X4_isAssigned G ad P l A T F r (by omega) hI) wd_X4_isAssigned kml_X5_142 1 rfl rfl rfl rfl (Nat.le_of_ble_eq_true rfl) ⟨by decide, by decide⟩ ⟨Nat.zero_le _, Nat.zero_le _⟩ dX5_resourceOf_10 rfl (fun z u h => ?_)
  subst h
  refine jw_if_ne_b (pc := 13) (tgt := 26) C dX5_resourceOf_13 (by decide) (fun c_13 => ?_) (fun c_13 => ?_)
  · refine jw_aload_0 (pc := 26) C dX5_resourceOf_26 ?_
    refine fg_X5_10 (pc := 27) C 0 rfl rfl dX5_resourceOf_27 ?_
    refine fg_X5_168 (pc := 30) C 1 rfl rfl dX5_resourceOf_30 ?_
    refine jw_iload_1 (pc := 33) C dX5_resourceOf_33 ?_
    refine jw_iald (pc := 34) C 13 rfl r rfl (by omega) (by decide) dX5_resourceOf_34 ?_
    exact hret _ _ _ () dX5_resourceOf_35 rfl
  · exact absurd hd (of_decide_eq_false c_13)
set_option maxRecDepth 100000 in
set_option maxHeartbeats 4000000 in
theorem c_X5_movesOf (G : jG) (ad : Nat → Nat) (P : QP) (l : QL) (A : QA) (T : Nat → Bool) (F : QF) (hI : PI P) (r : Nat) (hr : (r : Int) < P.req)  : CI G yX5_movesOf cX5_movesOf 2 (jrm 2 43 0 0) [.ref (ad 0), .int (iI (r : Int))] (wC G ad P l A T F) (fun (z : Int32) (_ : Unit) => z = iI (P.mov r)) (fun _ : Unit => wC G ad P l A T F) 0 0 := by
  refine ci_intro (own := RX5) [some (.ref (ad 0)), some (.int (iI (r : Int)))] (by decide) rfl rfl rfl (Nat.le_of_ble_eq_true rfl) (fun X C hret => ?_)
  have h1 := hI.res
  have h2 := hI.req
  refine jw_aload_0 (pc := 0) C dX5_movesOf_0 ?_
  refine jw_iload_1 (pc := 1) C dX5_movesOf_1 ?_
  refine jw_V_V (pc := 2) C (c_X5_requireRequest G ad P l A T F hI r hr) wd_X5_requireRequest kml_X5_157 0 rfl rfl rfl rfl (Nat.le_of_ble_eq_true rfl) ⟨by decide, by decide⟩ ⟨Nat.zero_le _, Nat.zero_le _⟩ dX5_movesOf_2 rfl (fun u h => ?_)
  refine jw_aload_0 (pc := 5) C dX5_movesOf_5 ?_
  refine fg_X5_10 (pc := 6) C 0 rfl rfl dX5_movesOf_6 ?_
  refine fg_X5_171 (pc := 9) C 1 rfl rfl dX5_movesOf_9 ?_
  refine jw_iload_1 (pc := 12) C dX5_movesOf_12 ?_
  refine jw_iald (pc := 13) C 14 rfl r rfl (by omega) (by decide) dX5_movesOf_13 ?_
  exact hret _ _ _ () dX5_movesOf_14 rfl
set_option maxRecDepth 100000 in
set_option maxHeartbeats 4000000 in
theorem c_X5_movedRequest (G : jG) (ad : Nat → Nat) (P : QP) (l : QL) (A : QA) (T : Nat → Bool) (F : QF) (hl : 0 ≤ l.sz ∧ l.sz ≤ 200) (a : Nat) (ha : (a : Int) < l.sz) : CI G yX5_movedRequest cX5_movedRequest 2 (jrm 2 43 0 0) [.ref (ad 0), .int (iI (a : Int))] (wC G ad P l A T F) (fun (z : Int32) (_ : Unit) => z = iI (l.rq a)) (fun _ : Unit => wC G ad P l A T F) 0 0 := by
  refine ci_intro (own := RX5) [some (.ref (ad 0)), some (.int (iI (a : Int)))] (by decide) rfl rfl rfl (Nat.le_of_ble_eq_true rfl) (fun X C hret => ?_)
  refine jw_aload_0 (pc := 0) C dX5_movedRequest_0 ?_
  refine jw_iload_1 (pc := 1) C dX5_movedRequest_1 ?_
  refine jw_V_V (pc := 2) C (c_X5_requireLogged G ad P l A T F hl a ha) wd_X5_requireLogged kml_X5_177 0 rfl rfl rfl rfl (Nat.le_of_ble_eq_true rfl) ⟨by decide, by decide⟩ ⟨Nat.zero_le _, Nat.zero_le _⟩ dX5_movedRequest_2 rfl (fun u h => ?_)
  refine jw_aload_0 (pc := 5) C dX5_movedRequest_5 ?_
  refine fg_X5_19 (pc := 6) C 0 rfl rfl dX5_movedRequest_6 ?_
  refine fg_X5_180 (pc := 9) C 2 rfl rfl dX5_movedRequest_9 ?_
  refine jw_iload_1 (pc := 12) C dX5_movedRequest_12 ?_
  refine jw_iald (pc := 13) C 15 rfl a rfl (by omega) (by decide) dX5_movedRequest_13 ?_
  exact hret _ _ _ () dX5_movedRequest_14 rfl
set_option maxRecDepth 100000 in
set_option maxHeartbeats 4000000 in
theorem c_X5_movedTo (G : jG) (ad : Nat → Nat) (P : QP) (l : QL) (A : QA) (T : Nat → Bool) (F : QF) (hl : 0 ≤ l.sz ∧ l.sz ≤ 200) (a : Nat) (ha : (a : Int) < l.sz) : CI G yX5_movedTo cX5_movedTo 2 (jrm 2 43 0 0) [.ref (ad 0), .int (iI (a : Int))] (wC G ad P l A T F) (fun (z : Int32) (_ : Unit) => z = iI (l.tg a)) (fun _ : Unit => wC G ad P l A T F) 0 0 := by
  refine ci_intro (own := RX5) [some (.ref (ad 0)), some (.int (iI (a : Int)))] (by decide) rfl rfl rfl (Nat.le_of_ble_eq_true rfl) (fun X C hret => ?_)
  refine jw_aload_0 (pc := 0) C dX5_movedTo_0 ?_
  refine jw_iload_1 (pc := 1) C dX5_movedTo_1 ?_
  refine jw_V_V (pc := 2) C (c_X5_requireLogged G ad P l A T F hl a ha) wd_X5_requireLogged kml_X5_177 0 rfl rfl rfl rfl (Nat.le_of_ble_eq_true rfl) ⟨by decide, by decide⟩ ⟨Nat.zero_le _, Nat.zero_le _⟩ dX5_movedTo_2 rfl (fun u h => ?_)
  refine jw_aload_0 (pc := 5) C dX5_movedTo_5 ?_
  refine fg_X5_19 (pc := 6) C 0 rfl rfl dX5_movedTo_6 ?_
  refine fg_X5_183 (pc := 9) C 2 rfl rfl dX5_movedTo_9 ?_
  refine jw_iload_1 (pc := 12) C dX5_movedTo_12 ?_
  refine jw_iald (pc := 13) C 16 rfl a rfl (by omega) (by decide) dX5_movedTo_13 ?_
  exact hret _ _ _ () dX5_movedTo_14 rfl
end
section
/-! MAKING: new, newarray, final fields, Object's constructor; the constructors -/
def JIni (X : JX) : Prop :=
  match X with
  | (_p, _l, _e, _R, _s, _m, _args, _below, meth, _c, _Q, _A) => meth.name = "<init>"
theorem cvi_intro {G : jG} {y : MethodName} {cc : ByteArray} {maxL f loc mc ms : Nat} {args : List Value} {w0 : va_W} {S : Type} {post : S → Prop} {w1 : S → va_W} {own : String} (L0 : List (Option Value)) (hy : plainName y.cls = true) (hyo : y.cls = own) (hyn : y.name = "<init>") (hL : jl0 0 L0 = lv_args 0 args) (hLn : L0.length = maxL) (hsl : (lg_sl args).length ≤ maxL)
    (h : ∀ X : JX, JC G X (jrm f loc mc ms) cc own maxL → JIni X → (∀ (pc : Nat) (L : List (Option Value)) (u : S), decode cc pc = .ok (.return_, 1) → post u → JW G X mc ms (w1 u) pc L []) → JW G X 0 0 w0 0 L0 []) : CV G y cc maxL (jrm f loc mc ms) args w0 post w1 mc ms := by
  refine ⟨rfl, rfl, fun l sz => ?_⟩
  refine Met.ofW (cc := cc) (maxL := maxL) (ret := none) hy rfl ?_
  intro p e s m args1 below meth c s₁ B hml hv
  obtain ⟨rfl, hsz, hP, hK, hN, hD0⟩ := hv
  have hx := B.exec
  have hb := B.bytes
  have hr := B.returns
  have hts := atoms_spec (ws := (Cond.code y cc maxL none :: jAll)) B.pre
  have hown : s.vm.findClass own = some m.cls := by rw [← hyo]; exact findClass_of_methodNamed B.named
  have hlocks := B.notSynchronized
  subst hsz
  have hD := hD0.self (sz := s.heap.size)
  have hA : ∀ q : Nat, s.heap.size ≤ q → va_A w0 s.heap.size q := fun q h => Or.inr h
  have hl := lv_entry args (n := maxL) hsl
  rw [lg_entry_eq]
  generalize (lg_sl args ++ List.replicate (maxL - (lg_sl args).length) Slot.unset).toArray = ls at hl ⊢
  rw [← hL] at hl
  have hl2 : lv_has ls L0.length (jl0 0 L0) := by rw [hLn]; exact hl
  have K := h (p, l, e, (jrm f loc mc ms), s, m, args.toArray, below, meth, c, MQ below (va_Qv post (fun u => jPost G (va_A w0 s.heap.size) (w1 u)) (va_A w0 s.heap.size)) args.toArray s mc ms (va_A w0 s.heap.size), va_A w0 s.heap.size) ⟨hx, hb, hml, hown, fun z hz => hts z (List.mem_cons_of_mem _ hz), hN, hK, hlocks, hA, rfl⟩ ((name_of_methodNamed B.named B.method).1.trans hyn) ?_
  · exact K s.heap [] ls hP hD va_S.rf hl2
  · intro pc L u hd hp H locs ls hP hD hS hl
    exact W.vret hx hb hr (fun t ht hW => ⟨⟨u, rfl, hp, by rw [ht]; exact hP, va_K.moved hW.alike hK, hD⟩, hS.F ht⟩) hS.2.2 hd hlocks
section JMAKE
theorem jw_eqw {G : jG} {X : JX} {k n pc : Nat} {w : va_W} {L : List (Option Value)} {st : List Value} (w2 : va_W) (h : w = w2) (kk : JW G X k n w2 pc L st) : JW G X k n w pc L st := h ▸ kk
variable {G : jG} {X : JX} {k n pc : Nat} {w : va_W} {L : List (Option Value)} {rest : List Value} {rm : Room} {cc : ByteArray} {own : String} {nL a : Nat}
theorem jw_objInit {idx : Nat} (C : JC G X rm cc own nL) (link : Cond.methodLink own idx objectInit ∈ jAll) (hf : 1 ≤ rm.frames) (hlo : 12 ≤ rm.locals) (d : decode cc pc = .ok (.invokespecial idx, 3)) (hL : L.length = nL) (kk : JW G X k n w (pc + 3) L []) : JW G X k n w pc L [.ref a] := by
  obtain ⟨p, l, e, R, s, m, args, below, meth, c, Q, A⟩ := X
  obtain ⟨hx, hb, hml, hown, hts, hnw, hK, hlk, hA, hR⟩ := C
  subst hR
  intro H locs ls hP hD hS hl
  refine W.objInit hx hb hown (hts _ link) (hts _ kim_Object__init___V) (hts _ kco_objectInit) rfl (hl.1.trans (hL.trans hml.symm)) (a := a) (rest := []) rfl d hf (by show 2 * 0 + 0 + 12 ≤ _; omega) ?_
  exact W.eq (g2 := F0 m (pc + 3) ls []) rfl (kk H locs ls hP hD hS hl)
theorem jw_newaI (C : JC G X rm cc own nL) (N : Nat) (hN : N < 1000000) (hk : k + 1 ≤ rm.cells ∧ n + N ≤ rm.slots) (d : decode cc pc = .ok (.newarray .int, 2)) (kk : ∀ q : Nat, JW G X (k + 1) (n + N) (w ++ [jAI G q N (jiI (fun _ => 0))]) (pc + 2) L (.ref q :: rest)) : JW G X k n w pc L (.int (iI (N : Int)) :: rest) := by
  obtain ⟨p, l, e, R, s, m, args, below, meth, c, Q, A⟩ := X
  obtain ⟨hx, hb, hml, hown, hts, hnw, hK, hlk, hA, hR⟩ := C
  subst hR
  intro H locs ls hP hD hS hl
  refine va_newa (atype := .int) hx hb (hts _ kac_int) (ty := .int) rfl hK hP hD hS hA (N' := N) (a0 := (N, .inl (jiI (fun _ => 0)))) (fun cA => rfl) (by rw [iI_0, iI_lt ⟨by omega, by omega⟩ ⟨by omega, by omega⟩]; omega) (iI_clamp hN) (by show N * 4 ≤ _; omega) hk.1 hk.2 d (fun q cA H1 hK1 hP1 hD1 hS1 => ?_)
  have e1 : s.vm.findClass ("[" ++ FieldType.int.toString) = some cA := (hK1.2 2 (cA, .int) rfl).2
  have e2 : s.vm.findClass ("[" ++ FieldType.int.toString) = some (G.2 0) := (hK.2 0 (G.2 0, .int) rfl).2
  have e3 : cA = G.2 0 := Option.some.inj (e1.symm.trans e2)
  subst e3
  exact kk q H1 locs ls hP1 hD1 hS1 hl
theorem jw_newaZ (C : JC G X rm cc own nL) (N : Nat) (hN : N < 1000000) (hk : k + 1 ≤ rm.cells ∧ n + N ≤ rm.slots) (d : decode cc pc = .ok (.newarray .boolean, 2)) (kk : ∀ q : Nat, JW G X (k + 1) (n + N) (w ++ [jAZ G q N (jbF (fun _ => false))]) (pc + 2) L (.ref q :: rest)) : JW G X k n w pc L (.int (iI (N : Int)) :: rest) := by
  obtain ⟨p, l, e, R, s, m, args, below, meth, c, Q, A⟩ := X
  obtain ⟨hx, hb, hml, hown, hts, hnw, hK, hlk, hA, hR⟩ := C
  subst hR
  intro H locs ls hP hD hS hl
  refine va_newa (atype := .boolean) hx hb (hts _ kac_boolean) (ty := .boolean) rfl hK hP hD hS hA (N' := N) (a0 := (N, .inl (jbF (fun _ => false)))) (fun cA => rfl) (by rw [iI_0, iI_lt ⟨by omega, by omega⟩ ⟨by omega, by omega⟩]; omega) (iI_clamp hN) (by show N * 1 ≤ _; omega) hk.1 hk.2 d (fun q cA H1 hK1 hP1 hD1 hS1 => ?_)
  have e1 : s.vm.findClass ("[" ++ FieldType.boolean.toString) = some cA := (hK1.2 2 (cA, .boolean) rfl).2
  have e2 : s.vm.findClass ("[" ++ FieldType.boolean.toString) = some (G.2 1) := (hK.2 1 (G.2 1, .boolean) rfl).2
  have e3 : cA = G.2 1 := Option.some.inj (e1.symm.trans e2)
  subst e3
  exact kk q H1 locs ls hP1 hD1 hS1 hl
theorem jw_new {C2 : String} {T : u_T} {N ci idx : Nat} {ty0 : Nat → FieldType} {fs : List Value} (hin : ∀ w ∈ u_ws C2 T N, w ∈ jAll) (hty : ∀ k, k < N → parseFieldDescriptor (T k).2.2.1 = some (ty0 k)) (hc : vwCl[ci]? = some (C2, T, N)) (C : JC G X rm cc own nL) (hcl : Cond.classLink own idx C2 ∈ jAll) (hinst : Cond.instantiable C2 N ∈ jAll) (hini : Cond.initialized C2 ∈ jAll) (hfs : ∀ j, j < N → defaultValue (ty0 j) = vp_V fs j) (hk : k + 1 ≤ rm.cells ∧ n + N ≤ rm.slots) (d : decode cc pc = .ok (.new idx, 3)) (kk : ∀ q : Nat, JW G X (k + 1) (n + N) (w ++ [(q, .inr (ci, fs))]) (pc + 3) L (.ref q :: rest)) : JW G X k n w pc L rest := by
  obtain ⟨p, l, e, R, s, m, args, below, meth, c, Q, A⟩ := X
  obtain ⟨hx, hb, hml, hown, hts, hnw, hK, hlk, hA, hR⟩ := C
  subst hR
  intro H locs ls hP hD hS hl
  exact va_new hx hb hts hin ty0 hty hown (hts _ hcl) (hts _ hinst) (hts _ hini) hK hP hD hS hA hc hfs hk.1 hk.2 d (fun q H1 hP1 hD1 hS1 => kk q H1 locs ls hP1 hD1 hS1 hl)
theorem jw_putF {ref cls : String} {T : u_T} {N ci idx : Nat} {fs : List Value} {v : Value} {ty0 : Nat → FieldType} {ty : FieldType} (hin : ∀ w ∈ u_ws cls T N, w ∈ jAll) (hty : ∀ k, k < N → parseFieldDescriptor (T k).2.2.1 = some (ty0 k)) (hnm : ∀ a, a < N → ∀ b, b < N → a ≠ b → (T a).2.1 ≠ (T b).2.1) (hc : vwCl[ci]? = some (cls, T, N)) (kf : Nat) (hk : kf < N) (hr : (T kf).1 = ref) (hfin : (T kf).2.2.2 = true) (hdecl : (T kf).1 = own) (hd : parseFieldDescriptor (T kf).2.2.1 = some ty) (C : JC G X rm cc own nL) (Hi : JIni X) (hlink : Cond.fieldLink own idx ref (T kf).2.1 (T kf).2.2.1 ∈ jAll)
    (q0 : Nat) (he : w[q0]? = some (a, .inr (ci, fs))) (hn : narrow ty v = v) (hfit : fits ty v = true) (hl : kf < fs.length) (d : decode cc pc = .ok (.putfield idx, 3)) (kk : JW G X k n (w.set q0 (a, .inr (ci, fs.set kf v))) (pc + 3) L rest) : JW G X k n w pc L (v :: .ref a :: rest) := by
  obtain ⟨p, l, e, R, s, m, args, below, meth, c, Q, A⟩ := X
  obtain ⟨hx, hb, hml, hown, hts, hnw, hK, hlk, hA, hR⟩ := C
  intro H locs ls hP hD hS hl2
  exact va_putF hx hb hts hin ty0 hty hnm hown hK hP hD hS q0 he hc kf hk (hts _ hlink) (fun x h => by rw [← hr]; exact h) hfin Hi hdecl hd hn hfit hl d (fun H1 locs1 hP1 hD1 hS1 => kk H1 locs1 ls hP1 hD1 hS1 hl2)
end JMAKE
def fl (v : Int) (k : Nat) : Nat → Int := fun i => if i < k then v else 0
theorem fl_0 (v : Int) : fl v 0 = fun _ => 0 := by
  funext i
  unfold fl
  rw [if_neg (Nat.not_lt_zero _)]
theorem fl_up (v : Int) (k : Nat) : updf (fl v k) k v = fl v (k + 1) := by
  funext i
  unfold fl updf
  by_cases e : i = k
  · rw [if_pos e, if_pos (by omega)]
  · rw [if_neg e]
    show (if i < k then v else 0) = _
    by_cases h : i < k
    · rw [if_pos h, if_pos (by omega)]
    · rw [if_neg h, if_neg (by omega)]
abbrev z0 : Nat → Int := fun _ => 0
set_option maxRecDepth 100000 in
set_option maxHeartbeats 4000000 in
theorem c_X1_init (G : jG) (b : Nat) : CV G yX1_init cX1_init 1 (jrm 1 20 2 400) [.ref b] [(b, .inr (1, [.null, .null, .int (iI 0)]))] (fun _ : (Nat → Nat) => True) (fun ad : Nat → Nat => [(b, .inr (1, [.ref (ad 0), .ref (ad 1), .int (iI 0)])), jAI G (ad 0) 200 (jiI z0), jAI G (ad 1) 200 (jiI z0)]) 2 400 := by
  refine cvi_intro (own := RX1) [some (.ref b)] (by decide) rfl rfl rfl rfl (Nat.le_of_ble_eq_true rfl) (fun X C Hi hret => ?_)
  refine jw_aload_0 (pc := 0) C dX1_init_0 ?_
  refine jw_objInit (pc := 1) C kml_X1_3 (Nat.le_of_ble_eq_true rfl) (Nat.le_of_ble_eq_true rfl) dX1_init_1 rfl ?_
  refine jw_aload_0 (pc := 4) C dX1_init_4 ?_
  refine jw_sipush (pc := 5) C dX1_init_5 (by decide) ?_
  refine jw_newaI (pc := 8) C 200 (by decide) ⟨Nat.le_of_ble_eq_true rfl, Nat.le_of_ble_eq_true rfl⟩ dX1_init_8 (fun q0 => ?_)
  refine jw_eqw [(b, .inr (1, [.null, .null, .int (iI 0)])), jAI G q0 200 (jiI (fun _ => 0))] rfl ?_
  refine jw_putF (pc := 10) (ty := (.array .int)) jU_X1 tyX1_ok nmX1 rfl 0 (by decide) rfl rfl rfl (by decide +kernel) C Hi kfl_X1_11 0 rfl rfl rfl (Nat.le_of_ble_eq_true rfl) dX1_init_10 ?_
  refine jw_eqw [(b, .inr (1, [.ref q0, .null, .int (iI 0)])), jAI G q0 200 (jiI (fun _ => 0))] rfl ?_
  refine jw_aload_0 (pc := 13) C dX1_init_13 ?_
  refine jw_sipush (pc := 14) C dX1_init_14 (by decide) ?_
  refine jw_newaI (pc := 17) C 200 (by decide) ⟨Nat.le_of_ble_eq_true rfl, Nat.le_of_ble_eq_true rfl⟩ dX1_init_17 (fun q1 => ?_)
  refine jw_eqw [(b, .inr (1, [.ref q0, .null, .int (iI 0)])), jAI G q0 200 (jiI (fun _ => 0)), jAI G q1 200 (jiI (fun _ => 0))] rfl ?_
  refine jw_putF (pc := 19) (ty := (.array .int)) jU_X1 tyX1_ok nmX1 rfl 1 (by decide) rfl rfl rfl (by decide +kernel) C Hi kfl_X1_15 0 rfl rfl rfl (Nat.le_of_ble_eq_true rfl) dX1_init_19 ?_
  refine jw_eqw [(b, .inr (1, [.ref q0, .ref q1, .int (iI 0)])), jAI G q0 200 (jiI (fun _ => 0)), jAI G q1 200 (jiI (fun _ => 0))] rfl ?_
  exact hret _ _ (fun i => ([q0, q1] : List Nat).getD i 0) dX1_init_22 trivial
set_option maxRecDepth 100000 in
set_option maxHeartbeats 4000000 in
theorem c_X2_init (G : jG) (b p : Nat) : CV G yX2_init cX2_init 2 (jrm 1 20 4 49) [.ref b, .ref p] [(b, .inr (2, [.null, .null, .null, .null, .null, .int (iI 0)]))] (fun _ : (Nat → Nat) => True) (fun ad : Nat → Nat => [(b, .inr (2, [.ref p, .ref (ad 0), .ref (ad 1), .ref (ad 2), .ref (ad 3), .int (iI 0)])), jAI G (ad 0) 12 (jiI z0), jAI G (ad 1) 13 (jiI z0), jAI G (ad 2) 12 (jiI z0), jAI G (ad 3) 12 (jiI z0)]) 4 49 := by
  refine cvi_intro (own := RX2) [some (.ref b), some (.ref p)] (by decide) rfl rfl rfl rfl (Nat.le_of_ble_eq_true rfl) (fun X C Hi hret => ?_)
  refine jw_aload_0 (pc := 0) C dX2_init_0 ?_
  refine jw_objInit (pc := 1) C kml_X2_3 (Nat.le_of_ble_eq_true rfl) (Nat.le_of_ble_eq_true rfl) dX2_init_1 rfl ?_
  refine jw_aload_0 (pc := 4) C dX2_init_4 ?_
  refine jw_bipush (pc := 5) C dX2_init_5 (by decide) ?_
  refine jw_newaI (pc := 7) C 12 (by decide) ⟨Nat.le_of_ble_eq_true rfl, Nat.le_of_ble_eq_true rfl⟩ dX2_init_7 (fun q0 => ?_)
  refine jw_eqw [(b, .inr (2, [.null, .null, .null, .null, .null, .int (iI 0)])), jAI G q0 12 (jiI (fun _ => 0))] rfl ?_
  refine jw_putF (pc := 9) (ty := (.array .int)) jU_X2 tyX2_ok nmX2 rfl 1 (by decide) rfl rfl rfl (by decide +kernel) C Hi kfl_X2_9 0 rfl rfl rfl (Nat.le_of_ble_eq_true rfl) dX2_init_9 ?_
  refine jw_eqw [(b, .inr (2, [.null, .ref q0, .null, .null, .null, .int (iI 0)])), jAI G q0 12 (jiI (fun _ => 0))] rfl ?_
  refine jw_aload_0 (pc := 12) C dX2_init_12 ?_
  refine jw_bipush (pc := 13) C dX2_init_13 (by decide) ?_
  refine jw_newaI (pc := 15) C 13 (by decide) ⟨Nat.le_of_ble_eq_true rfl, Nat.le_of_ble_eq_true rfl⟩ dX2_init_15 (fun q1 => ?_)
  refine jw_eqw [(b, .inr (2, [.null, .ref q0, .null, .null, .null, .int (iI 0)])), jAI G q0 12 (jiI (fun _ => 0)), jAI G q1 13 (jiI (fun _ => 0))] rfl ?_
  refine jw_putF (pc := 17) (ty := (.array .int)) jU_X2 tyX2_ok nmX2 rfl 2 (by decide) rfl rfl rfl (by decide +kernel) C Hi kfl_X2_15 0 rfl rfl rfl (Nat.le_of_ble_eq_true rfl) dX2_init_17 ?_
  refine jw_eqw [(b, .inr (2, [.null, .ref q0, .ref q1, .null, .null, .int (iI 0)])), jAI G q0 12 (jiI (fun _ => 0)), jAI G q1 13 (jiI (fun _ => 0))] rfl ?_
  refine jw_aload_0 (pc := 20) C dX2_init_20 ?_
  refine jw_bipush (pc := 21) C dX2_init_21 (by decide) ?_
  refine jw_newaI (pc := 23) C 12 (by decide) ⟨Nat.le_of_ble_eq_true rfl, Nat.le_of_ble_eq_true rfl⟩ dX2_init_23 (fun q2 => ?_)
  refine jw_eqw [(b, .inr (2, [.null, .ref q0, .ref q1, .null, .null, .int (iI 0)])), jAI G q0 12 (jiI (fun _ => 0)), jAI G q1 13 (jiI (fun _ => 0)), jAI G q2 12 (jiI (fun _ => 0))] rfl ?_
  refine jw_putF (pc := 25) (ty := (.array .int)) jU_X2 tyX2_ok nmX2 rfl 3 (by decide) rfl rfl rfl (by decide +kernel) C Hi kfl_X2_18 0 rfl rfl rfl (Nat.le_of_ble_eq_true rfl) dX2_init_25 ?_
  refine jw_eqw [(b, .inr (2, [.null, .ref q0, .ref q1, .ref q2, .null, .int (iI 0)])), jAI G q0 12 (jiI (fun _ => 0)), jAI G q1 13 (jiI (fun _ => 0)), jAI G q2 12 (jiI (fun _ => 0))] rfl ?_
  refine jw_aload_0 (pc := 28) C dX2_init_28 ?_
  refine jw_bipush (pc := 29) C dX2_init_29 (by decide) ?_
  refine jw_newaI (pc := 31) C 12 (by decide) ⟨Nat.le_of_ble_eq_true rfl, Nat.le_of_ble_eq_true rfl⟩ dX2_init_31 (fun q3 => ?_)
  refine jw_eqw [(b, .inr (2, [.null, .ref q0, .ref q1, .ref q2, .null, .int (iI 0)])), jAI G q0 12 (jiI (fun _ => 0)), jAI G q1 13 (jiI (fun _ => 0)), jAI G q2 12 (jiI (fun _ => 0)), jAI G q3 12 (jiI (fun _ => 0))] rfl ?_
  refine jw_putF (pc := 33) (ty := (.array .int)) jU_X2 tyX2_ok nmX2 rfl 4 (by decide) rfl rfl rfl (by decide +kernel) C Hi kfl_X2_21 0 rfl rfl rfl (Nat.le_of_ble_eq_true rfl) dX2_init_33 ?_
  refine jw_eqw [(b, .inr (2, [.null, .ref q0, .ref q1, .ref q2, .ref q3, .int (iI 0)])), jAI G q0 12 (jiI (fun _ => 0)), jAI G q1 13 (jiI (fun _ => 0)), jAI G q2 12 (jiI (fun _ => 0)), jAI G q3 12 (jiI (fun _ => 0))] rfl ?_
  refine jw_aload_0 (pc := 36) C dX2_init_36 ?_
  refine jw_aload_1 (pc := 37) C dX2_init_37 ?_
  refine jw_putF (pc := 38) (ty := (.object "MatchingService$Pool")) jU_X2 tyX2_ok nmX2 rfl 0 (by decide) rfl rfl rfl (by decide +kernel) C Hi kfl_X2_24 0 rfl rfl rfl (Nat.le_of_ble_eq_true rfl) dX2_init_38 ?_
  refine jw_eqw [(b, .inr (2, [.ref p, .ref q0, .ref q1, .ref q2, .ref q3, .int (iI 0)])), jAI G q0 12 (jiI (fun _ => 0)), jAI G q1 13 (jiI (fun _ => 0)), jAI G q2 12 (jiI (fun _ => 0)), jAI G q3 12 (jiI (fun _ => 0))] rfl ?_
  exact hret _ _ (fun i => ([q0, q1, q2, q3] : List Nat).getD i 0) dX2_init_41 trivial
set_option maxRecDepth 100000 in
set_option maxHeartbeats 4000000 in
theorem c_X3_init (G : jG) (b p r g : Nat) : CV G yX3_init cX3_init 4 (jrm 1 20 1 40) [.ref b, .ref p, .ref r, .ref g] [(b, .inr (3, [.null, .null, .null, .null]))] (fun _ : (Nat → Nat) => True) (fun ad : Nat → Nat => [(b, .inr (3, [.ref p, .ref r, .ref g, .ref (ad 0)])), jAZ G (ad 0) 40 (jbF (fun _ => false))]) 1 40 := by
  refine cvi_intro (own := RX3) [some (.ref b), some (.ref p), some (.ref r), some (.ref g)] (by decide) rfl rfl rfl rfl (Nat.le_of_ble_eq_true rfl) (fun X C Hi hret => ?_)
  refine jw_aload_0 (pc := 0) C dX3_init_0 ?_
  refine jw_objInit (pc := 1) C kml_X3_3 (Nat.le_of_ble_eq_true rfl) (Nat.le_of_ble_eq_true rfl) dX3_init_1 rfl ?_
  refine jw_aload_0 (pc := 4) C dX3_init_4 ?_
  refine jw_bipush (pc := 5) C dX3_init_5 (by decide) ?_
  refine jw_newaZ (pc := 7) C 40 (by decide) ⟨Nat.le_of_ble_eq_true rfl, Nat.le_of_ble_eq_true rfl⟩ dX3_init_7 (fun q0 => ?_)
  refine jw_eqw [(b, .inr (3, [.null, .null, .null, .null])), jAZ G q0 40 (jbF (fun _ => false))] rfl ?_
  refine jw_putF (pc := 9) (ty := (.array .boolean)) jU_X3 tyX3_ok nmX3 rfl 3 (by decide) rfl rfl rfl (by decide +kernel) C Hi kfl_X3_9 0 rfl rfl rfl (Nat.le_of_ble_eq_true rfl) dX3_init_9 ?_
  refine jw_eqw [(b, .inr (3, [.null, .null, .null, .ref q0])), jAZ G q0 40 (jbF (fun _ => false))] rfl ?_
  refine jw_aload_0 (pc := 12) C dX3_init_12 ?_
  refine jw_aload_1 (pc := 13) C dX3_init_13 ?_
  refine jw_putF (pc := 14) (ty := (.object "MatchingService$Pool")) jU_X3 tyX3_ok nmX3 rfl 0 (by decide) rfl rfl rfl (by decide +kernel) C Hi kfl_X3_15 0 rfl rfl rfl (Nat.le_of_ble_eq_true rfl) dX3_init_14 ?_
  refine jw_eqw [(b, .inr (3, [.ref p, .null, .null, .ref q0])), jAZ G q0 40 (jbF (fun _ => false))] rfl ?_
  refine jw_aload_0 (pc := 17) C dX3_init_17 ?_
  refine jw_aload_2 (pc := 18) C dX3_init_18 ?_
  refine jw_putF (pc := 19) (ty := (.object "MatchingService$PathSearch")) jU_X3 tyX3_ok nmX3 rfl 1 (by decide) rfl rfl rfl (by decide +kernel) C Hi kfl_X3_19 0 rfl rfl rfl (Nat.le_of_ble_eq_true rfl) dX3_init_19 ?_
  refine jw_eqw [(b, .inr (3, [.ref p, .ref r, .null, .ref q0])), jAZ G q0 40 (jbF (fun _ => false))] rfl ?_
  refine jw_aload_0 (pc := 22) C dX3_init_22 ?_
  refine jw_aload_3 (pc := 23) C dX3_init_23 ?_
  refine jw_putF (pc := 24) (ty := (.object "MatchingService$MoveLog")) jU_X3 tyX3_ok nmX3 rfl 2 (by decide) rfl rfl rfl (by decide +kernel) C Hi kfl_X3_23 0 rfl rfl rfl (Nat.le_of_ble_eq_true rfl) dX3_init_24 ?_
  refine jw_eqw [(b, .inr (3, [.ref p, .ref r, .ref g, .ref q0])), jAZ G q0 40 (jbF (fun _ => false))] rfl ?_
  exact hret _ _ (fun i => ([q0] : List Nat).getD i 0) dX3_init_27 trivial
set_option maxRecDepth 100000 in
set_option maxHeartbeats 4000000 in
theorem c_X0_init (G : jG) (b p : Nat) : CV G yX0_init cX0_init 2 (jrm 1 20 8 160) [.ref b, .ref p] [(b, .inr (0, [.null, .null, .null, .null, .null, .null, .int (iI 0), .null, .null, .null]))] (fun _ : (Nat → Nat) => True) (fun ad : Nat → Nat => [(b, .inr (0, [.ref p, .ref (ad 0), .ref (ad 1), .ref (ad 2), .ref (ad 3), .ref (ad 4), .int (iI 0), .ref (ad 5), .ref (ad 6), .ref (ad 7)])), jAI G (ad 0) 40 (jiI z0), jAI G (ad 1) 40 (jiI z0), jAI G (ad 2) 12 (jiI z0), jAI G (ad 3) 4 (jiI z0), jAI G (ad 4) 16 (jiI z0), jAZ G (ad 5) 16 (jbF (fun _ => false)), jAI G (ad 6) 16 (jiI z0), jAI G (ad 7) 16 (jiI z0)]) 8 160 := by
  refine cvi_intro (own := RX0) [some (.ref b), some (.ref p)] (by decide) rfl rfl rfl rfl (Nat.le_of_ble_eq_true rfl) (fun X C Hi hret => ?_)
  refine jw_aload_0 (pc := 0) C dX0_init_0 ?_
  refine jw_objInit (pc := 1) C kml_X0_3 (Nat.le_of_ble_eq_true rfl) (Nat.le_of_ble_eq_true rfl) dX0_init_1 rfl ?_
  refine jw_aload_0 (pc := 4) C dX0_init_4 ?_
  refine jw_bipush (pc := 5) C dX0_init_5 (by decide) ?_
  refine jw_newaI (pc := 7) C 40 (by decide) ⟨Nat.le_of_ble_eq_true rfl, Nat.le_of_ble_eq_true rfl⟩ dX0_init_7 (fun q0 => ?_)
  refine jw_eqw [(b, .inr (0, [.null, .null, .null, .null, .null, .null, .int (iI 0), .null, .null, .null])), jAI G q0 40 (jiI (fun _ => 0))] rfl ?_
  refine jw_putF (pc := 9) (ty := (.array .int)) jU_X0 tyX0_ok nmX0 rfl 1 (by decide) rfl rfl rfl (by decide +kernel) C Hi kfl_X0_9 0 rfl rfl rfl (Nat.le_of_ble_eq_true rfl) dX0_init_9 ?_
  refine jw_eqw [(b, .inr (0, [.null, .ref q0, .null, .null, .null, .null, .int (iI 0), .null, .null, .null])), jAI G q0 40 (jiI (fun _ => 0))] rfl ?_
  refine jw_aload_0 (pc := 12) C dX0_init_12 ?_
  refine jw_bipush (pc := 13) C dX0_init_13 (by decide) ?_
  refine jw_newaI (pc := 15) C 40 (by decide) ⟨Nat.le_of_ble_eq_true rfl, Nat.le_of_ble_eq_true rfl⟩ dX0_init_15 (fun q1 => ?_)
  refine jw_eqw [(b, .inr (0, [.null, .ref q0, .null, .null, .null, .null, .int (iI 0), .null, .null, .null])), jAI G q0 40 (jiI (fun _ => 0)), jAI G q1 40 (jiI (fun _ => 0))] rfl ?_
  refine jw_putF (pc := 17) (ty := (.array .int)) jU_X0 tyX0_ok nmX0 rfl 2 (by decide) rfl rfl rfl (by decide +kernel) C Hi kfl_X0_15 0 rfl rfl rfl (Nat.le_of_ble_eq_true rfl) dX0_init_17 ?_
  refine jw_eqw [(b, .inr (0, [.null, .ref q0, .ref q1, .null, .null, .null, .int (iI 0), .null, .null, .null])), jAI G q0 40 (jiI (fun _ => 0)), jAI G q1 40 (jiI (fun _ => 0))] rfl ?_
  refine jw_aload_0 (pc := 20) C dX0_init_20 ?_
  refine jw_bipush (pc := 21) C dX0_init_21 (by decide) ?_
  refine jw_newaI (pc := 23) C 12 (by decide) ⟨Nat.le_of_ble_eq_true rfl, Nat.le_of_ble_eq_true rfl⟩ dX0_init_23 (fun q2 => ?_)
  refine jw_eqw [(b, .inr (0, [.null, .ref q0, .ref q1, .null, .null, .null, .int (iI 0), .null, .null, .null])), jAI G q0 40 (jiI (fun _ => 0)), jAI G q1 40 (jiI (fun _ => 0)), jAI G q2 12 (jiI (fun _ => 0))] rfl ?_
  refine jw_putF (pc := 25) (ty := (.array .int)) jU_X0 tyX0_ok nmX0 rfl 3 (by decide) rfl rfl rfl (by decide +kernel) C Hi kfl_X0_18 0 rfl rfl rfl (Nat.le_of_ble_eq_true rfl) dX0_init_25 ?_
  refine jw_eqw [(b, .inr (0, [.null, .ref q0, .ref q1, .ref q2, .null, .null, .int (iI 0), .null, .null, .null])), jAI G q0 40 (jiI (fun _ => 0)), jAI G q1 40 (jiI (fun _ => 0)), jAI G q2 12 (jiI (fun _ => 0))] rfl ?_
  refine jw_aload_0 (pc := 28) C dX0_init_28 ?_
  refine jw_iconst (pc := 29) C dX0_init_29 ?_
  refine jw_newaI (pc := 30) C 4 (by decide) ⟨Nat.le_of_ble_eq_true rfl, Nat.le_of_ble_eq_true rfl⟩ dX0_init_30 (fun q3 => ?_)
  refine jw_eqw [(b, .inr (0, [.null, .ref q0, .ref q1, .ref q2, .null, .null, .int (iI 0), .null, .null, .null])), jAI G q0 40 (jiI (fun _ => 0)), jAI G q1 40 (jiI (fun _ => 0)), jAI G q2 12 (jiI (fun _ => 0)), jAI G q3 4 (jiI (fun _ => 0))] rfl ?_
  refine jw_putF (pc := 32) (ty := (.array .int)) jU_X0 tyX0_ok nmX0 rfl 4 (by decide) rfl rfl rfl (by decide +kernel) C Hi kfl_X0_21 0 rfl rfl rfl (Nat.le_of_ble_eq_true rfl) dX0_init_32 ?_
  refine jw_eqw [(b, .inr (0, [.null, .ref q0, .ref q1, .ref q2, .ref q3, .null, .int (iI 0), .null, .null, .null])), jAI G q0 40 (jiI (fun _ => 0)), jAI G q1 40 (jiI (fun _ => 0)), jAI G q2 12 (jiI (fun _ => 0)), jAI G q3 4 (jiI (fun _ => 0))] rfl ?_
  refine jw_aload_0 (pc := 35) C dX0_init_35 ?_
  refine jw_bipush (pc := 36) C dX0_init_36 (by decide) ?_
  refine jw_newaI (pc := 38) C 16 (by decide) ⟨Nat.le_of_ble_eq_true rfl, Nat.le_of_ble_eq_true rfl⟩ dX0_init_38 (fun q4 => ?_)
  refine jw_eqw [(b, .inr (0, [.null, .ref q0, .ref q1, .ref q2, .ref q3, .null, .int (iI 0), .null, .null, .null])), jAI G q0 40 (jiI (fun _ => 0)), jAI G q1 40 (jiI (fun _ => 0)), jAI G q2 12 (jiI (fun _ => 0)), jAI G q3 4 (jiI (fun _ => 0)), jAI G q4 16 (jiI (fun _ => 0))] rfl ?_
  refine jw_putF (pc := 40) (ty := (.array .int)) jU_X0 tyX0_ok nmX0 rfl 5 (by decide) rfl rfl rfl (by decide +kernel) C Hi kfl_X0_24 0 rfl rfl rfl (Nat.le_of_ble_eq_true rfl) dX0_init_40 ?_
  refine jw_eqw [(b, .inr (0, [.null, .ref q0, .ref q1, .ref q2, .ref q3, .ref q4, .int (iI 0), .null, .null, .null])), jAI G q0 40 (jiI (fun _ => 0)), jAI G q1 40 (jiI (fun _ => 0)), jAI G q2 12 (jiI (fun _ => 0)), jAI G q3 4 (jiI (fun _ => 0)), jAI G q4 16 (jiI (fun _ => 0))] rfl ?_
  refine jw_aload_0 (pc := 43) C dX0_init_43 ?_
  refine jw_bipush (pc := 44) C dX0_init_44 (by decide) ?_
  refine jw_newaZ (pc := 46) C 16 (by decide) ⟨Nat.le_of_ble_eq_true rfl, Nat.le_of_ble_eq_true rfl⟩ dX0_init_46 (fun q5 => ?_)
  refine jw_eqw [(b, .inr (0, [.null, .ref q0, .ref q1, .ref q2, .ref q3, .ref q4, .int (iI 0), .null, .null, .null])), jAI G q0 40 (jiI (fun _ => 0)), jAI G q1 40 (jiI (fun _ => 0)), jAI G q2 12 (jiI (fun _ => 0)), jAI G q3 4 (jiI (fun _ => 0)), jAI G q4 16 (jiI (fun _ => 0)), jAZ G q5 16 (jbF (fun _ => false))] rfl ?_
  refine jw_putF (pc := 48) (ty := (.array .boolean)) jU_X0 tyX0_ok nmX0 rfl 7 (by decide) rfl rfl rfl (by decide +kernel) C Hi kfl_X0_27 0 rfl rfl rfl (Nat.le_of_ble_eq_true rfl) dX0_init_48 ?_
  refine jw_eqw [(b, .inr (0, [.null, .ref q0, .ref q1, .ref q2, .ref q3, .ref q4, .int (iI 0), .ref q5, .null, .null])), jAI G q0 40 (jiI (fun _ => 0)), jAI G q1 40 (jiI (fun _ => 0)), jAI G q2 12 (jiI (fun _ => 0)), jAI G q3 4 (jiI (fun _ => 0)), jAI G q4 16 (jiI (fun _ => 0)), jAZ G q5 16 (jbF (fun _ => false))] rfl ?_
  refine jw_aload_0 (pc := 51) C dX0_init_51 ?_
  refine jw_bipush (pc := 52) C dX0_init_52 (by decide) ?_
  refine jw_newaI (pc := 54) C 16 (by decide) ⟨Nat.le_of_ble_eq_true rfl, Nat.le_of_ble_eq_true rfl⟩ dX0_init_54 (fun q6 => ?_)
  refine jw_eqw [(b, .inr (0, [.null, .ref q0, .ref q1, .ref q2, .ref q3, .ref q4, .int (iI 0), .ref q5, .null, .null])), jAI G q0 40 (jiI (fun _ => 0)), jAI G q1 40 (jiI (fun _ => 0)), jAI G q2 12 (jiI (fun _ => 0)), jAI G q3 4 (jiI (fun _ => 0)), jAI G q4 16 (jiI (fun _ => 0)), jAZ G q5 16 (jbF (fun _ => false)), jAI G q6 16 (jiI (fun _ => 0))] rfl ?_
  refine jw_putF (pc := 56) (ty := (.array .int)) jU_X0 tyX0_ok nmX0 rfl 8 (by decide) rfl rfl rfl (by decide +kernel) C Hi kfl_X0_31 0 rfl rfl rfl (Nat.le_of_ble_eq_true rfl) dX0_init_56 ?_
  refine jw_eqw [(b, .inr (0, [.null, .ref q0, .ref q1, .ref q2, .ref q3, .ref q4, .int (iI 0), .ref q5, .ref q6, .null])), jAI G q0 40 (jiI (fun _ => 0)), jAI G q1 40 (jiI (fun _ => 0)), jAI G q2 12 (jiI (fun _ => 0)), jAI G q3 4 (jiI (fun _ => 0)), jAI G q4 16 (jiI (fun _ => 0)), jAZ G q5 16 (jbF (fun _ => false)), jAI G q6 16 (jiI (fun _ => 0))] rfl ?_
  refine jw_aload_0 (pc := 59) C dX0_init_59 ?_
  refine jw_bipush (pc := 60) C dX0_init_60 (by decide) ?_
  refine jw_newaI (pc := 62) C 16 (by decide) ⟨Nat.le_of_ble_eq_true rfl, Nat.le_of_ble_eq_true rfl⟩ dX0_init_62 (fun q7 => ?_)
  refine jw_eqw [(b, .inr (0, [.null, .ref q0, .ref q1, .ref q2, .ref q3, .ref q4, .int (iI 0), .ref q5, .ref q6, .null])), jAI G q0 40 (jiI (fun _ => 0)), jAI G q1 40 (jiI (fun _ => 0)), jAI G q2 12 (jiI (fun _ => 0)), jAI G q3 4 (jiI (fun _ => 0)), jAI G q4 16 (jiI (fun _ => 0)), jAZ G q5 16 (jbF (fun _ => false)), jAI G q6 16 (jiI (fun _ => 0)), jAI G q7 16 (jiI (fun _ => 0))] rfl ?_
  refine jw_putF (pc := 64) (ty := (.array .int)) jU_X0 tyX0_ok nmX0 rfl 9 (by decide) rfl rfl rfl (by decide +kernel) C Hi kfl_X0_34 0 rfl rfl rfl (Nat.le_of_ble_eq_true rfl) dX0_init_64 ?_
  refine jw_eqw [(b, .inr (0, [.null, .ref q0, .ref q1, .ref q2, .ref q3, .ref q4, .int (iI 0), .ref q5, .ref q6, .ref q7])), jAI G q0 40 (jiI (fun _ => 0)), jAI G q1 40 (jiI (fun _ => 0)), jAI G q2 12 (jiI (fun _ => 0)), jAI G q3 4 (jiI (fun _ => 0)), jAI G q4 16 (jiI (fun _ => 0)), jAZ G q5 16 (jbF (fun _ => false)), jAI G q6 16 (jiI (fun _ => 0)), jAI G q7 16 (jiI (fun _ => 0))] rfl ?_
  refine jw_aload_0 (pc := 67) C dX0_init_67 ?_
  refine jw_aload_1 (pc := 68) C dX0_init_68 ?_
  refine jw_putF (pc := 69) (ty := (.object "MatchingService$Pool")) jU_X0 tyX0_ok nmX0 rfl 0 (by decide) rfl rfl rfl (by decide +kernel) C Hi kfl_X0_37 0 rfl rfl rfl (Nat.le_of_ble_eq_true rfl) dX0_init_69 ?_
  refine jw_eqw [(b, .inr (0, [.ref p, .ref q0, .ref q1, .ref q2, .ref q3, .ref q4, .int (iI 0), .ref q5, .ref q6, .ref q7])), jAI G q0 40 (jiI (fun _ => 0)), jAI G q1 40 (jiI (fun _ => 0)), jAI G q2 12 (jiI (fun _ => 0)), jAI G q3 4 (jiI (fun _ => 0)), jAI G q4 16 (jiI (fun _ => 0)), jAZ G q5 16 (jbF (fun _ => false)), jAI G q6 16 (jiI (fun _ => 0)), jAI G q7 16 (jiI (fun _ => 0))] rfl ?_
  exact hret _ _ (fun i => ([q0, q1, q2, q3, q4, q5, q6, q7] : List Nat).getD i 0) dX0_init_72 trivial
set_option maxRecDepth 100000 in
set_option maxHeartbeats 4000000 in
theorem c_X4_init (G : jG) (b : Nat) : CV G yX4_init cX4_init 2 (jrm 1 20 9 196) [.ref b] [(b, .inr (4, [.int (iI 0), .null, .null, .null, .null, .null, .int (iI 0), .null, .null, .null, .null, .int (iI 0), .int (iI 0)]))] (fun _ : (Nat → Nat) => True) (fun ad : Nat → Nat => [(b, .inr (4, [.int (iI 0), .ref (ad 0), .ref (ad 1), .ref (ad 2), .ref (ad 3), .ref (ad 4), .int (iI 0), .ref (ad 5), .ref (ad 6), .ref (ad 7), .ref (ad 8), .int (iI 2), .int (iI 3)])), jAI G (ad 0) 12 (jiI z0), jAI G (ad 1) 12 (jiI z0), jAI G (ad 2) 4 (jiI (fl 40 4)), jAI G (ad 3) 4 (jiI (fl 1 4)), jAI G (ad 4) 4 (jiI z0), jAI G (ad 5) 40 (jiI z0), jAI G (ad 6) 40 (jiI z0), jAI G (ad 7) 40 (jiI z0), jAI G (ad 8) 40 (jiI z0)]) 9 196 := by
  refine cvi_intro (own := RX4) [some (.ref b), none] (by decide) rfl rfl rfl rfl (Nat.le_of_ble_eq_true rfl) (fun X C Hi hret => ?_)
  refine jw_aload_0 (pc := 0) C dX4_init_0 ?_
  refine jw_objInit (pc := 1) C kml_X4_3 (Nat.le_of_ble_eq_true rfl) (Nat.le_of_ble_eq_true rfl) dX4_init_1 rfl ?_
  refine jw_aload_0 (pc := 4) C dX4_init_4 ?_
  refine jw_bipush (pc := 5) C dX4_init_5 (by decide) ?_
  refine jw_newaI (pc := 7) C 12 (by decide) ⟨Nat.le_of_ble_eq_true rfl, Nat.le_of_ble_eq_true rfl⟩ dX4_init_7 (fun q0 => ?_)
  refine jw_eqw [(b, .inr (4, [.int (iI 0), .null, .null, .null, .null, .null, .int (iI 0), .null, .null, .null, .null, .int (iI 0), .int (iI 0)])), jAI G q0 12 (jiI (fun _ => 0))] rfl ?_
  refine jw_putF (pc := 9) (ty := (.array .int)) jU_X4 tyX4_ok nmX4 rfl 1 (by decide) rfl rfl rfl (by decide +kernel) C Hi kfl_X4_9 0 rfl rfl rfl (Nat.le_of_ble_eq_true rfl) dX4_init_9 ?_
  refine jw_eqw [(b, .inr (4, [.int (iI 0), .ref q0, .null, .null, .null, .null, .int (iI 0), .null, .null, .null, .null, .int (iI 0), .int (iI 0)])), jAI G q0 12 (jiI (fun _ => 0))] rfl ?_
  refine jw_aload_0 (pc := 12) C dX4_init_12 ?_
  refine jw_bipush (pc := 13) C dX4_init_13 (by decide) ?_
  refine jw_newaI (pc := 15) C 12 (by decide) ⟨Nat.le_of_ble_eq_true rfl, Nat.le_of_ble_eq_true rfl⟩ dX4_init_15 (fun q1 => ?_)
  refine jw_eqw [(b, .inr (4, [.int (iI 0), .ref q0, .null, .null, .null, .null, .int (iI 0), .null, .null, .null, .null, .int (iI 0), .int (iI 0)])), jAI G q0 12 (jiI (fun _ => 0)), jAI G q1 12 (jiI (fun _ => 0))] rfl ?_
  refine jw_putF (pc := 17) (ty := (.array .int)) jU_X4 tyX4_ok nmX4 rfl 2 (by decide) rfl rfl rfl (by decide +kernel) C Hi kfl_X4_15 0 rfl rfl rfl (Nat.le_of_ble_eq_true rfl) dX4_init_17 ?_
  refine jw_eqw [(b, .inr (4, [.int (iI 0), .ref q0, .ref q1, .null, .null, .null, .int (iI 0), .null, .null, .null, .null, .int (iI 0), .int (iI 0)])), jAI G q0 12 (jiI (fun _ => 0)), jAI G q1 12 (jiI (fun _ => 0))] rfl ?_
  refine jw_aload_0 (pc := 20) C dX4_init_20 ?_
  refine jw_iconst (pc := 21) C dX4_init_21 ?_
  refine jw_newaI (pc := 22) C 4 (by decide) ⟨Nat.le_of_ble_eq_true rfl, Nat.le_of_ble_eq_true rfl⟩ dX4_init_22 (fun q2 => ?_)
  refine jw_eqw [(b, .inr (4, [.int (iI 0), .ref q0, .ref q1, .null, .null, .null, .int (iI 0), .null, .null, .null, .null, .int (iI 0), .int (iI 0)])), jAI G q0 12 (jiI (fun _ => 0)), jAI G q1 12 (jiI (fun _ => 0)), jAI G q2 4 (jiI (fun _ => 0))] rfl ?_
  refine jw_putF (pc := 24) (ty := (.array .int)) jU_X4 tyX4_ok nmX4 rfl 3 (by decide) rfl rfl rfl (by decide +kernel) C Hi kfl_X4_18 0 rfl rfl rfl (Nat.le_of_ble_eq_true rfl) dX4_init_24 ?_
  refine jw_eqw [(b, .inr (4, [.int (iI 0), .ref q0, .ref q1, .ref q2, .null, .null, .int (iI 0), .null, .null, .null, .null, .int (iI 0), .int (iI 0)])), jAI G q0 12 (jiI (fun _ => 0)), jAI G q1 12 (jiI (fun _ => 0)), jAI G q2 4 (jiI (fun _ => 0))] rfl ?_
  refine jw_aload_0 (pc := 27) C dX4_init_27 ?_
  refine jw_iconst (pc := 28) C dX4_init_28 ?_
  refine jw_newaI (pc := 29) C 4 (by decide) ⟨Nat.le_of_ble_eq_true rfl, Nat.le_of_ble_eq_true rfl⟩ dX4_init_29 (fun q3 => ?_)
  refine jw_eqw [(b, .inr (4, [.int (iI 0), .ref q0, .ref q1, .ref q2, .null, .null, .int (iI 0), .null, .null, .null, .null, .int (iI 0), .int (iI 0)])), jAI G q0 12 (jiI (fun _ => 0)), jAI G q1 12 (jiI (fun _ => 0)), jAI G q2 4 (jiI (fun _ => 0)), jAI G q3 4 (jiI (fun _ => 0))] rfl ?_
  refine jw_putF (pc := 31) (ty := (.array .int)) jU_X4 tyX4_ok nmX4 rfl 4 (by decide) rfl rfl rfl (by decide +kernel) C Hi kfl_X4_21 0 rfl rfl rfl (Nat.le_of_ble_eq_true rfl) dX4_init_31 ?_
  refine jw_eqw [(b, .inr (4, [.int (iI 0), .ref q0, .ref q1, .ref q2, .ref q3, .null, .int (iI 0), .null, .null, .null, .null, .int (iI 0), .int (iI 0)])), jAI G q0 12 (jiI (fun _ => 0)), jAI G q1 12 (jiI (fun _ => 0)), jAI G q2 4 (jiI (fun _ => 0)), jAI G q3 4 (jiI (fun _ => 0))] rfl ?_
  refine jw_aload_0 (pc := 34) C dX4_init_34 ?_
  refine jw_iconst (pc := 35) C dX4_init_35 ?_
  refine jw_newaI (pc := 36) C 4 (by decide) ⟨Nat.le_of_ble_eq_true rfl, Nat.le_of_ble_eq_true rfl⟩ dX4_init_36 (fun q4 => ?_)
  refine jw_eqw [(b, .inr (4, [.int (iI 0), .ref q0, .ref q1, .ref q2, .ref q3, .null, .int (iI 0), .null, .null, .null, .null, .int (iI 0), .int (iI 0)])), jAI G q0 12 (jiI (fun _ => 0)), jAI G q1 12 (jiI (fun _ => 0)), jAI G q2 4 (jiI (fun _ => 0)), jAI G q3 4 (jiI (fun _ => 0)), jAI G q4 4 (jiI (fun _ => 0))] rfl ?_
  refine jw_putF (pc := 38) (ty := (.array .int)) jU_X4 tyX4_ok nmX4 rfl 5 (by decide) rfl rfl rfl (by decide +kernel) C Hi kfl_X4_24 0 rfl rfl rfl (Nat.le_of_ble_eq_true rfl) dX4_init_38 ?_
  refine jw_eqw [(b, .inr (4, [.int (iI 0), .ref q0, .ref q1, .ref q2, .ref q3, .ref q4, .int (iI 0), .null, .null, .null, .null, .int (iI 0), .int (iI 0)])), jAI G q0 12 (jiI (fun _ => 0)), jAI G q1 12 (jiI (fun _ => 0)), jAI G q2 4 (jiI (fun _ => 0)), jAI G q3 4 (jiI (fun _ => 0)), jAI G q4 4 (jiI (fun _ => 0))] rfl ?_
  refine jw_aload_0 (pc := 41) C dX4_init_41 ?_
  refine jw_bipush (pc := 42) C dX4_init_42 (by decide) ?_
  refine jw_newaI (pc := 44) C 40 (by decide) ⟨Nat.le_of_ble_eq_true rfl, Nat.le_of_ble_eq_true rfl⟩ dX4_init_44 (fun q5 => ?_)
  refine jw_eqw [(b, .inr (4, [.int (iI 0), .ref q0, .ref q1, .ref q2, .ref q3, .ref q4, .int (iI 0), .null, .null, .null, .null, .int (iI 0), .int (iI 0)])), jAI G q0 12 (jiI (fun _ => 0)), jAI G q1 12 (jiI (fun _ => 0)), jAI G q2 4 (jiI (fun _ => 0)), jAI G q3 4 (jiI (fun _ => 0)), jAI G q4 4 (jiI (fun _ => 0)), jAI G q5 40 (jiI (fun _ => 0))] rfl ?_
  refine jw_putF (pc := 46) (ty := (.array .int)) jU_X4 tyX4_ok nmX4 rfl 7 (by decide) rfl rfl rfl (by decide +kernel) C Hi kfl_X4_27 0 rfl rfl rfl (Nat.le_of_ble_eq_true rfl) dX4_init_46 ?_
  refine jw_eqw [(b, .inr (4, [.int (iI 0), .ref q0, .ref q1, .ref q2, .ref q3, .ref q4, .int (iI 0), .ref q5, .null, .null, .null, .int (iI 0), .int (iI 0)])), jAI G q0 12 (jiI (fun _ => 0)), jAI G q1 12 (jiI (fun _ => 0)), jAI G q2 4 (jiI (fun _ => 0)), jAI G q3 4 (jiI (fun _ => 0)), jAI G q4 4 (jiI (fun _ => 0)), jAI G q5 40 (jiI (fun _ => 0))] rfl ?_
  refine jw_aload_0 (pc := 49) C dX4_init_49 ?_
  refine jw_bipush (pc := 50) C dX4_init_50 (by decide) ?_
  refine jw_newaI (pc := 52) C 40 (by decide) ⟨Nat.le_of_ble_eq_true rfl, Nat.le_of_ble_eq_true rfl⟩ dX4_init_52 (fun q6 => ?_)
  refine jw_eqw [(b, .inr (4, [.int (iI 0), .ref q0, .ref q1, .ref q2, .ref q3, .ref q4, .int (iI 0), .ref q5, .null, .null, .null, .int (iI 0), .int (iI 0)])), jAI G q0 12 (jiI (fun _ => 0)), jAI G q1 12 (jiI (fun _ => 0)), jAI G q2 4 (jiI (fun _ => 0)), jAI G q3 4 (jiI (fun _ => 0)), jAI G q4 4 (jiI (fun _ => 0)), jAI G q5 40 (jiI (fun _ => 0)), jAI G q6 40 (jiI (fun _ => 0))] rfl ?_
  refine jw_putF (pc := 54) (ty := (.array .int)) jU_X4 tyX4_ok nmX4 rfl 8 (by decide) rfl rfl rfl (by decide +kernel) C Hi kfl_X4_30 0 rfl rfl rfl (Nat.le_of_ble_eq_true rfl) dX4_init_54 ?_
  refine jw_eqw [(b, .inr (4, [.int (iI 0), .ref q0, .ref q1, .ref q2, .ref q3, .ref q4, .int (iI 0), .ref q5, .ref q6, .null, .null, .int (iI 0), .int (iI 0)])), jAI G q0 12 (jiI (fun _ => 0)), jAI G q1 12 (jiI (fun _ => 0)), jAI G q2 4 (jiI (fun _ => 0)), jAI G q3 4 (jiI (fun _ => 0)), jAI G q4 4 (jiI (fun _ => 0)), jAI G q5 40 (jiI (fun _ => 0)), jAI G q6 40 (jiI (fun _ => 0))] rfl ?_
  refine jw_aload_0 (pc := 57) C dX4_init_57 ?_
  refine jw_bipush (pc := 58) C dX4_init_58 (by decide) ?_
  refine jw_newaI (pc := 60) C 40 (by decide) ⟨Nat.le_of_ble_eq_true rfl, Nat.le_of_ble_eq_true rfl⟩ dX4_init_60 (fun q7 => ?_)
  refine jw_eqw [(b, .inr (4, [.int (iI 0), .ref q0, .ref q1, .ref q2, .ref q3, .ref q4, .int (iI 0), .ref q5, .ref q6, .null, .null, .int (iI 0), .int (iI 0)])), jAI G q0 12 (jiI (fun _ => 0)), jAI G q1 12 (jiI (fun _ => 0)), jAI G q2 4 (jiI (fun _ => 0)), jAI G q3 4 (jiI (fun _ => 0)), jAI G q4 4 (jiI (fun _ => 0)), jAI G q5 40 (jiI (fun _ => 0)), jAI G q6 40 (jiI (fun _ => 0)), jAI G q7 40 (jiI (fun _ => 0))] rfl ?_
  refine jw_putF (pc := 62) (ty := (.array .int)) jU_X4 tyX4_ok nmX4 rfl 9 (by decide) rfl rfl rfl (by decide +kernel) C Hi kfl_X4_33 0 rfl rfl rfl (Nat.le_of_ble_eq_true rfl) dX4_init_62 ?_
  refine jw_eqw [(b, .inr (4, [.int (iI 0), .ref q0, .ref q1, .ref q2, .ref q3, .ref q4, .int (iI 0), .ref q5, .ref q6, .ref q7, .null, .int (iI 0), .int (iI 0)])), jAI G q0 12 (jiI (fun _ => 0)), jAI G q1 12 (jiI (fun _ => 0)), jAI G q2 4 (jiI (fun _ => 0)), jAI G q3 4 (jiI (fun _ => 0)), jAI G q4 4 (jiI (fun _ => 0)), jAI G q5 40 (jiI (fun _ => 0)), jAI G q6 40 (jiI (fun _ => 0)), jAI G q7 40 (jiI (fun _ => 0))] rfl ?_
  refine jw_aload_0 (pc := 65) C dX4_init_65 ?_
  refine jw_bipush (pc := 66) C dX4_init_66 (by decide) ?_
  refine jw_newaI (pc := 68) C 40 (by decide) ⟨Nat.le_of_ble_eq_true rfl, Nat.le_of_ble_eq_true rfl⟩ dX4_init_68 (fun q8 => ?_)
  refine jw_eqw [(b, .inr (4, [.int (iI 0), .ref q0, .ref q1, .ref q2, .ref q3, .ref q4, .int (iI 0), .ref q5, .ref q6, .ref q7, .null, .int (iI 0), .int (iI 0)])), jAI G q0 12 (jiI (fun _ => 0)), jAI G q1 12 (jiI (fun _ => 0)), jAI G q2 4 (jiI (fun _ => 0)), jAI G q3 4 (jiI (fun _ => 0)), jAI G q4 4 (jiI (fun _ => 0)), jAI G q5 40 (jiI (fun _ => 0)), jAI G q6 40 (jiI (fun _ => 0)), jAI G q7 40 (jiI (fun _ => 0)), jAI G q8 40 (jiI (fun _ => 0))] rfl ?_
  refine jw_putF (pc := 70) (ty := (.array .int)) jU_X4 tyX4_ok nmX4 rfl 10 (by decide) rfl rfl rfl (by decide +kernel) C Hi kfl_X4_36 0 rfl rfl rfl (Nat.le_of_ble_eq_true rfl) dX4_init_70 ?_
  refine jw_eqw [(b, .inr (4, [.int (iI 0), .ref q0, .ref q1, .ref q2, .ref q3, .ref q4, .int (iI 0), .ref q5, .ref q6, .ref q7, .ref q8, .int (iI 0), .int (iI 0)])), jAI G q0 12 (jiI (fun _ => 0)), jAI G q1 12 (jiI (fun _ => 0)), jAI G q2 4 (jiI (fun _ => 0)), jAI G q3 4 (jiI (fun _ => 0)), jAI G q4 4 (jiI (fun _ => 0)), jAI G q5 40 (jiI (fun _ => 0)), jAI G q6 40 (jiI (fun _ => 0)), jAI G q7 40 (jiI (fun _ => 0)), jAI G q8 40 (jiI (fun _ => 0))] rfl ?_
  refine jw_aload_0 (pc := 73) C dX4_init_73 ?_
  refine jw_iconst (pc := 74) C dX4_init_74 ?_
  refine fp_X4_39 (pc := 75) C 0 rfl (Nat.le_of_ble_eq_true rfl) dX4_init_75 ?_
  refine jw_eqw [(b, .inr (4, [.int (iI 0), .ref q0, .ref q1, .ref q2, .ref q3, .ref q4, .int (iI 0), .ref q5, .ref q6, .ref q7, .ref q8, .int (iI 2), .int (iI 0)])), jAI G q0 12 (jiI (fun _ => 0)), jAI G q1 12 (jiI (fun _ => 0)), jAI G q2 4 (jiI (fun _ => 0)), jAI G q3 4 (jiI (fun _ => 0)), jAI G q4 4 (jiI (fun _ => 0)), jAI G q5 40 (jiI (fun _ => 0)), jAI G q6 40 (jiI (fun _ => 0)), jAI G q7 40 (jiI (fun _ => 0)), jAI G q8 40 (jiI (fun _ => 0))] rfl ?_
  refine jw_aload_0 (pc := 78) C dX4_init_78 ?_
  refine jw_iconst (pc := 79) C dX4_init_79 ?_
  refine fp_X4_43 (pc := 80) C 0 rfl (Nat.le_of_ble_eq_true rfl) dX4_init_80 ?_
  refine jw_eqw [(b, .inr (4, [.int (iI 0), .ref q0, .ref q1, .ref q2, .ref q3, .ref q4, .int (iI 0), .ref q5, .ref q6, .ref q7, .ref q8, .int (iI 2), .int (iI 3)])), jAI G q0 12 (jiI (fun _ => 0)), jAI G q1 12 (jiI (fun _ => 0)), jAI G q2 4 (jiI (fun _ => 0)), jAI G q3 4 (jiI (fun _ => 0)), jAI G q4 4 (jiI (fun _ => 0)), jAI G q5 40 (jiI (fun _ => 0)), jAI G q6 40 (jiI (fun _ => 0)), jAI G q7 40 (jiI (fun _ => 0)), jAI G q8 40 (jiI (fun _ => 0))] rfl ?_
  refine jw_iconst (pc := 83) C dX4_init_83 ?_
  refine jw_istore_1 (pc := 84) C dX4_init_84 rfl ?_
  have K : ∀ (N : Nat) (i : Nat), i ≤ 4 → 4 - i < N → JW G X 9 196 [(b, .inr (4, [.int (iI 0), .ref (q0), .ref (q1), .ref (q2), .ref (q3), .ref (q4), .int (iI 0), .ref (q5), .ref (q6), .ref (q7), .ref (q8), .int (iI 2), .int (iI 3)])), jAI G (q0) 12 (jiI z0), jAI G (q1) 12 (jiI z0), jAI G (q2) 4 (jiI (fl 40 i)), jAI G (q3) 4 (jiI (fl 1 i)), jAI G (q4) 4 (jiI z0), jAI G (q5) 40 (jiI z0), jAI G (q6) 40 (jiI z0), jAI G (q7) 40 (jiI z0), jAI G (q8) 40 (jiI z0)] 85 [some (.ref b), some (.int (iI (i : Int)))] [] := by
    intro N
    induction N with
    | zero => intro i hi hm; exact absurd hm (Nat.not_lt_zero _)
    | succ N ih =>
      intro i hi hm
      refine jw_iload_1 (pc := 85) C dX4_init_85 ?_
      refine jw_iconst (pc := 86) C dX4_init_86 ?_
      refine jw_icmp_ge (pc := 87) (tgt := 111) C dX4_init_87 (by decide) ⟨by omega, by omega⟩ ⟨by omega, by omega⟩ (fun c => ?_) (fun c => ?_)
      · obtain rfl : i = 4 := by omega
        exact hret _ _ (fun i => ([q0, q1, q2, q3, q4, q5, q6, q7, q8] : List Nat).getD i 0) dX4_init_111 trivial
      · refine jw_aload_0 (pc := 90) C dX4_init_90 ?_
        refine fg_X4_18 (pc := 91) C 0 rfl rfl dX4_init_91 ?_
        refine jw_iload_1 (pc := 94) C dX4_init_94 ?_
        refine jw_bipush (pc := 95) C dX4_init_95 (by decide) ?_
        refine jw_iast (pc := 97) C 3 rfl i rfl (by omega) (by decide) dX4_init_97 ?_
        refine jw_aload_0 (pc := 98) C dX4_init_98 ?_
        refine fg_X4_21 (pc := 99) C 0 rfl rfl dX4_init_99 ?_
        refine jw_iload_1 (pc := 102) C dX4_init_102 ?_
        refine jw_iconst (pc := 103) C dX4_init_103 ?_
        refine jw_iast (pc := 104) C 4 rfl i rfl (by omega) (by decide) dX4_init_104 ?_
        refine jw_iinc_1 (pc := 105) C dX4_init_105 rfl ?_
        refine jw_goto (pc := 108) (tgt := 85) C dX4_init_108 (by decide) ?_
        have K2 := ih (i + 1) (by omega) (by omega)
        rw [← fl_up, ← fl_up] at K2
        exact K2
  have K3 := K 5 0 (by omega) (by omega)
  rw [fl_0, fl_0] at K3
  exact K3
/-- the first states -/
def sP0 : QP := (0, z0, z0, fl 40 4, fl 1 4, z0, 0, z0, jiI z0, z0, z0, 2, 3)
def sL0 : QL := (z0, z0, 0)
def sA0 : QA := (jiI z0, jiI z0, z0, z0, 0)
def sT0 : Nat → Bool := fun _ => false
def sF0 : QF := (z0, jiI z0, z0, z0, z0, 0, sT0, z0, z0)
def u4 (v : Int) : Nat → Int := updf (updf (updf (updf z0 0 v) 1 v) 2 v) 3 v
def sR0 : QR := (0, 0, z0, u4 40, u4 1, 0, z0, jiI z0, z0, z0, z0, 2, 3, 0, z0, z0, z0, sT0, z0, z0)
set_option maxRecDepth 100000 in
set_option maxHeartbeats 4000000 in
theorem c_X5_init (G : jG) (b : Nat) : CV G yX5_init cX5_init 1 (jrm 2 43 29 881) [.ref b] [(b, .inr (5, [.null, .null, .null, .null, .null]))] (fun ad : Nat → Nat => ad 0 = b) (fun ad : Nat → Nat => wC G ad sP0 sL0 sA0 sT0 sF0) 29 881 := by
  refine cvi_intro (own := RX5) [some (.ref b)] (by decide) rfl rfl rfl rfl (Nat.le_of_ble_eq_true rfl) (fun X C Hi hret => ?_)
  refine jw_aload_0 (pc := 0) C dX5_init_0 ?_
  refine jw_objInit (pc := 1) C kml_X5_1 (Nat.le_of_ble_eq_true rfl) (Nat.le_of_ble_eq_true rfl) dX5_init_1 rfl ?_
  refine jw_aload_0 (pc := 4) C dX5_init_4 ?_
  refine jw_new (pc := 5) (ci := 4) (fs := [.int (iI 0), .null, .null, .null, .null, .null, .int (iI 0), .null, .null, .null, .null, .int (iI 0), .int (iI 0)]) jU_X4 tyX4_ok rfl C kcl_X5_7 kin_X4 kini_X4 (by decide) ⟨Nat.le_of_ble_eq_true rfl, Nat.le_of_ble_eq_true rfl⟩ dX5_init_5 (fun oX4 => ?_)
  refine jw_eqw [(b, .inr (5, [.null, .null, .null, .null, .null])), (oX4, .inr (4, [.int (iI 0), .null, .null, .null, .null, .null, .int (iI 0), .null, .null, .null, .null, .int (iI 0), .int (iI 0)]))] rfl ?_
  refine jw_dup (pc := 8) C dX5_init_8 rfl ?_
  refine jw_sI (pc := 9) (wr := [(b, .inr (5, [.null, .null, .null, .null, .null]))]) C (c_X4_init G oX4) wi_X4_init kml_X5_9 [1] [0] rfl rfl rfl rfl (by decide) rfl rfl (Nat.le_of_ble_eq_true rfl) ⟨by decide, by decide⟩ ⟨Nat.le_of_ble_eq_true rfl, Nat.le_of_ble_eq_true rfl⟩ dX5_init_9 rfl (fun uX4 _ => ?_)
  refine jw_eqw [(b, .inr (5, [.null, .null, .null, .null, .null])), (oX4, .inr (4, [.int (iI 0), .ref (uX4 0), .ref (uX4 1), .ref (uX4 2), .ref (uX4 3), .ref (uX4 4), .int (iI 0), .ref (uX4 5), .ref (uX4 6), .ref (uX4 7), .ref (uX4 8), .int (iI 2), .int (iI 3)])), jAI G (uX4 0) 12 (jiI (fun _ => 0)), jAI G (uX4 1) 12 (jiI (fun _ => 0)), jAI G (uX4 2) 4 (jiI (fl 40 4)), jAI G (uX4 3) 4 (jiI (fl 1 4)), jAI G (uX4 4) 4 (jiI (fun _ => 0)), jAI G (uX4 5) 40 (jiI (fun _ => 0)), jAI G (uX4 6) 40 (jiI (fun _ => 0)), jAI G (uX4 7) 40 (jiI (fun _ => 0)), jAI G (uX4 8) 40 (jiI (fun _ => 0))] rfl ?_
  refine jw_putF (pc := 12) (ty := (.object "MatchingService$Pool")) jU_X5 tyX5_ok nmX5 rfl 0 (by decide) rfl rfl rfl (by decide +kernel) C Hi kfl_X5_10 0 rfl rfl rfl (Nat.le_of_ble_eq_true rfl) dX5_init_12 ?_
  refine jw_eqw [(b, .inr (5, [.ref oX4, .null, .null, .null, .null])), (oX4, .inr (4, [.int (iI 0), .ref (uX4 0), .ref (uX4 1), .ref (uX4 2), .ref (uX4 3), .ref (uX4 4), .int (iI 0), .ref (uX4 5), .ref (uX4 6), .ref (uX4 7), .ref (uX4 8), .int (iI 2), .int (iI 3)])), jAI G (uX4 0) 12 (jiI (fun _ => 0)), jAI G (uX4 1) 12 (jiI (fun _ => 0)), jAI G (uX4 2) 4 (jiI (fl 40 4)), jAI G (uX4 3) 4 (jiI (fl 1 4)), jAI G (uX4 4) 4 (jiI (fun _ => 0)), jAI G (uX4 5) 40 (jiI (fun _ => 0)), jAI G (uX4 6) 40 (jiI (fun _ => 0)), jAI G (uX4 7) 40 (jiI (fun _ => 0)), jAI G (uX4 8) 40 (jiI (fun _ => 0))] rfl ?_
  refine jw_aload_0 (pc := 15) C dX5_init_15 ?_
  refine jw_new (pc := 16) (ci := 1) (fs := [.null, .null, .int (iI 0)]) jU_X1 tyX1_ok rfl C kcl_X5_16 kin_X1 kini_X1 (by decide) ⟨Nat.le_of_ble_eq_true rfl, Nat.le_of_ble_eq_true rfl⟩ dX5_init_16 (fun oX1 => ?_)
  refine jw_eqw [(b, .inr (5, [.ref oX4, .null, .null, .null, .null])), (oX4, .inr (4, [.int (iI 0), .ref (uX4 0), .ref (uX4 1), .ref (uX4 2), .ref (uX4 3), .ref (uX4 4), .int (iI 0), .ref (uX4 5), .ref (uX4 6), .ref (uX4 7), .ref (uX4 8), .int (iI 2), .int (iI 3)])), jAI G (uX4 0) 12 (jiI (fun _ => 0)), jAI G (uX4 1) 12 (jiI (fun _ => 0)), jAI G (uX4 2) 4 (jiI (fl 40 4)), jAI G (uX4 3) 4 (jiI (fl 1 4)), jAI G (uX4 4) 4 (jiI (fun _ => 0)), jAI G (uX4 5) 40 (jiI (fun _ => 0)), jAI G (uX4 6) 40 (jiI (fun _ => 0)), jAI G (uX4 7) 40 (jiI (fun _ => 0)), jAI G (uX4 8) 40 (jiI (fun _ => 0)), (oX1, .inr (1, [.null, .null, .int (iI 0)]))] rfl ?_
  refine jw_dup (pc := 19) C dX5_init_19 rfl ?_
  refine jw_sIN (pc := 20) (wr := [(b, .inr (5, [.ref oX4, .null, .null, .null, .null])), (oX4, .inr (4, [.int (iI 0), .ref (uX4 0), .ref (uX4 1), .ref (uX4 2), .ref (uX4 3), .ref (uX4 4), .int (iI 0), .ref (uX4 5), .ref (uX4 6), .ref (uX4 7), .ref (uX4 8), .int (iI 2), .int (iI 3)])), jAI G (uX4 0) 12 (jiI (fun _ => 0)), jAI G (uX4 1) 12 (jiI (fun _ => 0)), jAI G (uX4 2) 4 (jiI (fl 40 4)), jAI G (uX4 3) 4 (jiI (fl 1 4)), jAI G (uX4 4) 4 (jiI (fun _ => 0)), jAI G (uX4 5) 40 (jiI (fun _ => 0)), jAI G (uX4 6) 40 (jiI (fun _ => 0)), jAI G (uX4 7) 40 (jiI (fun _ => 0)), jAI G (uX4 8) 40 (jiI (fun _ => 0))]) C (c_X1_init G oX1) wi_X1_init kmn_X5_18 [11] [0, 1, 2, 3, 4, 5, 6, 7, 8, 9, 10] rfl rfl rfl rfl (by decide) rfl rfl (Nat.le_of_ble_eq_true rfl) ⟨by decide, by decide⟩ ⟨Nat.le_of_ble_eq_true rfl, Nat.le_of_ble_eq_true rfl⟩ dX5_init_20 rfl (fun uX1 _ => ?_)
  refine jw_eqw [(b, .inr (5, [.ref oX4, .null, .null, .null, .null])), (oX4, .inr (4, [.int (iI 0), .ref (uX4 0), .ref (uX4 1), .ref (uX4 2), .ref (uX4 3), .ref (uX4 4), .int (iI 0), .ref (uX4 5), .ref (uX4 6), .ref (uX4 7), .ref (uX4 8), .int (iI 2), .int (iI 3)])), jAI G (uX4 0) 12 (jiI (fun _ => 0)), jAI G (uX4 1) 12 (jiI (fun _ => 0)), jAI G (uX4 2) 4 (jiI (fl 40 4)), jAI G (uX4 3) 4 (jiI (fl 1 4)), jAI G (uX4 4) 4 (jiI (fun _ => 0)), jAI G (uX4 5) 40 (jiI (fun _ => 0)), jAI G (uX4 6) 40 (jiI (fun _ => 0)), jAI G (uX4 7) 40 (jiI (fun _ => 0)), jAI G (uX4 8) 40 (jiI (fun _ => 0)), (oX1, .inr (1, [.ref (uX1 0), .ref (uX1 1), .int (iI 0)])), jAI G (uX1 0) 200 (jiI (fun _ => 0)), jAI G (uX1 1) 200 (jiI (fun _ => 0))] rfl ?_
  refine jw_putF (pc := 23) (ty := (.object "MatchingService$MoveLog")) jU_X5 tyX5_ok nmX5 rfl 1 (by decide) rfl rfl rfl (by decide +kernel) C Hi kfl_X5_19 0 rfl rfl rfl (Nat.le_of_ble_eq_true rfl) dX5_init_23 ?_
  refine jw_eqw [(b, .inr (5, [.ref oX4, .ref oX1, .null, .null, .null])), (oX4, .inr (4, [.int (iI 0), .ref (uX4 0), .ref (uX4 1), .ref (uX4 2), .ref (uX4 3), .ref (uX4 4), .int (iI 0), .ref (uX4 5), .ref (uX4 6), .ref (uX4 7), .ref (uX4 8), .int (iI 2), .int (iI 3)])), jAI G (uX4 0) 12 (jiI (fun _ => 0)), jAI G (uX4 1) 12 (jiI (fun _ => 0)), jAI G (uX4 2) 4 (jiI (fl 40 4)), jAI G (uX4 3) 4 (jiI (fl 1 4)), jAI G (uX4 4) 4 (jiI (fun _ => 0)), jAI G (uX4 5) 40 (jiI (fun _ => 0)), jAI G (uX4 6) 40 (jiI (fun _ => 0)), jAI G (uX4 7) 40 (jiI (fun _ => 0)), jAI G (uX4 8) 40 (jiI (fun _ => 0)), (oX1, .inr (1, [.ref (uX1 0), .ref (uX1 1), .int (iI 0)])), jAI G (uX1 0) 200 (jiI (fun _ => 0)), jAI G (uX1 1) 200 (jiI (fun _ => 0))] rfl ?_
  refine jw_aload_0 (pc := 26) C dX5_init_26 ?_
  refine jw_new (pc := 27) (ci := 2) (fs := [.null, .null, .null, .null, .null, .int (iI 0)]) jU_X2 tyX2_ok rfl C kcl_X5_23 kin_X2 kini_X2 (by decide) ⟨Nat.le_of_ble_eq_true rfl, Nat.le_of_ble_eq_true rfl⟩ dX5_init_27 (fun oX2 => ?_)
  refine jw_eqw [(b, .inr (5, [.ref oX4, .ref oX1, .null, .null, .null])), (oX4, .inr (4, [.int (iI 0), .ref (uX4 0), .ref (uX4 1), .ref (uX4 2), .ref (uX4 3), .ref (uX4 4), .int (iI 0), .ref (uX4 5), .ref (uX4 6), .ref (uX4 7), .ref (uX4 8), .int (iI 2), .int (iI 3)])), jAI G (uX4 0) 12 (jiI (fun _ => 0)), jAI G (uX4 1) 12 (jiI (fun _ => 0)), jAI G (uX4 2) 4 (jiI (fl 40 4)), jAI G (uX4 3) 4 (jiI (fl 1 4)), jAI G (uX4 4) 4 (jiI (fun _ => 0)), jAI G (uX4 5) 40 (jiI (fun _ => 0)), jAI G (uX4 6) 40 (jiI (fun _ => 0)), jAI G (uX4 7) 40 (jiI (fun _ => 0)), jAI G (uX4 8) 40 (jiI (fun _ => 0)), (oX1, .inr (1, [.ref (uX1 0), .ref (uX1 1), .int (iI 0)])), jAI G (uX1 0) 200 (jiI (fun _ => 0)), jAI G (uX1 1) 200 (jiI (fun _ => 0)), (oX2, .inr (2, [.null, .null, .null, .null, .null, .int (iI 0)]))] rfl ?_
  refine jw_dup (pc := 30) C dX5_init_30 rfl ?_
  refine jw_aload_0 (pc := 31) C dX5_init_31 ?_
  refine fg_X5_10 (pc := 32) C 0 rfl rfl dX5_init_32 ?_
  refine jw_sI (pc := 35) (wr := [(b, .inr (5, [.ref oX4, .ref oX1, .null, .null, .null])), (oX4, .inr (4, [.int (iI 0), .ref (uX4 0), .ref (uX4 1), .ref (uX4 2), .ref (uX4 3), .ref (uX4 4), .int (iI 0), .ref (uX4 5), .ref (uX4 6), .ref (uX4 7), .ref (uX4 8), .int (iI 2), .int (iI 3)])), jAI G (uX4 0) 12 (jiI (fun _ => 0)), jAI G (uX4 1) 12 (jiI (fun _ => 0)), jAI G (uX4 2) 4 (jiI (fl 40 4)), jAI G (uX4 3) 4 (jiI (fl 1 4)), jAI G (uX4 4) 4 (jiI (fun _ => 0)), jAI G (uX4 5) 40 (jiI (fun _ => 0)), jAI G (uX4 6) 40 (jiI (fun _ => 0)), jAI G (uX4 7) 40 (jiI (fun _ => 0)), jAI G (uX4 8) 40 (jiI (fun _ => 0)), (oX1, .inr (1, [.ref (uX1 0), .ref (uX1 1), .int (iI 0)])), jAI G (uX1 0) 200 (jiI (fun _ => 0)), jAI G (uX1 1) 200 (jiI (fun _ => 0))]) C (c_X2_init G oX2 oX4) wi_X2_init kml_X5_25 [14] [0, 1, 2, 3, 4, 5, 6, 7, 8, 9, 10, 11, 12, 13] rfl rfl rfl rfl (by decide) rfl rfl (Nat.le_of_ble_eq_true rfl) ⟨by decide, by decide⟩ ⟨Nat.le_of_ble_eq_true rfl, Nat.le_of_ble_eq_true rfl⟩ dX5_init_35 rfl (fun uX2 _ => ?_)
  refine jw_eqw [(b, .inr (5, [.ref oX4, .ref oX1, .null, .null, .null])), (oX4, .inr (4, [.int (iI 0), .ref (uX4 0), .ref (uX4 1), .ref (uX4 2), .ref (uX4 3), .ref (uX4 4), .int (iI 0), .ref (uX4 5), .ref (uX4 6), .ref (uX4 7), .ref (uX4 8), .int (iI 2), .int (iI 3)])), jAI G (uX4 0) 12 (jiI (fun _ => 0)), jAI G (uX4 1) 12 (jiI (fun _ => 0)), jAI G (uX4 2) 4 (jiI (fl 40 4)), jAI G (uX4 3) 4 (jiI (fl 1 4)), jAI G (uX4 4) 4 (jiI (fun _ => 0)), jAI G (uX4 5) 40 (jiI (fun _ => 0)), jAI G (uX4 6) 40 (jiI (fun _ => 0)), jAI G (uX4 7) 40 (jiI (fun _ => 0)), jAI G (uX4 8) 40 (jiI (fun _ => 0)), (oX1, .inr (1, [.ref (uX1 0), .ref (uX1 1), .int (iI 0)])), jAI G (uX1 0) 200 (jiI (fun _ => 0)), jAI G (uX1 1) 200 (jiI (fun _ => 0)), (oX2, .inr (2, [.ref oX4, .ref (uX2 0), .ref (uX2 1), .ref (uX2 2), .ref (uX2 3), .int (iI 0)])), jAI G (uX2 0) 12 (jiI (fun _ => 0)), jAI G (uX2 1) 13 (jiI (fun _ => 0)), jAI G (uX2 2) 12 (jiI (fun _ => 0)), jAI G (uX2 3) 12 (jiI (fun _ => 0))] rfl ?_
  refine jw_putF (pc := 38) (ty := (.object "MatchingService$PathSearch")) jU_X5 tyX5_ok nmX5 rfl 2 (by decide) rfl rfl rfl (by decide +kernel) C Hi kfl_X5_28 0 rfl rfl rfl (Nat.le_of_ble_eq_true rfl) dX5_init_38 ?_
  refine jw_eqw [(b, .inr (5, [.ref oX4, .ref oX1, .ref oX2, .null, .null])), (oX4, .inr (4, [.int (iI 0), .ref (uX4 0), .ref (uX4 1), .ref (uX4 2), .ref (uX4 3), .ref (uX4 4), .int (iI 0), .ref (uX4 5), .ref (uX4 6), .ref (uX4 7), .ref (uX4 8), .int (iI 2), .int (iI 3)])), jAI G (uX4 0) 12 (jiI (fun _ => 0)), jAI G (uX4 1) 12 (jiI (fun _ => 0)), jAI G (uX4 2) 4 (jiI (fl 40 4)), jAI G (uX4 3) 4 (jiI (fl 1 4)), jAI G (uX4 4) 4 (jiI (fun _ => 0)), jAI G (uX4 5) 40 (jiI (fun _ => 0)), jAI G (uX4 6) 40 (jiI (fun _ => 0)), jAI G (uX4 7) 40 (jiI (fun _ => 0)), jAI G (uX4 8) 40 (jiI (fun _ => 0)), (oX1, .inr (1, [.ref (uX1 0), .ref (uX1 1), .int (iI 0)])), jAI G (uX1 0) 200 (jiI (fun _ => 0)), jAI G (uX1 1) 200 (jiI (fun _ => 0)), (oX2, .inr (2, [.ref oX4, .ref (uX2 0), .ref (uX2 1), .ref (uX2 2), .ref (uX2 3), .int (iI 0)])), jAI G (uX2 0) 12 (jiI (fun _ => 0)), jAI G (uX2 1) 13 (jiI (fun _ => 0)), jAI G (uX2 2) 12 (jiI (fun _ => 0)), jAI G (uX2 3) 12 (jiI (fun _ => 0))] rfl ?_
  refine jw_aload_0 (pc := 41) C dX5_init_41 ?_
  refine jw_new (pc := 42) (ci := 3) (fs := [.null, .null, .null, .null]) jU_X3 tyX3_ok rfl C kcl_X5_32 kin_X3 kini_X3 (by decide) ⟨Nat.le_of_ble_eq_true rfl, Nat.le_of_ble_eq_true rfl⟩ dX5_init_42 (fun oX3 => ?_)
  refine jw_eqw [(b, .inr (5, [.ref oX4, .ref oX1, .ref oX2, .null, .null])), (oX4, .inr (4, [.int (iI 0), .ref (uX4 0), .ref (uX4 1), .ref (uX4 2), .ref (uX4 3), .ref (uX4 4), .int (iI 0), .ref (uX4 5), .ref (uX4 6), .ref (uX4 7), .ref (uX4 8), .int (iI 2), .int (iI 3)])), jAI G (uX4 0) 12 (jiI (fun _ => 0)), jAI G (uX4 1) 12 (jiI (fun _ => 0)), jAI G (uX4 2) 4 (jiI (fl 40 4)), jAI G (uX4 3) 4 (jiI (fl 1 4)), jAI G (uX4 4) 4 (jiI (fun _ => 0)), jAI G (uX4 5) 40 (jiI (fun _ => 0)), jAI G (uX4 6) 40 (jiI (fun _ => 0)), jAI G (uX4 7) 40 (jiI (fun _ => 0)), jAI G (uX4 8) 40 (jiI (fun _ => 0)), (oX1, .inr (1, [.ref (uX1 0), .ref (uX1 1), .int (iI 0)])), jAI G (uX1 0) 200 (jiI (fun _ => 0)), jAI G (uX1 1) 200 (jiI (fun _ => 0)), (oX2, .inr (2, [.ref oX4, .ref (uX2 0), .ref (uX2 1), .ref (uX2 2), .ref (uX2 3), .int (iI 0)])), jAI G (uX2 0) 12 (jiI (fun _ => 0)), jAI G (uX2 1) 13 (jiI (fun _ => 0)), jAI G (uX2 2) 12 (jiI (fun _ => 0)), jAI G (uX2 3) 12 (jiI (fun _ => 0)), (oX3, .inr (3, [.null, .null, .null, .null]))] rfl ?_
  refine jw_dup (pc := 45) C dX5_init_45 rfl ?_
  refine jw_aload_0 (pc := 46) C dX5_init_46 ?_
  refine fg_X5_10 (pc := 47) C 0 rfl rfl dX5_init_47 ?_
  refine jw_aload_0 (pc := 50) C dX5_init_50 ?_
  refine fg_X5_28 (pc := 51) C 0 rfl rfl dX5_init_51 ?_
  refine jw_aload_0 (pc := 54) C dX5_init_54 ?_
  refine fg_X5_19 (pc := 55) C 0 rfl rfl dX5_init_55 ?_
  refine jw_sI (pc := 58) (wr := [(b, .inr (5, [.ref oX4, .ref oX1, .ref oX2, .null, .null])), (oX4, .inr (4, [.int (iI 0), .ref (uX4 0), .ref (uX4 1), .ref (uX4 2), .ref (uX4 3), .ref (uX4 4), .int (iI 0), .ref (uX4 5), .ref (uX4 6), .ref (uX4 7), .ref (uX4 8), .int (iI 2), .int (iI 3)])), jAI G (uX4 0) 12 (jiI (fun _ => 0)), jAI G (uX4 1) 12 (jiI (fun _ => 0)), jAI G (uX4 2) 4 (jiI (fl 40 4)), jAI G (uX4 3) 4 (jiI (fl 1 4)), jAI G (uX4 4) 4 (jiI (fun _ => 0)), jAI G (uX4 5) 40 (jiI (fun _ => 0)), jAI G (uX4 6) 40 (jiI (fun _ => 0)), jAI G (uX4 7) 40 (jiI (fun _ => 0)), jAI G (uX4 8) 40 (jiI (fun _ => 0)), (oX1, .inr (1, [.ref (uX1 0), .ref (uX1 1), .int (iI 0)])), jAI G (uX1 0) 200 (jiI (fun _ => 0)), jAI G (uX1 1) 200 (jiI (fun _ => 0)), (oX2, .inr (2, [.ref oX4, .ref (uX2 0), .ref (uX2 1), .ref (uX2 2), .ref (uX2 3), .int (iI 0)])), jAI G (uX2 0) 12 (jiI (fun _ => 0)), jAI G (uX2 1) 13 (jiI (fun _ => 0)), jAI G (uX2 2) 12 (jiI (fun _ => 0)), jAI G (uX2 3) 12 (jiI (fun _ => 0))]) C (c_X3_init G oX3 oX4 oX2 oX1) wi_X3_init kml_X5_34 [19] [0, 1, 2, 3, 4, 5, 6, 7, 8, 9, 10, 11, 12, 13, 14, 15, 16, 17, 18] rfl rfl rfl rfl (by decide) rfl rfl (Nat.le_of_ble_eq_true rfl) ⟨by decide, by decide⟩ ⟨Nat.le_of_ble_eq_true rfl, Nat.le_of_ble_eq_true rfl⟩ dX5_init_58 rfl (fun uX3 _ => ?_)
  refine jw_eqw [(b, .inr (5, [.ref oX4, .ref oX1, .ref oX2, .null, .null])), (oX4, .inr (4, [.int (iI 0), .ref (uX4 0), .ref (uX4 1), .ref (uX4 2), .ref (uX4 3), .ref (uX4 4), .int (iI 0), .ref (uX4 5), .ref (uX4 6), .ref (uX4 7), .ref (uX4 8), .int (iI 2), .int (iI 3)])), jAI G (uX4 0) 12 (jiI (fun _ => 0)), jAI G (uX4 1) 12 (jiI (fun _ => 0)), jAI G (uX4 2) 4 (jiI (fl 40 4)), jAI G (uX4 3) 4 (jiI (fl 1 4)), jAI G (uX4 4) 4 (jiI (fun _ => 0)), jAI G (uX4 5) 40 (jiI (fun _ => 0)), jAI G (uX4 6) 40 (jiI (fun _ => 0)), jAI G (uX4 7) 40 (jiI (fun _ => 0)), jAI G (uX4 8) 40 (jiI (fun _ => 0)), (oX1, .inr (1, [.ref (uX1 0), .ref (uX1 1), .int (iI 0)])), jAI G (uX1 0) 200 (jiI (fun _ => 0)), jAI G (uX1 1) 200 (jiI (fun _ => 0)), (oX2, .inr (2, [.ref oX4, .ref (uX2 0), .ref (uX2 1), .ref (uX2 2), .ref (uX2 3), .int (iI 0)])), jAI G (uX2 0) 12 (jiI (fun _ => 0)), jAI G (uX2 1) 13 (jiI (fun _ => 0)), jAI G (uX2 2) 12 (jiI (fun _ => 0)), jAI G (uX2 3) 12 (jiI (fun _ => 0)), (oX3, .inr (3, [.ref oX4, .ref oX2, .ref oX1, .ref (uX3 0)])), jAZ G (uX3 0) 40 (jbF (fun _ => false))] rfl ?_
  refine jw_putF (pc := 61) (ty := (.object "MatchingService$Placer")) jU_X5 tyX5_ok nmX5 rfl 3 (by decide) rfl rfl rfl (by decide +kernel) C Hi kfl_X5_37 0 rfl rfl rfl (Nat.le_of_ble_eq_true rfl) dX5_init_61 ?_
  refine jw_eqw [(b, .inr (5, [.ref oX4, .ref oX1, .ref oX2, .ref oX3, .null])), (oX4, .inr (4, [.int (iI 0), .ref (uX4 0), .ref (uX4 1), .ref (uX4 2), .ref (uX4 3), .ref (uX4 4), .int (iI 0), .ref (uX4 5), .ref (uX4 6), .ref (uX4 7), .ref (uX4 8), .int (iI 2), .int (iI 3)])), jAI G (uX4 0) 12 (jiI (fun _ => 0)), jAI G (uX4 1) 12 (jiI (fun _ => 0)), jAI G (uX4 2) 4 (jiI (fl 40 4)), jAI G (uX4 3) 4 (jiI (fl 1 4)), jAI G (uX4 4) 4 (jiI (fun _ => 0)), jAI G (uX4 5) 40 (jiI (fun _ => 0)), jAI G (uX4 6) 40 (jiI (fun _ => 0)), jAI G (uX4 7) 40 (jiI (fun _ => 0)), jAI G (uX4 8) 40 (jiI (fun _ => 0)), (oX1, .inr (1, [.ref (uX1 0), .ref (uX1 1), .int (iI 0)])), jAI G (uX1 0) 200 (jiI (fun _ => 0)), jAI G (uX1 1) 200 (jiI (fun _ => 0)), (oX2, .inr (2, [.ref oX4, .ref (uX2 0), .ref (uX2 1), .ref (uX2 2), .ref (uX2 3), .int (iI 0)])), jAI G (uX2 0) 12 (jiI (fun _ => 0)), jAI G (uX2 1) 13 (jiI (fun _ => 0)), jAI G (uX2 2) 12 (jiI (fun _ => 0)), jAI G (uX2 3) 12 (jiI (fun _ => 0)), (oX3, .inr (3, [.ref oX4, .ref oX2, .ref oX1, .ref (uX3 0)])), jAZ G (uX3 0) 40 (jbF (fun _ => false))] rfl ?_
  refine jw_aload_0 (pc := 64) C dX5_init_64 ?_
  refine jw_new (pc := 65) (ci := 0) (fs := [.null, .null, .null, .null, .null, .null, .int (iI 0), .null, .null, .null]) jU_X0 tyX0_ok rfl C kcl_X5_41 kin_X0 kini_X0 (by decide) ⟨Nat.le_of_ble_eq_true rfl, Nat.le_of_ble_eq_true rfl⟩ dX5_init_65 (fun oX0 => ?_)
  refine jw_eqw [(b, .inr (5, [.ref oX4, .ref oX1, .ref oX2, .ref oX3, .null])), (oX4, .inr (4, [.int (iI 0), .ref (uX4 0), .ref (uX4 1), .ref (uX4 2), .ref (uX4 3), .ref (uX4 4), .int (iI 0), .ref (uX4 5), .ref (uX4 6), .ref (uX4 7), .ref (uX4 8), .int (iI 2), .int (iI 3)])), jAI G (uX4 0) 12 (jiI (fun _ => 0)), jAI G (uX4 1) 12 (jiI (fun _ => 0)), jAI G (uX4 2) 4 (jiI (fl 40 4)), jAI G (uX4 3) 4 (jiI (fl 1 4)), jAI G (uX4 4) 4 (jiI (fun _ => 0)), jAI G (uX4 5) 40 (jiI (fun _ => 0)), jAI G (uX4 6) 40 (jiI (fun _ => 0)), jAI G (uX4 7) 40 (jiI (fun _ => 0)), jAI G (uX4 8) 40 (jiI (fun _ => 0)), (oX1, .inr (1, [.ref (uX1 0), .ref (uX1 1), .int (iI 0)])), jAI G (uX1 0) 200 (jiI (fun _ => 0)), jAI G (uX1 1) 200 (jiI (fun _ => 0)), (oX2, .inr (2, [.ref oX4, .ref (uX2 0), .ref (uX2 1), .ref (uX2 2), .ref (uX2 3), .int (iI 0)])), jAI G (uX2 0) 12 (jiI (fun _ => 0)), jAI G (uX2 1) 13 (jiI (fun _ => 0)), jAI G (uX2 2) 12 (jiI (fun _ => 0)), jAI G (uX2 3) 12 (jiI (fun _ => 0)), (oX3, .inr (3, [.ref oX4, .ref oX2, .ref oX1, .ref (uX3 0)])), jAZ G (uX3 0) 40 (jbF (fun _ => false)), (oX0, .inr (0, [.null, .null, .null, .null, .null, .null, .int (iI 0), .null, .null, .null]))] rfl ?_
  refine jw_dup (pc := 68) C dX5_init_68 rfl ?_
  refine jw_aload_0 (pc := 69) C dX5_init_69 ?_
  refine fg_X5_10 (pc := 70) C 0 rfl rfl dX5_init_70 ?_
  refine jw_sI (pc := 73) (wr := [(b, .inr (5, [.ref oX4, .ref oX1, .ref oX2, .ref oX3, .null])), (oX4, .inr (4, [.int (iI 0), .ref (uX4 0), .ref (uX4 1), .ref (uX4 2), .ref (uX4 3), .ref (uX4 4), .int (iI 0), .ref (uX4 5), .ref (uX4 6), .ref (uX4 7), .ref (uX4 8), .int (iI 2), .int (iI 3)])), jAI G (uX4 0) 12 (jiI (fun _ => 0)), jAI G (uX4 1) 12 (jiI (fun _ => 0)), jAI G (uX4 2) 4 (jiI (fl 40 4)), jAI G (uX4 3) 4 (jiI (fl 1 4)), jAI G (uX4 4) 4 (jiI (fun _ => 0)), jAI G (uX4 5) 40 (jiI (fun _ => 0)), jAI G (uX4 6) 40 (jiI (fun _ => 0)), jAI G (uX4 7) 40 (jiI (fun _ => 0)), jAI G (uX4 8) 40 (jiI (fun _ => 0)), (oX1, .inr (1, [.ref (uX1 0), .ref (uX1 1), .int (iI 0)])), jAI G (uX1 0) 200 (jiI (fun _ => 0)), jAI G (uX1 1) 200 (jiI (fun _ => 0)), (oX2, .inr (2, [.ref oX4, .ref (uX2 0), .ref (uX2 1), .ref (uX2 2), .ref (uX2 3), .int (iI 0)])), jAI G (uX2 0) 12 (jiI (fun _ => 0)), jAI G (uX2 1) 13 (jiI (fun _ => 0)), jAI G (uX2 2) 12 (jiI (fun _ => 0)), jAI G (uX2 3) 12 (jiI (fun _ => 0)), (oX3, .inr (3, [.ref oX4, .ref oX2, .ref oX1, .ref (uX3 0)])), jAZ G (uX3 0) 40 (jbF (fun _ => false))]) C (c_X0_init G oX0 oX4) wi_X0_init kml_X5_43 [21] [0, 1, 2, 3, 4, 5, 6, 7, 8, 9, 10, 11, 12, 13, 14, 15, 16, 17, 18, 19, 20] rfl rfl rfl rfl (by decide) rfl rfl (Nat.le_of_ble_eq_true rfl) ⟨by decide, by decide⟩ ⟨Nat.le_of_ble_eq_true rfl, Nat.le_of_ble_eq_true rfl⟩ dX5_init_73 rfl (fun uX0 _ => ?_)
  refine jw_eqw [(b, .inr (5, [.ref oX4, .ref oX1, .ref oX2, .ref oX3, .null])), (oX4, .inr (4, [.int (iI 0), .ref (uX4 0), .ref (uX4 1), .ref (uX4 2), .ref (uX4 3), .ref (uX4 4), .int (iI 0), .ref (uX4 5), .ref (uX4 6), .ref (uX4 7), .ref (uX4 8), .int (iI 2), .int (iI 3)])), jAI G (uX4 0) 12 (jiI (fun _ => 0)), jAI G (uX4 1) 12 (jiI (fun _ => 0)), jAI G (uX4 2) 4 (jiI (fl 40 4)), jAI G (uX4 3) 4 (jiI (fl 1 4)), jAI G (uX4 4) 4 (jiI (fun _ => 0)), jAI G (uX4 5) 40 (jiI (fun _ => 0)), jAI G (uX4 6) 40 (jiI (fun _ => 0)), jAI G (uX4 7) 40 (jiI (fun _ => 0)), jAI G (uX4 8) 40 (jiI (fun _ => 0)), (oX1, .inr (1, [.ref (uX1 0), .ref (uX1 1), .int (iI 0)])), jAI G (uX1 0) 200 (jiI (fun _ => 0)), jAI G (uX1 1) 200 (jiI (fun _ => 0)), (oX2, .inr (2, [.ref oX4, .ref (uX2 0), .ref (uX2 1), .ref (uX2 2), .ref (uX2 3), .int (iI 0)])), jAI G (uX2 0) 12 (jiI (fun _ => 0)), jAI G (uX2 1) 13 (jiI (fun _ => 0)), jAI G (uX2 2) 12 (jiI (fun _ => 0)), jAI G (uX2 3) 12 (jiI (fun _ => 0)), (oX3, .inr (3, [.ref oX4, .ref oX2, .ref oX1, .ref (uX3 0)])), jAZ G (uX3 0) 40 (jbF (fun _ => false)), (oX0, .inr (0, [.ref oX4, .ref (uX0 0), .ref (uX0 1), .ref (uX0 2), .ref (uX0 3), .ref (uX0 4), .int (iI 0), .ref (uX0 5), .ref (uX0 6), .ref (uX0 7)])), jAI G (uX0 0) 40 (jiI (fun _ => 0)), jAI G (uX0 1) 40 (jiI (fun _ => 0)), jAI G (uX0 2) 12 (jiI (fun _ => 0)), jAI G (uX0 3) 4 (jiI (fun _ => 0)), jAI G (uX0 4) 16 (jiI (fun _ => 0)), jAZ G (uX0 5) 16 (jbF (fun _ => false)), jAI G (uX0 6) 16 (jiI (fun _ => 0)), jAI G (uX0 7) 16 (jiI (fun _ => 0))] rfl ?_
  refine jw_putF (pc := 76) (ty := (.object "MatchingService$Flow")) jU_X5 tyX5_ok nmX5 rfl 4 (by decide) rfl rfl rfl (by decide +kernel) C Hi kfl_X5_44 0 rfl rfl rfl (Nat.le_of_ble_eq_true rfl) dX5_init_76 ?_
  refine jw_eqw [(b, .inr (5, [.ref oX4, .ref oX1, .ref oX2, .ref oX3, .ref oX0])), (oX4, .inr (4, [.int (iI 0), .ref (uX4 0), .ref (uX4 1), .ref (uX4 2), .ref (uX4 3), .ref (uX4 4), .int (iI 0), .ref (uX4 5), .ref (uX4 6), .ref (uX4 7), .ref (uX4 8), .int (iI 2), .int (iI 3)])), jAI G (uX4 0) 12 (jiI (fun _ => 0)), jAI G (uX4 1) 12 (jiI (fun _ => 0)), jAI G (uX4 2) 4 (jiI (fl 40 4)), jAI G (uX4 3) 4 (jiI (fl 1 4)), jAI G (uX4 4) 4 (jiI (fun _ => 0)), jAI G (uX4 5) 40 (jiI (fun _ => 0)), jAI G (uX4 6) 40 (jiI (fun _ => 0)), jAI G (uX4 7) 40 (jiI (fun _ => 0)), jAI G (uX4 8) 40 (jiI (fun _ => 0)), (oX1, .inr (1, [.ref (uX1 0), .ref (uX1 1), .int (iI 0)])), jAI G (uX1 0) 200 (jiI (fun _ => 0)), jAI G (uX1 1) 200 (jiI (fun _ => 0)), (oX2, .inr (2, [.ref oX4, .ref (uX2 0), .ref (uX2 1), .ref (uX2 2), .ref (uX2 3), .int (iI 0)])), jAI G (uX2 0) 12 (jiI (fun _ => 0)), jAI G (uX2 1) 13 (jiI (fun _ => 0)), jAI G (uX2 2) 12 (jiI (fun _ => 0)), jAI G (uX2 3) 12 (jiI (fun _ => 0)), (oX3, .inr (3, [.ref oX4, .ref oX2, .ref oX1, .ref (uX3 0)])), jAZ G (uX3 0) 40 (jbF (fun _ => false)), (oX0, .inr (0, [.ref oX4, .ref (uX0 0), .ref (uX0 1), .ref (uX0 2), .ref (uX0 3), .ref (uX0 4), .int (iI 0), .ref (uX0 5), .ref (uX0 6), .ref (uX0 7)])), jAI G (uX0 0) 40 (jiI (fun _ => 0)), jAI G (uX0 1) 40 (jiI (fun _ => 0)), jAI G (uX0 2) 12 (jiI (fun _ => 0)), jAI G (uX0 3) 4 (jiI (fun _ => 0)), jAI G (uX0 4) 16 (jiI (fun _ => 0)), jAZ G (uX0 5) 16 (jbF (fun _ => false)), jAI G (uX0 6) 16 (jiI (fun _ => 0)), jAI G (uX0 7) 16 (jiI (fun _ => 0))] rfl ?_
  refine jw_sub [0, 1, 11, 14, 19, 21, 2, 3, 4, 5, 6, 7, 8, 9, 10, 12, 13, 15, 16, 17, 18, 20, 22, 23, 24, 25, 26, 27, 28, 29] rfl rfl (hret _ _ (fun i => ([b, oX4, oX1, oX2, oX3, oX0, (uX4 0), (uX4 1), (uX4 2), (uX4 3), (uX4 4), (uX4 5), (uX4 6), (uX4 7), (uX4 8), (uX1 0), (uX1 1), (uX2 0), (uX2 1), (uX2 2), (uX2 3), (uX3 0), (uX0 0), (uX0 1), (uX0 2), (uX0 3), (uX0 4), (uX0 5), (uX0 6), (uX0 7)] : List Nat).getD i 0) dX5_init_79 rfl)
end
section
/-! THE LAW'S ROWS OF RESOURCES: digits to the base of four, their order; paths at resources with room for one -/
def lef (row : Nat) : Nat → Nat
  | 0 => row
  | j + 1 => lef row j / 4
def dg (row L k : Nat) : Nat := lef row (L - 1 - k) % 4
def enc (p : Nat → Nat) : Nat → Nat
  | 0 => 0
  | n + 1 => enc p n * 4 + p n
def p4 : Nat → Nat
  | 0 => 1
  | n + 1 => p4 n * 4
theorem lef_4 (row : Nat) : ∀ j, lef (row / 4) j = lef row (j + 1)
  | 0 => rfl
  | j + 1 => by
    show lef (row / 4) j / 4 = lef row (j + 1) / 4
    rw [lef_4 row j]
theorem dg_lt (row L k : Nat) : dg row L k < 4 := Nat.mod_lt _ (by omega)
theorem dg_last (row L : Nat) : dg row (L + 1) L = row % 4 := by
  unfold dg
  rw [show L + 1 - 1 - L = 0 by omega]
  rfl
theorem dg_step {row L k : Nat} (h : k < L) : dg row (L + 1) k = dg (row / 4) L k := by
  unfold dg
  rw [lef_4, show L + 1 - 1 - k = (L - 1 - k) + 1 by omega]
theorem enc_congr {p q : Nat → Nat} : ∀ {n : Nat}, (∀ k, k < n → p k = q k) → enc p n = enc q n
  | 0, _ => rfl
  | n + 1, h => by
    simp only [enc]
    rw [enc_congr (n := n) (fun k hk => h k (by omega)), h n (by omega)]
theorem enc_dg : ∀ (L row : Nat), row < p4 L → enc (dg row L) L = row
  | 0, row, h => by
    simp only [p4] at h
    simp only [enc]
    omega
  | L + 1, row, h => by
    simp only [p4] at h
    simp only [enc]
    rw [enc_congr (q := dg (row / 4) L) (fun k hk => dg_step hk), enc_dg L (row / 4) (by omega), dg_last]
    omega
theorem enc_lt {p : Nat → Nat} : ∀ {n : Nat}, (∀ k, k < n → p k < 4) → enc p n < p4 n
  | 0, _ => by simp only [enc, p4]; omega
  | n + 1, h => by
    have h1 := enc_lt (p := p) (n := n) (fun k hk => h k (by omega))
    have h2 := h n (by omega)
    simp only [enc, p4]
    omega
theorem dg_enc {p : Nat → Nat} : ∀ {n : Nat}, (∀ k, k < n → p k < 4) → ∀ k, k < n → dg (enc p n) n k = p k
  | 0, _, k, hk => absurd hk (Nat.not_lt_zero _)
  | n + 1, h, k, hk => by
    have h2 := h n (by omega)
    by_cases e : k = n
    · subst e
      rw [dg_last]
      simp only [enc]
      omega
    · rw [dg_step (by omega)]
      have e1 : enc p (n + 1) / 4 = enc p n := by
        simp only [enc]
        omega
      rw [e1]
      exact dg_enc (n := n) (fun k hk => h k (by omega)) k (by omega)
theorem enc_lex {p q : Nat → Nat} : ∀ {n : Nat}, (∀ k, k < n → p k < 4) → (∀ k, k < n → q k < 4) → (∀ i, i < n → (∀ j, j < i → q j = p j) → q i ≤ p i) → (∀ j, j < n → q j = p j) ∨ enc q n < enc p n
  | 0, _, _, _ => Or.inl fun j hj => absurd hj (Nat.not_lt_zero _)
  | n + 1, hp, hq, h => by
    have p1 := hp n (by omega)
    have q1 := hq n (by omega)
    rcases enc_lex (n := n) (fun k hk => hp k (by omega)) (fun k hk => hq k (by omega)) (fun i hi => h i (by omega)) with e | e
    · have h2 := h n (by omega) e
      have e2 : enc q n = enc p n := enc_congr e
      by_cases e3 : q n = p n
      · left
        intro j hj
        by_cases ej : j = n
        · rw [ej]; exact e3
        · exact e j (by omega)
      · right
        simp only [enc]
        omega
    · right
      simp only [enc]
      omega
/-- of each of the four resources its request, -1: none -/
def AtR (P : QP) (f : Nat → Int) : Prop := (∀ a : Nat, a < 4 → f a = -1 ∨ ∃ r : Nat, f a = (r : Int) ∧ (r : Int) < P.req ∧ P.plc r = (a : Int)) ∧ ∀ a r : Nat, a < 4 → (r : Int) < P.req → P.plc r = (a : Int) → f a = (r : Int)
/-- what the law keeps as it is -/
def LC (P : QP) : Prop := P.res = 4 ∧ (∀ a : Nat, a < 4 → P.cap a = 1) ∧ (∀ g : Nat, g < 4 → P.quo g = 40) ∧ P.req ≤ 14 ∧ P.pl ≤ 3 ∧ P.ml ≤ 3
/-- the law's word of a path -/
def okP (P : QP) (f : Nat → Int) (m : Int32) (L : Nat) (p : Nat → Nat) : Prop :=
  (∀ i, i < L → p i < 4) ∧ (∀ i j, i < L → j < L → p i = p j → i = j) ∧ bt m (p 0) = true ∧ f (p (L - 1)) < 0 ∧ ∀ k, k + 1 < L → 0 ≤ f (p k) ∧ P.mov (f (p k)).toNat < P.ml ∧ bt (P.acc (f (p k)).toNat) (p (k + 1)) = true
theorem okP_congr {P : QP} {f : Nat → Int} {m : Int32} {L : Nat} {p q : Nat → Nat} (hL : 1 ≤ L) (h : ∀ k, k < L → q k = p k) (g : okP P f m L p) : okP P f m L q := by
  obtain ⟨g1, g2, g3, g4, g5⟩ := g
  refine ⟨fun i hi => by rw [h i hi]; exact g1 i hi, fun i j hi hj e => g2 i j hi hj (by rw [← h i hi, ← h j hj]; exact e), by rw [h 0 (by omega)]; exact g3, by rw [h (L - 1) (by omega)]; exact g4, fun k hk => ?_⟩
  rw [h k (by omega), h (k + 1) hk]
  exact g5 k hk
theorem lstI_le {p : Nat → Bool} {n k : Nat} (hk : k < n) (h : p k = true) : lstI p n ≤ (k : Int) := by
  rcases lstI_spec p n with ⟨g1, g2⟩ | ⟨i, g1, g2, g3, g4⟩
  · omega
  · rcases Nat.lt_or_ge k i with q | q
    · rw [g4 k q] at h; cases h
    · omega
theorem at_room {P : QP} {f : Nat → Int} (hI : PI P) (hA : AtR P f) (hC : LC P) {a : Nat} (ha : a < 4) : P.load a < P.cap a ↔ f a < 0 := by
  have hq := hI.req
  rw [hC.2.1 a ha, hI.2.1 a]
  rcases hA.1 a ha with h | ⟨r, h1, h2, h3⟩
  · rw [h, cnt0 P.req.toNat (fun j hj => decide_eq_false fun e => by have := hA.2 a j ha (by omega) e; omega)]
    exact ⟨fun _ => by omega, fun _ => by omega⟩
  · have h4 := cntF_pos (p := fun x => decide (P.plc x = (a : Int))) (n := P.req.toNat) (k := r) (by omega) (decide_eq_true h3)
    rw [h1]
    constructor
    · intro h; omega
    · intro h; omega
theorem okP_t {P : QP} {f : Nat → Int} {m : Int32} {L : Nat} {p : Nat → Nat} (hA : AtR P f) (g : okP P f m L p) {k : Nat} (hk : k + 1 < L) : ∃ t : Nat, f (p k) = (t : Int) ∧ (t : Int) < P.req ∧ P.plc t = (p k : Int) ∧ P.mov t < P.ml ∧ bt (P.acc t) (p (k + 1)) = true := by
  obtain ⟨h1, h2, h3⟩ := g.2.2.2.2 k hk
  rcases hA.1 (p k) (g.1 k (by omega)) with e | ⟨r, e1, e2, e3⟩
  · omega
  · have er : (f (p k)).toNat = r := by omega
    rw [er] at h2 h3
    exact ⟨r, e1, e2, e3, h2, h3⟩
theorem okP_up {P : QP} {f : Nat → Int} {m : Int32} {L : Nat} {p : Nat → Nat} (hA : AtR P f) (hC : LC P) (g : okP P f m L p) {i d : Nat} (hi : i + 1 < L) (h : sn P d (p (i + 1)) = true) : sn P (d + 1) (p i) = true := by
  obtain ⟨t, t1, t2, t3, t4, t5⟩ := okP_t hA g hi
  have hp := g.1 i (by omega)
  have hp2 := g.1 (i + 1) hi
  rw [sn_succ]
  refine ⟨by rw [hC.1]; omega, Or.inr ⟨t, by omega, ?_, p (i + 1), by omega, t5, h⟩⟩
  simp only [atB, movB, Bool.and_eq_true, decide_eq_true_eq]
  exact ⟨t3, by omega, t4⟩
theorem okP_sn {P : QP} {f : Nat → Int} {m : Int32} {L : Nat} {p : Nat → Nat} (hI : PI P) (hA : AtR P f) (hC : LC P) (g : okP P f m L p) : ∀ d i : Nat, i + d + 1 = L → sn P (d + 1) (p i) = true
  | 0, i, h => by
    have hp := g.1 i (by omega)
    rw [sn_succ]
    refine ⟨by rw [hC.1]; omega, Or.inl ((at_room hI hA hC hp).mpr ?_)⟩
    have e : i = L - 1 := by omega
    rw [e]
    exact g.2.2.2.1
  | d + 1, i, h => okP_up hA hC g (by omega) (okP_sn hI hA hC g d (i + 1) (by omega))
theorem dS_le {P : QP} {k a : Nat} (h : sn P (k + 1) a = true) (hk : k < 12) : 1 ≤ dS P a ∧ dS P a ≤ k + 1 := by
  unfold dS
  rcases lstI_spec (fun k => sn P (k + 1) a) 12 with ⟨g1, g2⟩ | ⟨i, g1, g2, g3, g4⟩
  · have z : sn P (k + 1) a = false := g2 k hk
    rw [h] at z; cases z
  · rw [if_neg (by omega), g2]
    rcases Nat.lt_or_ge k i with q | q
    · have z : sn P (k + 1) a = false := g4 k q
      rw [h] at z; cases z
    · omega
theorem okP_min {P : QP} {f : Nat → Int} {m : Int32} {L : Nat} {p : Nat → Nat} (hI : PI P) (hA : AtR P f) (hC : LC P) (g : okP P f m L p) (hL1 : 1 ≤ L) (hL2 : L ≤ 4) : 1 ≤ minL P m ∧ minL P m ≤ L := by
  have h1 := dS_le (okP_sn hI hA hC g (L - 1) 0 (by omega)) (by omega)
  have hp := g.1 0 (by omega)
  rcases minL_spec P hI m with ⟨e1, e2, e3⟩ | ⟨a, e1, e2, e3, e4, e5, e6, e7⟩
  · have := e3 (p 0) (by omega) g.2.2.1
    omega
  · have := e7 (p 0) (by omega) g.2.2.1
    omega
theorem okP_dS {P : QP} {f : Nat → Int} {m : Int32} {L : Nat} {p : Nat → Nat} (hI : PI P) (hA : AtR P f) (hC : LC P) (g : okP P f m L p) (hL1 : 1 ≤ L) (hL2 : L ≤ 4) (hm : minL P m = (L : Int)) : ∀ i : Nat, i < L → dS P (p i) = (L : Int) - i := by
  intro i
  induction i with
  | zero =>
    intro hi
    have h1 := dS_le (okP_sn hI hA hC g (L - 1) 0 (by omega)) (by omega)
    have hp := g.1 0 (by omega)
    rcases minL_spec P hI m with ⟨e1, e2, e3⟩ | ⟨a, e1, e2, e3, e4, e5, e6, e7⟩
    · omega
    · have := e7 (p 0) (by omega) g.2.2.1
      omega
  | succ i ih =>
    intro hi
    have h0 := ih (by omega)
    have h1 := dS_le (okP_sn hI hA hC g (L - 2 - i) (i + 1) (by omega)) (by omega)
    obtain ⟨d, hd⟩ : ∃ d : Nat, dS P (p (i + 1)) = (d : Int) := ⟨(dS P (p (i + 1))).toNat, by omega⟩
    have h2 := ((dS_iff hI (k := d) (by omega) (by omega)).mp hd).1
    have h3 := dS_le (okP_up hA hC g hi h2) (by omega)
    omega
theorem okP_lex {P : QP} {f : Nat → Int} {m : Int32} {L : Nat} {p : Nat → Nat} (hI : PI P) (hA : AtR P f) (hC : LC P) (g : okP P f m L p) (hL1 : 1 ≤ L) (hL2 : L ≤ 4) (hm : minL P m = (L : Int)) : ∀ i : Nat, i < L → (∀ j, j < i → pA P (minL P m) (fstA P m) j = (p j : Int)) → pA P (minL P m) (fstA P m) i ≤ (p i : Int) := by
  have hd := okP_dS hI hA hC g hL1 hL2 hm
  intro i hi hj
  rcases minL_spec P hI m with ⟨e1, e2, e3⟩ | ⟨a, e1, e2, e3, e4, e5, e6, e7⟩
  · omega
  · cases i with
    | zero =>
      have hp := g.1 0 (by omega)
      have h1 := e7 (p 0) (by omega) g.2.2.1
      have h2 := hd 0 (by omega)
      show fstA P m ≤ (p 0 : Int)
      rw [e6]
      omega
    | succ i =>
      have hpi := hj i (by omega)
      have hsp := path_spec P hI (a0 := a) (L := L) (by omega) hL1 (by omega) i (by omega)
      rw [← hm, ← e6] at hsp
      obtain ⟨a1, a2, a3, a4, a5⟩ := hsp
      obtain ⟨r, b, r1, r2, r3, r4, b1, b2, b3⟩ := a5 (by omega)
      have ea : a1 = p i := by omega
      subst ea
      have hfr := hA.2 (p i) r (g.1 i (by omega)) r1 r3
      obtain ⟨h1, h2, h3⟩ := g.2.2.2.2 i (by omega)
      have er : (f (p i)).toNat = r := by omega
      rw [er] at h2 h3
      have hp2 := g.1 (i + 1) hi
      have hd2 := hd (i + 1) hi
      show nA P (nR P (pA P (minL P m) (fstA P m) i) (minL P m - 1 - i)).toNat (minL P m - 1 - i) ≤ _
      have e9 : nR P (pA P (minL P m) (fstA P m) i) (minL P m - 1 - i) = (r : Int) := r2
      rw [e9]
      show nA P r _ ≤ _
      unfold nA
      refine lstI_le (by omega) ?_
      rw [h3, decide_eq_true (by omega)]
      rfl
theorem okP_pA {P : QP} {f : Nat → Int} {m : Int32} (hI : PI P) (hA : AtR P f) (hC : LC P) {r : Nat} (hr : (r : Int) < P.req) (hw : P.plc r = -1) (hm : P.acc r = m) (h1 : 1 ≤ minL P m) : okP P f m (minL P m).toNat (fun k => (pA P (minL P m) (fstA P m) k).toNat) := by
  subst hm
  obtain ⟨⟨-, -, -, -, c1, c2, c3, c4⟩, a, ea, hla⟩ := path_ok hI hr hw h1
  have c0 : ∀ i, i < (minL P (P.acc r)).toNat → 0 ≤ pA P (minL P (P.acc r)) (fstA P (P.acc r)) i ∧ pA P (minL P (P.acc r)) (fstA P (P.acc r)) i < 4 := fun i hi => by
    have := c1 i hi
    rw [hC.1] at this
    exact this
  refine ⟨fun i hi => ?_, fun i j hi hj e => c2 i j hi hj ?_, c3, ?_, fun k hk => ?_⟩
  · have := c0 i hi
    show (pA P (minL P (P.acc r)) (fstA P (P.acc r)) i).toNat < 4
    omega
  · have h2 := c0 i hi
    have h3 := c0 j hj
    have e2 : (pA P (minL P (P.acc r)) (fstA P (P.acc r)) i).toNat = (pA P (minL P (P.acc r)) (fstA P (P.acc r)) j).toNat := e
    omega
  · have h2 := c0 ((minL P (P.acc r)).toNat - 1) (by omega)
    show f (pA P (minL P (P.acc r)) (fstA P (P.acc r)) ((minL P (P.acc r)).toNat - 1)).toNat < 0
    rw [ea] at h2 ⊢
    exact (at_room hI hA hC (by omega)).mp hla
  · obtain ⟨k1, k2, k3, k4, k5⟩ := c4 k hk
    have h2 := c0 k (by omega)
    show 0 ≤ f (pA P (minL P (P.acc r)) (fstA P (P.acc r)) k).toNat ∧ P.mov (f (pA P (minL P (P.acc r)) (fstA P (P.acc r)) k).toNat).toNat < P.ml ∧ bt (P.acc (f (pA P (minL P (P.acc r)) (fstA P (P.acc r)) k).toNat).toNat) (pA P (minL P (P.acc r)) (fstA P (P.acc r)) (k + 1)).toNat = true
    have e1 := hA.2 (pA P (minL P (P.acc r)) (fstA P (P.acc r)) k).toNat (pRq P (minL P (P.acc r)) (fstA P (P.acc r)) k).toNat (by omega) (by omega) (by rw [k3]; omega)
    rw [e1]
    exact ⟨by omega, k4, k5⟩
theorem best_none {P : QP} {f : Nat → Int} {m : Int32} (hI : PI P) (hA : AtR P f) (hC : LC P) {r : Nat} (hr : (r : Int) < P.req) (hw : P.plc r = -1) (hm : P.acc r = m) (h : ∀ L, 1 ≤ L → L ≤ 4 → ∀ row, row < p4 L → ¬ okP P f m L (dg row L)) : minL P m = 0 := by
  have hres := hC.1
  rcases minL_spec P hI m with ⟨e1, e2, e3⟩ | ⟨a, e1, e2, e3, e4, e5, e6, e7⟩
  · exact e1
  · exfalso
    have g := okP_pA hI hA hC hr hw hm (by omega)
    have hR := dS_rng hI a
    exact h (minL P m).toNat (by omega) (by omega) _ (enc_lt g.1) (okP_congr (by omega) (dg_enc g.1) g)
theorem best_some {P : QP} {f : Nat → Int} {m : Int32} (hI : PI P) (hA : AtR P f) (hC : LC P) {r : Nat} (hr : (r : Int) < P.req) (hw : P.plc r = -1) (hm : P.acc r = m) {L row : Nat} (hL1 : 1 ≤ L) (hL2 : L ≤ 4) (hrow : row < p4 L) (g : okP P f m L (dg row L)) (h1 : ∀ x, x < row → ¬ okP P f m L (dg x L)) (h2 : ∀ K, 1 ≤ K → K < L → ∀ x, x < p4 K → ¬ okP P f m K (dg x K)) : minL P m = (L : Int) ∧ ∀ k, k < L → pA P (minL P m) (fstA P m) k = (dg row L k : Int) := by
  have hmin := okP_min hI hA hC g hL1 hL2
  have gq := okP_pA hI hA hC hr hw hm hmin.1
  have eL : minL P m = (L : Int) := by
    rcases (by omega : minL P m = (L : Int) ∨ minL P m < (L : Int)) with e | e
    · exact e
    · exfalso
      exact h2 (minL P m).toNat (by omega) (by omega) _ (enc_lt gq.1) (okP_congr (by omega) (dg_enc gq.1) gq)
  have eN : (minL P m).toNat = L := by omega
  refine ⟨eL, ?_⟩
  rw [eN] at gq
  have c0 : ∀ i, i < L → 0 ≤ pA P (minL P m) (fstA P m) i := fun i hi => by
    have hp := path_ok hI hr hw (by rw [hm]; exact hmin.1)
    rw [hm] at hp
    exact (hp.1.2.2.2.2.1 i (by omega)).1
  have key : ∀ i, i < L → (∀ j, j < i → (fun k => (pA P (minL P m) (fstA P m) k).toNat) j = dg row L j) → (fun k => (pA P (minL P m) (fstA P m) k).toNat) i ≤ dg row L i := by
    intro i hi hj
    have h3 := okP_lex hI hA hC g hL1 hL2 eL i hi (fun j hj2 => by
      have h5 : (pA P (minL P m) (fstA P m) j).toNat = dg row L j := hj j hj2
      have h6 := c0 j (by omega)
      omega)
    show (pA P (minL P m) (fstA P m) i).toNat ≤ dg row L i
    omega
  rcases enc_lex (p := dg row L) (q := fun k => (pA P (minL P m) (fstA P m) k).toNat) (n := L) (fun k _ => dg_lt row L k) gq.1 key with e | e
  · intro k hk
    have h3 : (pA P (minL P m) (fstA P m) k).toNat = dg row L k := e k hk
    have h4 := c0 k hk
    omega
  · exfalso
    rw [enc_dg L row hrow] at e
    exact h1 _ e (okP_congr hL1 (dg_enc gq.1) gq)
end
section
/-! PLACING ALONG A ROW, as the law does it -/
def lpA (f : Nat → Int) (p : Nat → Nat) : Nat → (Nat → Int)
  | 0 => f
  | i + 1 => updf (lpA f p i) (p (i + 1)) (f (p i))
def lpW (wh f : Nat → Int) (p : Nat → Nat) : Nat → (Nat → Int)
  | 0 => wh
  | i + 1 => updf (lpW wh f p i) (f (p i)).toNat (p (i + 1) : Int)
def lpM (mv f : Nat → Int) (p : Nat → Nat) : Nat → (Nat → Int)
  | 0 => mv
  | i + 1 => updf (lpM mv f p i) (f (p i)).toNat (lpM mv f p i (f (p i)).toNat + 1)
def lpG (lg f : Nat → Int) (p : Nat → Nat) (n0 : Nat) : Nat → (Nat → Int)
  | 0 => lg
  | i + 1 => updf (updf (lpG lg f p n0 i) (n0 + 2 * i) (f (p i))) (n0 + 2 * i + 1) (p (i + 1) : Int)
/-- the law's log holds the service's -/
def LG (l : QL) (lg : Nat → Int) (n0 : Nat) : Prop := (n0 : Int) = 2 * l.sz ∧ 0 ≤ l.sz ∧ ∀ k : Nat, (k : Int) < l.sz → l.rq k = lg (2 * k) ∧ l.tg k = lg (2 * k + 1)
theorem okP_path {P : QP} {f : Nat → Int} {m : Int32} {L : Nat} {p : Nat → Nat} (hA : AtR P f) (hC : LC P) {r : Nat} (hr : (r : Int) < P.req) (hw : P.plc r = -1) (hm : P.acc r = m) (g : okP P f m L p) (hL1 : 1 ≤ L) (hL2 : L ≤ 4) : PathOK P r (fun k => (p k : Int)) (fun k => f (p k)) L := by
  refine ⟨hr, hw, hL1, by omega, fun i hi => ?_, fun i j hi hj e => g.2.1 i j hi hj ?_, ?_, fun i hi => ?_⟩
  · have := g.1 i hi
    show 0 ≤ (p i : Int) ∧ (p i : Int) < P.res
    rw [hC.1]
    omega
  · have e2 : (p i : Int) = (p j : Int) := e
    omega
  · show bt (P.acc r) ((p 0 : Int)).toNat = true
    rw [hm, show ((p 0 : Int)).toNat = p 0 by omega]
    exact g.2.2.1
  · obtain ⟨t, t1, t2, t3, t4, t5⟩ := okP_t hA g hi
    show 0 ≤ f (p i) ∧ f (p i) < P.req ∧ P.plc (f (p i)).toNat = (p i : Int) ∧ P.mov (f (p i)).toNat < P.ml ∧ bt (P.acc (f (p i)).toNat) ((p (i + 1) : Int)).toNat = true
    rw [t1, show ((t : Int)).toNat = t by omega, show ((p (i + 1) : Int)).toNat = p (i + 1) by omega]
    exact ⟨by omega, t2, t3, t4, t5⟩
theorem plX_row {P : QP} {f : Nat → Int} {l : QL} {m : Int32} {L : Nat} {p : Nat → Nat} (hI : PI P) (hA : AtR P f) (hC : LC P) {r : Nat} (hm : P.acc r = m) (hL1 : 1 ≤ L) (hL2 : L ≤ 4) (hd : ∀ i, i < L → p i < 4) (hmin : minL P m = (L : Int)) (hp : ∀ k, k < L → pA P (minL P m) (fstA P m) k = (p k : Int)) : plX P l r = plS P l r (fun k => (p k : Int)) (fun k => f (p k)) (L - 1) := by
  subst hm
  unfold plX
  rw [show (minL P (P.acc r)).toNat - 1 = L - 1 by omega]
  refine plS_congr (fun j hj => hp j (by omega)) (fun j hj => ?_)
  rcases minL_spec P hI (P.acc r) with ⟨e1, e2, e3⟩ | ⟨a, e1, e2, e3, e4, e5, e6, e7⟩
  · omega
  · have hsp := path_spec P hI (a0 := a) (L := L) (by omega) hL1 (by omega) j (by omega)
    rw [← hmin, ← e6] at hsp
    obtain ⟨a1, a2, a3, a4, a5⟩ := hsp
    obtain ⟨r2, b, r1, r3, r4, r5, -⟩ := a5 (by omega)
    have h1 := hp j (by omega)
    have ea : a1 = p j := by omega
    subst ea
    show pRq P (minL P (P.acc r)) (fstA P (P.acc r)) j = f (p j)
    rw [r3, hA.2 (p j) r2 (hd j (by omega)) r1 r4]
theorem LG_add {l : QL} {lg : Nat → Int} {n0 : Nat} {a b : Int} (h : LG l lg n0) (hs : l.sz < 200) : LG (lAdd l a b) (updf (updf lg n0 a) (n0 + 1) b) (n0 + 2) := by
  obtain ⟨h1, h2, h3⟩ := h
  unfold lAdd
  rw [if_pos hs]
  refine ⟨?_, ?_, fun k hk => ?_⟩
  · show ((n0 + 2 : Nat) : Int) = 2 * (l.sz + 1)
    omega
  · show 0 ≤ l.sz + 1
    omega
  · have hk2 : (k : Int) < l.sz + 1 := hk
    show updf l.rq l.sz.toNat a k = _ ∧ updf l.tg l.sz.toNat b k = _
    by_cases e : k = l.sz.toNat
    · have e1 : 2 * k = n0 := by omega
      have e2 : 2 * k + 1 = n0 + 1 := by omega
      rw [e1, e, updf_same, updf_same, updf_same, updf_ne _ _ (by omega), updf_same]
      exact ⟨rfl, rfl⟩
    · rw [updf_ne _ _ e, updf_ne _ _ e, updf_ne _ _ (by omega), updf_ne _ _ (by omega), updf_ne _ _ (by omega), updf_ne _ _ (by omega)]
      exact h3 k (by omega)
theorem lp_eq {P : QP} {f : Nat → Int} {l : QL} {m : Int32} {L : Nat} {p : Nat → Nat} {lg : Nat → Int} {n0 : Nat} (hI : PI P) (hA : AtR P f) (hC : LC P) {r : Nat} (hr : (r : Int) < P.req) (hw : P.plc r = -1) (hm : P.acc r = m) (g : okP P f m L p) (hL1 : 1 ≤ L) (hL2 : L ≤ 4) (hG : LG l lg n0) (hs : l.sz + L ≤ 200) : ∀ i, i < L →
    (plS P l r (fun k => (p k : Int)) (fun k => f (p k)) i).1.plc = updf (lpW P.plc f p i) r (p 0 : Int) ∧ (plS P l r (fun k => (p k : Int)) (fun k => f (p k)) i).1.mov = lpM P.mov f p i ∧ (plS P l r (fun k => (p k : Int)) (fun k => f (p k)) i).1.asg = updf P.asg (P.grp r).toNat (P.asg (P.grp r).toNat + 1) ∧ LG (plS P l r (fun k => (p k : Int)) (fun k => f (p k)) i).2 (lpG lg f p n0 i) (n0 + 2 * i) := by
  have hP := okP_path hA hC hr hw hm g hL1 hL2
  intro i
  induction i with
  | zero =>
    intro hi
    refine ⟨?_, rfl, rfl, hG⟩
    show updf P.plc r (((p 0 : Int)).toNat : Int) = updf P.plc r (p 0 : Int)
    rw [show (((p 0 : Int)).toNat : Int) = (p 0 : Int) by omega]
  | succ i ih =>
    intro hi
    obtain ⟨i1, i2, i3, i4⟩ := ih (by omega)
    obtain ⟨s1, s2, s3, s4, s5, s6, s7, s8, s9⟩ := plS_ok (l := l) hI hP i (by omega)
    obtain ⟨t, t1, t2, t3, t4, t5⟩ := okP_t hA g hi
    have et : (f (p i)).toNat = t := by omega
    have hne : t ≠ r := by
      intro e
      rw [e, hw] at t3
      omega
    have e0 : (((p (i + 1) : Int)).toNat : Int) = (p (i + 1) : Int) := by omega
    have hpt : 0 ≤ (plS P l r (fun k => (p k : Int)) (fun k => f (p k)) i).1.plc t := (s4 t hne).1 (by omega)
    refine ⟨?_, ?_, ?_, ?_⟩
    · funext x
      show (pMove (plS P l r (fun k => (p k : Int)) (fun k => f (p k)) i).1 (f (p i)).toNat ((p (i + 1) : Int)).toNat).plc x = updf (updf (lpW P.plc f p i) (f (p i)).toNat (p (i + 1) : Int)) r (p 0 : Int) x
      rw [pMove_plc, e0, i1, et]
      by_cases e : x = t
      · rw [if_pos e, updf_ne _ _ (by rw [e]; exact hne), e, updf_same]
      · rw [if_neg e]
        by_cases e2 : x = r
        · rw [e2, updf_same, updf_same]
        · rw [updf_ne _ _ e2, updf_ne _ _ e2, updf_ne _ _ e]
    · funext x
      show (pMove (plS P l r (fun k => (p k : Int)) (fun k => f (p k)) i).1 (f (p i)).toNat ((p (i + 1) : Int)).toNat).mov x = updf (lpM P.mov f p i) (f (p i)).toNat (lpM P.mov f p i (f (p i)).toNat + 1) x
      rw [pMove_mov, i2, et]
      by_cases e : x = t
      · rw [if_pos e, e, updf_same]
      · rw [if_neg e, updf_ne _ _ e]
    · funext x
      show (pMove (plS P l r (fun k => (p k : Int)) (fun k => f (p k)) i).1 (f (p i)).toNat ((p (i + 1) : Int)).toNat).asg x = _
      rw [et, pMove_asg hpt, i3]
    · have h9 := s9 hG.2.1 (by omega)
      have h10 := LG_add (a := f (p i)) (b := (p (i + 1) : Int)) i4 (by omega)
      exact h10
theorem lpW_out {wh f : Nat → Int} {p : Nat → Nat} {x : Nat} : ∀ {i : Nat}, (∀ k, k < i → (f (p k)).toNat ≠ x) → lpW wh f p i x = wh x
  | 0, _ => rfl
  | i + 1, h => by
    show updf (lpW wh f p i) (f (p i)).toNat (p (i + 1) : Int) x = _
    rw [updf_ne _ _ (fun e => h i (by omega) e.symm)]
    exact lpW_out (fun k hk => h k (by omega))
theorem lpW_in {wh f : Nat → Int} {p : Nat → Nat} {k : Nat} : ∀ {i : Nat}, k < i → (∀ j, j < i → j ≠ k → (f (p j)).toNat ≠ (f (p k)).toNat) → lpW wh f p i (f (p k)).toNat = (p (k + 1) : Int)
  | 0, hk, _ => absurd hk (Nat.not_lt_zero _)
  | i + 1, hk, h => by
    show updf (lpW wh f p i) (f (p i)).toNat (p (i + 1) : Int) (f (p k)).toNat = _
    by_cases e : k = i
    · subst e; rw [updf_same]
    · rw [updf_ne _ _ (fun e2 => h i (by omega) (fun q => e q.symm) e2.symm)]
      exact lpW_in (by omega) (fun j hj => h j (by omega))
theorem lpA_out {f : Nat → Int} {p : Nat → Nat} {a : Nat} : ∀ {i : Nat}, (∀ k, k < i → p (k + 1) ≠ a) → lpA f p i a = f a
  | 0, _ => rfl
  | i + 1, h => by
    show updf (lpA f p i) (p (i + 1)) (f (p i)) a = _
    rw [updf_ne _ _ (fun e => h i (by omega) e.symm)]
    exact lpA_out (fun k hk => h k (by omega))
theorem lpA_in {f : Nat → Int} {p : Nat → Nat} {k : Nat} : ∀ {i : Nat}, k < i → (∀ j, j < i → j ≠ k → p (j + 1) ≠ p (k + 1)) → lpA f p i (p (k + 1)) = f (p k)
  | 0, hk, _ => absurd hk (Nat.not_lt_zero _)
  | i + 1, hk, h => by
    show updf (lpA f p i) (p (i + 1)) (f (p i)) (p (k + 1)) = _
    by_cases e : k = i
    · subst e; rw [updf_same]
    · rw [updf_ne _ _ (fun e2 => h i (by omega) (fun q => e q.symm) e2.symm)]
      exact lpA_in (by omega) (fun j hj => h j (by omega))
theorem lp_at {P : QP} {f : Nat → Int} {l : QL} {m : Int32} {L : Nat} {p : Nat → Nat} (hA : AtR P f) {Q : QP} {r : Nat} (hr : (r : Int) < P.req) (hw : P.plc r = -1) (g : okP P f m L p) (hL1 : 1 ≤ L) (hreq : Q.req = P.req) (hplc : Q.plc = updf (lpW P.plc f p (L - 1)) r (p 0 : Int)) : AtR Q (updf (lpA f p (L - 1)) (p 0) (r : Int)) := by
  have hT : ∀ k, k < L - 1 → ∃ t : Nat, f (p k) = (t : Int) ∧ (t : Int) < P.req ∧ P.plc t = (p k : Int) ∧ (f (p k)).toNat = t ∧ t ≠ r := fun k hk => by
    obtain ⟨t, t1, t2, t3, t4, t5⟩ := okP_t hA g (k := k) (by omega)
    refine ⟨t, t1, t2, t3, by omega, fun e => ?_⟩
    rw [e, hw] at t3
    omega
  have hTd : ∀ j k, j < L - 1 → k < L - 1 → j ≠ k → (f (p j)).toNat ≠ (f (p k)).toNat := fun j k hj hk hne e => by
    obtain ⟨t, t1, t2, t3, t4, t5⟩ := hT j hj
    obtain ⟨u, u1, u2, u3, u4, u5⟩ := hT k hk
    rw [t4, u4] at e
    rw [e, u3] at t3
    exact hne (g.2.1 j k (by omega) (by omega) (by omega))
  have hpd : ∀ j k, j < L → k < L → j ≠ k → p j ≠ p k := fun j k hj hk hne e => hne (g.2.1 j k hj hk e)
  have hQr : Q.plc r = (p 0 : Int) := by rw [hplc, updf_same]
  have hQt : ∀ k, k < L - 1 → Q.plc (f (p k)).toNat = (p (k + 1) : Int) := fun k hk => by
    obtain ⟨t, t1, t2, t3, t4, t5⟩ := hT k hk
    rw [hplc, updf_ne _ _ (by rw [t4]; exact t5)]
    exact lpW_in hk (fun j hj hne => hTd j k hj hk hne)
  have hQo : ∀ x, x ≠ r → (∀ k, k < L - 1 → (f (p k)).toNat ≠ x) → Q.plc x = P.plc x := fun x hx h => by
    rw [hplc, updf_ne _ _ hx]
    exact lpW_out h
  have hF0 : updf (lpA f p (L - 1)) (p 0) (r : Int) (p 0) = (r : Int) := updf_same _ _ _
  have hFk : ∀ k, k < L - 1 → updf (lpA f p (L - 1)) (p 0) (r : Int) (p (k + 1)) = f (p k) := fun k hk => by
    rw [updf_ne _ _ (hpd (k + 1) 0 (by omega) (by omega) (by omega))]
    exact lpA_in hk (fun j hj hne => hpd (j + 1) (k + 1) (by omega) (by omega) (by omega))
  have hFo : ∀ a, (∀ k, k < L → p k ≠ a) → updf (lpA f p (L - 1)) (p 0) (r : Int) a = f a := fun a h => by
    rw [updf_ne _ _ (fun e => h 0 (by omega) e.symm)]
    exact lpA_out (fun k hk => h (k + 1) (by omega))
  refine ⟨fun a ha => ?_, fun a x ha hx hp => ?_⟩
  · by_cases hin : ∃ k, k < L ∧ p k = a
    · obtain ⟨k, hk, rfl⟩ := hin
      right
      cases k with
      | zero => exact ⟨r, hF0, by rw [hreq]; exact hr, hQr⟩
      | succ k =>
        obtain ⟨t, t1, t2, t3, t4, t5⟩ := hT k (by omega)
        have h1 := hQt k (by omega)
        rw [t4] at h1
        exact ⟨t, by rw [hFk k (by omega)]; exact t1, by rw [hreq]; exact t2, h1⟩
    · have hno : ∀ k, k < L → p k ≠ a := fun k hk e => hin ⟨k, hk, e⟩
      rw [hFo a hno]
      rcases hA.1 a ha with h | ⟨x, x1, x2, x3⟩
      · exact Or.inl h
      · right
        refine ⟨x, x1, by rw [hreq]; exact x2, ?_⟩
        rw [hQo x (fun e => by rw [e, hw] at x3; omega) (fun k hk e => by
          obtain ⟨t, t1, t2, t3, t4, t5⟩ := hT k hk
          rw [← e, t4, t3] at x3
          exact hno k (by omega) (by omega))]
        exact x3
  · rw [hreq] at hx
    by_cases e : x = r
    · rw [e, hQr] at hp
      have ea : a = p 0 := by omega
      rw [ea, hF0, e]
    · by_cases hin : ∃ k, k < L - 1 ∧ (f (p k)).toNat = x
      · obtain ⟨k, hk, ek⟩ := hin
        have h1 := hQt k hk
        rw [ek, hp] at h1
        have ea : a = p (k + 1) := by omega
        obtain ⟨t, t1, t2, t3, t4, t5⟩ := hT k hk
        rw [ea, hFk k hk]
        omega
      · have hno : ∀ k, k < L - 1 → (f (p k)).toNat ≠ x := fun k hk ek => hin ⟨k, hk, ek⟩
        rw [hQo x e hno] at hp
        have hfa := hA.2 a x ha hx hp
        rw [hFo a (fun k hk ek => ?_)]
        · exact hfa
        · rcases (by omega : k < L - 1 ∨ k = L - 1) with q | q
          · apply hno k q
            rw [ek]
            omega
          · have h4 := g.2.2.2.1
            rw [← q, ek] at h4
            omega
end
section
/-! WHO IS TRIED NEXT: the law goes by groups, the service by requests -/
theorem servB_iff {P : QP} {g h : Int} : servB P g h = true ↔ P.asg g.toNat * P.wei h.toNat < P.asg h.toNat * P.wei g.toNat ∨ (P.asg g.toNat * P.wei h.toNat = P.asg h.toNat * P.wei g.toNat ∧ g < h) := by
  unfold servB
  exact decide_eq_true_iff
theorem mul_mid {a b c x y z : Int} (hz : 0 < z) (hx : 0 < x) (h1 : a * y ≤ b * x) (h2 : b * z ≤ c * y) : y * (a * z) ≤ y * (c * x) ∧ ((a * y < b * x ∨ b * z < c * y) → y * (a * z) < y * (c * x)) := by
  have e1 : y * (a * z) = (a * y) * z := by rw [Int.mul_comm a y, Int.mul_assoc]
  have e2 : (b * x) * z = (b * z) * x := Int.mul_right_comm b x z
  have e3 : y * (c * x) = (c * y) * x := by rw [Int.mul_comm c y, Int.mul_assoc]
  rw [e1, e3]
  have k1 : (a * y) * z ≤ (b * x) * z := Int.mul_le_mul_of_nonneg_right h1 (by omega)
  have k2 : (b * z) * x ≤ (c * y) * x := Int.mul_le_mul_of_nonneg_right h2 (by omega)
  refine ⟨by omega, fun h => ?_⟩
  rcases h with h | h
  · have k3 : (a * y) * z < (b * x) * z := Int.mul_lt_mul_of_pos_right h hz
    omega
  · have k3 : (b * z) * x < (c * y) * x := Int.mul_lt_mul_of_pos_right h hx
    omega
theorem servB_trans {P : QP} (hI : PI P) {g h i : Int} (hg : 0 ≤ g ∧ g ≤ 3) (hh : 0 ≤ h ∧ h ≤ 3) (hi : 0 ≤ i ∧ i ≤ 3) (h1 : servB P g h = true) (h2 : servB P h i = true) : servB P g i = true := by
  rw [servB_iff] at h1 h2 ⊢
  have x1 := hI.wei1 g.toNat (by omega)
  have y1 := hI.wei1 h.toNat (by omega)
  have z1 := hI.wei1 i.toNat (by omega)
  generalize P.asg g.toNat = a at h1 h2 ⊢
  generalize P.asg h.toNat = b at h1 h2 ⊢
  generalize P.asg i.toNat = c at h1 h2 ⊢
  generalize P.wei g.toNat = x at h1 h2 x1 ⊢
  generalize P.wei h.toNat = y at h1 h2 y1 ⊢
  generalize P.wei i.toNat = z at h1 h2 z1 ⊢
  have k1 : a * y ≤ b * x := by omega
  have k2 : b * z ≤ c * y := by omega
  obtain ⟨m1, m2⟩ := mul_mid (by omega : 0 < z) (by omega : 0 < x) k1 k2
  by_cases q : a * y < b * x ∨ b * z < c * y
  · left
    exact Int.lt_of_mul_lt_mul_left (m2 q) (by omega)
  · have q1 : g < h ∧ h < i := by omega
    have m3 : a * z ≤ c * x := Int.le_of_mul_le_mul_left m1 (by omega)
    omega
theorem servB_tot {P : QP} {g h : Int} (h1 : ¬ servB P g h = true) : servB P h g = true ∨ g = h := by
  rw [servB_iff] at h1
  rw [servB_iff]
  omega
theorem servB_asym {P : QP} {g h : Int} (h1 : servB P g h = true) (h2 : servB P h g = true) : False := by
  rw [servB_iff] at h1 h2
  omega
/-- waiting and not tried -/
def wtB (P : QP) (T : Nat → Bool) (r : Nat) : Prop := P.plc r = -1 ∧ T r = false
def betB (P : QP) (k j : Nat) : Prop := servB P (P.grp k) (P.grp j) = true ∨ (P.grp k = P.grp j ∧ k < j)
theorem betB_asym {P : QP} {k j : Nat} (h1 : betB P k j) (h2 : betB P j k) : False := by
  rcases h1 with h1 | ⟨h1, h3⟩
  · rcases h2 with h2 | ⟨h2, h4⟩
    · exact servB_asym h1 h2
    · rw [h2] at h1
      exact servB_asym h1 h1
  · rcases h2 with h2 | ⟨h2, h4⟩
    · rw [h1] at h2
      exact servB_asym h2 h2
    · omega
theorem betB_serv {P : QP} (hI : PI P) {n k j : Nat} (h1 : servB P (P.grp n) (P.grp k) = true) (h2 : betB P k j) : servB P (P.grp n) (P.grp j) = true := by
  rcases h2 with h2 | ⟨h2, h3⟩
  · exact servB_trans hI (hI.grp n) (hI.grp k) (hI.grp j) h1 h2
  · rw [← h2]; exact h1
theorem nxF_best {P : QP} (hI : PI P) (T : Nat → Bool) : ∀ n : Nat, (nxF P T n = -1 ∧ ∀ j, j < n → ¬ wtB P T j) ∨ ∃ k : Nat, k < n ∧ nxF P T n = (k : Int) ∧ wtB P T k ∧ ∀ j, j < n → wtB P T j → j = k ∨ betB P k j
  | 0 => Or.inl ⟨rfl, fun j hj => absurd hj (Nat.not_lt_zero _)⟩
  | n + 1 => by
    simp only [nxF]
    rcases nxF_best hI T n with ⟨h1, h2⟩ | ⟨k, h1, h2, h3, h4⟩
    · by_cases c : wtB P T n
      · right
        rw [if_pos ⟨c.1, c.2, Or.inl h1⟩]
        refine ⟨n, by omega, rfl, c, fun j hj hw => ?_⟩
        by_cases e : j = n
        · exact Or.inl e
        · exact absurd hw (h2 j (by omega))
      · left
        rw [if_neg (fun q => c ⟨q.1, q.2.1⟩)]
        refine ⟨h1, fun j hj hw => ?_⟩
        by_cases e : j = n
        · rw [e] at hw; exact c hw
        · exact h2 j (by omega) hw
    · right
      have ek : (nxF P T n).toNat = k := by omega
      rw [ek]
      by_cases c : wtB P T n ∧ servB P (P.grp n) (P.grp k) = true
      · rw [if_pos ⟨c.1.1, c.1.2, Or.inr c.2⟩]
        refine ⟨n, by omega, rfl, c.1, fun j hj hw => ?_⟩
        by_cases e : j = n
        · exact Or.inl e
        · right
          left
          rcases h4 j (by omega) hw with e2 | e2
          · rw [e2]; exact c.2
          · exact betB_serv hI c.2 e2
      · rw [if_neg (fun q => c ⟨⟨q.1, q.2.1⟩, q.2.2.elim (fun q => by omega) (fun q => q)⟩)]
        refine ⟨k, by omega, h2, h3, fun j hj hw => ?_⟩
        by_cases e : j = n
        · right
          rw [e] at hw ⊢
          have c2 : ¬ servB P (P.grp n) (P.grp k) = true := fun q => c ⟨hw, q⟩
          rcases servB_tot c2 with q | q
          · exact Or.inl q
          · exact Or.inr ⟨q.symm, h1⟩
        · exact h4 j (by omega) hw
/-- the first of a group -/
def fiB (P : QP) (T : Nat → Bool) (g r : Nat) : Bool := decide (P.grp r = (g : Int)) && (decide (P.plc r = -1) && !(T r))
theorem fiB_iff {P : QP} {T : Nat → Bool} {g r : Nat} : fiB P T g r = true ↔ P.grp r = (g : Int) ∧ wtB P T r := by
  unfold fiB wtB
  simp only [Bool.and_eq_true, decide_eq_true_eq, Bool.not_eq_true']
/-- what the law has found when it has gone through the groups below c -/
def lnS (P : QP) (T : Nat → Bool) (c : Nat) (v : Int) : Prop := (v = -1 ∧ ∀ j : Nat, (j : Int) < P.req → wtB P T j → ¬ P.grp j < (c : Int)) ∨ ∃ k : Nat, (k : Int) < P.req ∧ v = (k : Int) ∧ wtB P T k ∧ P.grp k < (c : Int) ∧ ∀ j : Nat, (j : Int) < P.req → wtB P T j → P.grp j < (c : Int) → j = k ∨ betB P k j
theorem lnS_0 {P : QP} (hI : PI P) {T : Nat → Bool} : lnS P T 0 (-1) := Or.inl ⟨rfl, fun j _ _ h => by have := hI.grp j; omega⟩
theorem lnS_none {P : QP} {T : Nat → Bool} {c : Nat} {v : Int} (h : lnS P T c v) (hn : ∀ j : Nat, (j : Int) < P.req → ¬ fiB P T c j = true) : lnS P T (c + 1) v := by
  have hc : ∀ j : Nat, (j : Int) < P.req → wtB P T j → P.grp j < ((c + 1 : Nat) : Int) → P.grp j < (c : Int) := fun j hj hw hg => by
    rcases (by omega : P.grp j < (c : Int) ∨ P.grp j = (c : Int)) with e | e
    · exact e
    · exact absurd (fiB_iff.mpr ⟨e, hw⟩) (hn j hj)
  rcases h with ⟨h1, h2⟩ | ⟨k, h1, h2, h3, h4, h5⟩
  · exact Or.inl ⟨h1, fun j hj hw hg => h2 j hj hw (hc j hj hw hg)⟩
  · exact Or.inr ⟨k, h1, h2, h3, by omega, fun j hj hw hg => h5 j hj hw (hc j hj hw hg)⟩
theorem lnS_keep {P : QP} {T : Nat → Bool} {c k : Nat} (h : lnS P T c (k : Int)) (hle : ¬ P.asg c * P.wei (P.grp k).toNat < P.asg (P.grp k).toNat * P.wei c) : lnS P T (c + 1) (k : Int) := by
  rcases h with ⟨h1, h2⟩ | ⟨k2, h1, h2, h3, h4, h5⟩
  · omega
  · have ek : k2 = k := by omega
    subst ek
    refine Or.inr ⟨k2, h1, rfl, h3, by omega, fun j hj hw hg => ?_⟩
    rcases (by omega : P.grp j < (c : Int) ∨ P.grp j = (c : Int)) with e | e
    · exact h5 j hj hw e
    · right
      left
      rw [servB_iff, e, show ((c : Int)).toNat = c by omega]
      omega
theorem lnS_take {P : QP} (hI : PI P) {T : Nat → Bool} {c x : Nat} {v : Int} (hc : c < 4) (h : lnS P T c v) (hx : (x : Int) < P.req) (h1 : fiB P T c x = true) (h2 : ∀ j : Nat, j < x → ¬ fiB P T c j = true) (hlt : v < 0 ∨ P.asg c * P.wei (P.grp v.toNat).toNat < P.asg (P.grp v.toNat).toNat * P.wei c) : lnS P T (c + 1) (x : Int) := by
  obtain ⟨g1, g2⟩ := fiB_iff.mp h1
  have hsame : ∀ j : Nat, wtB P T j → P.grp j = (c : Int) → j = x ∨ betB P x j := fun j hw e => by
    by_cases ej : j = x
    · exact Or.inl ej
    · right
      right
      refine ⟨by rw [g1, e], ?_⟩
      rcases Nat.lt_or_ge j x with q | q
      · exact absurd (fiB_iff.mpr ⟨e, hw⟩) (h2 j q)
      · omega
  refine Or.inr ⟨x, hx, rfl, g2, by omega, fun j hj hw hg => ?_⟩
  rcases (by omega : P.grp j < (c : Int) ∨ P.grp j = (c : Int)) with e | e
  · rcases h with ⟨k1, k2⟩ | ⟨k, k1, k2, k3, k4, k5⟩
    · exact absurd e (k2 j hj hw)
    · have ek : v.toNat = k := by omega
      rw [ek] at hlt
      have hs : servB P (P.grp x) (P.grp k) = true := by
        rw [servB_iff, g1, show ((c : Int)).toNat = c by omega]
        rcases hlt with q | q
        · omega
        · exact Or.inl q
      right
      left
      rcases k5 j hj hw e with q | q
      · rw [q]; exact hs
      · exact betB_serv hI hs q
  · exact hsame j hw e
/-- both find the same -/
theorem lnS_end {P : QP} (hI : PI P) {T : Nat → Bool} {v : Int} (h : lnS P T 4 v) : nxF P T P.req.toNat = v := by
  have hq := hI.req
  rcases nxF_best hI T P.req.toNat with ⟨h1, h2⟩ | ⟨k, h1, h2, h3, h4⟩
  · rcases h with ⟨g1, g2⟩ | ⟨j, g1, g2, g3, g4, g5⟩
    · omega
    · exact absurd g3 (h2 j (by omega))
  · rcases h with ⟨g1, g2⟩ | ⟨j, g1, g2, g3, g4, g5⟩
    · have := hI.grp k
      exact absurd (by omega) (g2 k (by omega) h3)
    · have hgk := hI.grp k
      have hgj := hI.grp j
      rcases g5 k (by omega) h3 (by omega) with e | e
      · omega
      · rcases h4 j (by omega) g3 with e2 | e2
        · omega
        · exact False.elim (betB_asym e e2)
end
section
/-! THE LAW'S STEPS AGAINST THE SERVICE'S, in words of QP -/
/-- what bestPath answers -/
def BP (P : QP) (f : Nat → Int) (m : Int32) (z : Int32) (u : Nat → Int) : Prop :=
  (z = iI 0 ∧ minL P m = 0) ∨ ∃ (L : Nat) (p : Nat → Nat), 1 ≤ L ∧ L ≤ 4 ∧ z = iI (L : Int) ∧ minL P m = (L : Int) ∧ okP P f m L p ∧ (∀ k, k < L → pA P (minL P m) (fstA P m) k = (p k : Int)) ∧ ∀ k, k < L → u k = (p k : Int)
theorem LC_of {P Q : QP} (h : LC P) (h1 : Q.res = P.res) (h2 : Q.cap = P.cap) (h3 : Q.quo = P.quo) (h4 : Q.req ≤ 14) (h5 : Q.pl = P.pl) (h6 : Q.ml = P.ml) : LC Q := by
  obtain ⟨a1, a2, a3, a4, a5, a6⟩ := h
  exact ⟨h1.trans a1, by rw [h2]; exact a2, by rw [h3]; exact a3, h4, by rw [h5]; exact a5, by rw [h6]; exact a6⟩
theorem LC_same {P Q : QP} (h : LC P) (g : SameQ P Q) : LC Q := by
  obtain ⟨a1, a2, a3, a4, a5, a6, a7, a8, a9⟩ := g
  exact LC_of h a1 a2 a3 (by rw [a5]; exact h.2.2.2.1) a8 a9
theorem grp_room {P : QP} (hI : PI P) (hC : LC P) (r : Nat) : P.asg (P.grp r).toNat < P.quo (P.grp r).toNat := by
  have hg := hI.grp r
  rw [hC.2.2.1 _ (by omega), hI.2.2 _]
  have h1 := cntF_le (fun x => decide (0 ≤ P.plc x ∧ P.grp x = ((P.grp r).toNat : Int))) P.req.toNat
  have h2 := hC.2.2.2.1
  have h3 := hI.req
  omega
theorem try_no {P : QP} {l : QL} {r : Nat} (h : ¬ (1 ≤ minL P (P.acc r) ∧ minL P (P.acc r) - 1 ≤ P.pl)) : tryS P l r = (false, P, l) := by
  unfold tryS
  rw [if_neg (fun q => h q.2)]
theorem try_yes {P : QP} {f : Nat → Int} {l : QL} {r L : Nat} {p : Nat → Nat} {lg : Nat → Int} {n0 : Nat} (hI : PI P) (hA : AtR P f) (hC : LC P) (hr : (r : Int) < P.req) (hw : P.plc r = -1) (hL1 : 1 ≤ L) (hL2 : L ≤ 4) (hmin : minL P (P.acc r) = (L : Int)) (g : okP P f (P.acc r) L p) (hp : ∀ k, k < L → pA P (minL P (P.acc r)) (fstA P (P.acc r)) k = (p k : Int)) (hpl : (L : Int) - 1 ≤ P.pl) (hG : LG l lg n0) (hs : l.sz + L ≤ 200) :
    (tryS P l r).1 = true ∧ SameQ P (tryS P l r).2.1 ∧ (tryS P l r).2.1.plc = updf (lpW P.plc f p (L - 1)) r (p 0 : Int) ∧ (tryS P l r).2.1.mov = lpM P.mov f p (L - 1) ∧ (tryS P l r).2.1.asg = updf P.asg (P.grp r).toNat (P.asg (P.grp r).toNat + 1) ∧ LG (tryS P l r).2.2 (lpG lg f p n0 (L - 1)) (n0 + 2 * (L - 1)) ∧ AtR (tryS P l r).2.1 (updf (lpA f p (L - 1)) (p 0) (r : Int)) := by
  have hsm := tryS_same P l r
  have e : tryS P l r = (true, plX P l r) := by
    unfold tryS
    rw [if_pos ⟨grp_room hI hC r, by omega, by omega⟩]
  rw [e] at hsm ⊢
  obtain ⟨h1, h2, h3, h4⟩ := lp_eq hI hA hC hr hw rfl g hL1 hL2 hG hs (L - 1) (by omega)
  rw [← plX_row hI hA hC rfl hL1 hL2 g.1 hmin hp] at h1 h2 h3 h4
  exact ⟨rfl, hsm, h1, h2, h3, h4, lp_at (l := l) hA hr hw g hL1 hsm.2.2.2.2.1 h1⟩
theorem AtR_neg {P Q : QP} {f : Nat → Int} {r : Nat} {v : Int} (hA : AtR P f) (hn : P.plc r < 0) (hv : v < 0) (h1 : Q.req = P.req) (h2 : Q.plc = updf P.plc r v) : AtR Q f := by
  refine ⟨fun a ha => ?_, fun a x ha hx hp => ?_⟩
  · rcases hA.1 a ha with h | ⟨x, x1, x2, x3⟩
    · exact Or.inl h
    · refine Or.inr ⟨x, x1, by rw [h1]; exact x2, ?_⟩
      rw [h2, updf_ne _ _ (fun e => by rw [e] at x3; omega)]
      exact x3
  · rw [h2] at hp
    by_cases e : x = r
    · rw [e, updf_same] at hp; omega
    · rw [updf_ne _ _ e] at hp
      exact hA.2 a x ha (by rw [← h1]; exact hx) hp
theorem AtR_eq {P Q : QP} {f : Nat → Int} (hA : AtR P f) (h1 : Q.req = P.req) (h2 : Q.plc = P.plc) : AtR Q f := by
  unfold AtR
  rw [h1, h2]
  exact hA
theorem AtR_put {P Q : QP} {f : Nat → Int} {r b : Nat} {v : Int} (hA : AtR P f) (hr : (r : Int) < P.req) (hb : b < 4) (hp0 : P.plc r = (b : Int)) (hv : v < 0) (h1 : Q.req = P.req) (h2 : Q.plc = updf P.plc r v) : AtR Q (updf f b (-1)) := by
  have hfb := hA.2 b r hb hr hp0
  refine ⟨fun a ha => ?_, fun a x ha hx hp => ?_⟩
  · by_cases ea : a = b
    · left; rw [ea, updf_same]
    · rw [updf_ne _ _ ea]
      rcases hA.1 a ha with h | ⟨x, x1, x2, x3⟩
      · exact Or.inl h
      · refine Or.inr ⟨x, x1, by rw [h1]; exact x2, ?_⟩
        rw [h2, updf_ne _ _ (fun e => by rw [e, hp0] at x3; omega)]
        exact x3
  · rw [h2] at hp
    by_cases e : x = r
    · rw [e, updf_same] at hp; omega
    · rw [updf_ne _ _ e] at hp
      have h3 := hA.2 a x ha (by rw [← h1]; exact hx) hp
      rw [updf_ne _ _ (fun ea => by rw [ea, hfb] at h3; omega)]
      exact h3
theorem AtR_admit {P : QP} {f : Nat → Int} {g : Int} {m : Int32} (hI : PI P) (hA : AtR P f) : AtR (pAdmit P g m) f := by
  have hq := hI.req
  refine ⟨fun a ha => ?_, fun a x ha hx hp => ?_⟩
  · rcases hA.1 a ha with h | ⟨x, x1, x2, x3⟩
    · exact Or.inl h
    · refine Or.inr ⟨x, x1, ?_, ?_⟩
      · show (x : Int) < P.req + 1
        omega
      · show updf P.plc P.req.toNat (-1) x = _
        rw [updf_ne _ _ (by omega)]
        exact x3
  · have hx2 : (x : Int) < P.req + 1 := hx
    have hp2 : updf P.plc P.req.toNat (-1) x = (a : Int) := hp
    by_cases e : x = P.req.toNat
    · rw [e, updf_same] at hp2; omega
    · rw [updf_ne _ _ e] at hp2
      exact hA.2 a x ha (by omega) hp2
/-- what holds at the head of the law's loop -/
def HV (P : QP) (l : QL) (f : Nat → Int) : Prop := SV P l ∧ LC P ∧ AtR P f
theorem mask16 : ∀ i, i < 16 → (¬ (iI ((i : Nat) : Int) < 0) ∧ iI ((i : Nat) : Int) &&& (maskAll 4 ^^^ iI (-1)) = 0) := by decide +kernel
theorem mOK16 {P : QP} (hC : LC P) {i : Nat} (hi : i < 16) : mOK P (iI (i : Int)) := by
  unfold mOK
  rw [hC.1]
  exact mask16 i hi
theorem b_one1 (x : Int32) : (x &&& iI 1 = iI 1) ↔ ¬ (x &&& iI 1 = 0) := by
  constructor
  · intro h h2
    rw [h] at h2
    exact absurd h2 (by decide)
  · intro h
    apply b_ext
    intro i hi
    rw [b_and, b_one i hi]
    by_cases e : i = 0
    · subst e
      cases hb : bt x 0
      · exfalso
        apply h
        rw [b_and0]
        intro k hk
        rw [b_one k hk]
        by_cases e : k = 0
        · subst e; rw [hb]; rfl
        · rw [decide_eq_false e, Bool.and_false]
      · rfl
    · rw [decide_eq_false e, Bool.and_false]
/-- a mask's bit as the law asks for it -/
theorem bitz {m : Int32} {k : Nat} (hk : k < 31) : ((m >>> (iI (k : Int) &&& 31)) &&& iI 1) = 0 ↔ bt m k = false := by
  have h := bitB_bt m hk
  unfold bitB at h
  rw [← h]
  simp
theorem bit1z {m : Int32} {k : Nat} (hk : k < 31) : ((m >>> (iI (k : Int) &&& 31)) &&& iI 1) = iI 1 ↔ bt m k = true := by
  rw [b_one1, bitz hk]
  simp
theorem stN_b (p : Int) : stN p = if 0 ≤ p then 1 else if p = -1 then 0 else 2 := by
  unfold stN
  by_cases h : p = -1
  · subst h
    decide
  · simp only [if_neg h]
theorem grp_wei {P : QP} (hI : PI P) (a b : Nat) : 0 ≤ P.asg a * P.wei b ∧ P.asg a * P.wei b ≤ 400 := mul_rng (hI.asg a) (hI.wei b)
theorem pDismiss_same (P : QP) (r : Nat) : SameQ P (pDismiss P r) := same_put P r
theorem pAccept_req (P : QP) (r : Nat) (m : Int32) : (pAccept P r m).res = P.res ∧ (pAccept P r m).cap = P.cap ∧ (pAccept P r m).quo = P.quo ∧ (pAccept P r m).wei = P.wei ∧ (pAccept P r m).req = P.req ∧ (pAccept P r m).grp = P.grp ∧ (pAccept P r m).pl = P.pl ∧ (pAccept P r m).ml = P.ml := by
  unfold pAccept
  split
  · exact ⟨pPut_res (pMask P r m) r, pPut_cap (pMask P r m) r, pPut_quo (pMask P r m) r, pPut_wei (pMask P r m) r, pPut_req (pMask P r m) r, pPut_grp (pMask P r m) r, pPut_pl (pMask P r m) r, pPut_ml (pMask P r m) r⟩
  · exact ⟨rfl, rfl, rfl, rfl, rfl, rfl, rfl, rfl⟩
end
section
/-! MORE ROWS: remainders and quotients, constants, the script in a method of the law, a static call that makes cells -/
theorem iI_div {a b : Nat} (ha : a < 2147483648) (hb : b < 2147483648) : iI (a : Int) / iI (b : Int) = iI ((a / b : Nat) : Int) := by
  apply Int32.toInt_inj.mp
  have h0 : a / b ≤ a := Nat.div_le_self a b
  obtain ⟨q, hq0⟩ : ∃ q : Nat, q = a / b := ⟨_, rfl⟩
  rw [← hq0] at h0 ⊢
  rw [Int32.toInt_div, iI_toInt (a := (a : Int)) ⟨by omega, by omega⟩, iI_toInt (a := (b : Int)) ⟨by omega, by omega⟩, iI_toInt (a := (q : Int)) ⟨by omega, by omega⟩, ← Int.ofNat_tdiv, ← hq0]
  clear hq0
  have hq : q < 2147483648 := by omega
  first | (rw [Int.bmod_eq_of_le (by omega) (by omega)]; done) | (simp only [Int.bmod]; omega) | (unfold Int.bmod; simp; omega)
theorem iI_rem {a b : Nat} (ha : a < 2147483648) (hb : b < 2147483648) : iI (a : Int) - iI (a : Int) / iI (b : Int) * iI (b : Int) = iI ((a % b : Nat) : Int) := by
  rw [iI_div ha hb, iI_mul, iI_sub]
  apply congrArg iI
  have h := Nat.div_add_mod a b
  have h2 : b * (a / b) = (a / b) * b := Nat.mul_comm _ _
  have h3 : (((a / b) * b : Nat) : Int) = ((a / b : Nat) : Int) * (b : Int) := Int.natCast_mul _ _
  rw [← h3]
  omega
theorem and_pos (v : Int32) : ∃ c : Nat, c < 2147483648 ∧ v &&& (2147483647 : Int32) = iI (c : Int) := by
  refine ⟨(v.toBitVec &&& 2147483647#32).toNat, ?_, ?_⟩
  · rw [BitVec.toNat_and]
    exact Nat.lt_of_le_of_lt Nat.and_le_right (by decide)
  · apply Int32.toBitVec_inj.mp
    rw [Int32.toBitVec_and]
    show v.toBitVec &&& 2147483647#32 = BitVec.ofInt 32 _
    rw [BitVec.ofInt_natCast, BitVec.ofNat_toNat, BitVec.setWidth_eq]
section JMORE
variable {G : jG} {X : JX} {k n pc : Nat} {w : va_W} {L : List (Option Value)} {rest : List Value} {rm : Room} {cc : ByteArray} {own : String} {nL : Nat}
theorem jw_irem_n {a b : Nat} (C : JC G X rm cc own nL) (hb0 : 0 < b) (ha : a < 2147483648) (hb2 : b < 2147483648) (d : decode cc pc = .ok (.irem, 1)) (kk : JW G X k n w (pc + 1) L (.int (iI ((a % b : Nat) : Int)) :: rest)) : JW G X k n w pc L (.int (iI (b : Int)) :: .int (iI (a : Int)) :: rest) := by
  obtain ⟨p, l, e, R, s, m, args, below, meth, c, Q, A⟩ := X
  obtain ⟨hx, hb, hml, hown, hts, hnw, hK, hlk, hA, hR⟩ := C
  intro H locs ls hP hD hS hl
  refine lv_irem hx hb d (fun q => ?_) ?_
  · have := (iI_eq (a := (b : Int)) (b := 0) ⟨by omega, by omega⟩ ⟨by omega, by omega⟩).mp q
    omega
  · rw [iI_rem ha hb2]
    exact kk H locs ls hP hD hS hl
theorem jw_idiv_n {a b : Nat} (C : JC G X rm cc own nL) (hb0 : 0 < b) (ha : a < 2147483648) (hb2 : b < 2147483648) (d : decode cc pc = .ok (.idiv, 1)) (kk : JW G X k n w (pc + 1) L (.int (iI ((a / b : Nat) : Int)) :: rest)) : JW G X k n w pc L (.int (iI (b : Int)) :: .int (iI (a : Int)) :: rest) := by
  obtain ⟨p, l, e, R, s, m, args, below, meth, c, Q, A⟩ := X
  obtain ⟨hx, hb, hml, hown, hts, hnw, hK, hlk, hA, hR⟩ := C
  intro H locs ls hP hD hS hl
  refine lv_idiv hx hb d (fun q => ?_) ?_
  · have := (iI_eq (a := (b : Int)) (b := 0) ⟨by omega, by omega⟩ ⟨by omega, by omega⟩).mp q
    omega
  · rw [iI_div ha hb2]
    exact kk H locs ls hP hD hS hl
theorem jw_ldc {idx : Nat} {v : Int32} (C : JC G X rm cc own nL) (hw : Cond.constant own idx v ∈ jAll) (d : decode cc pc = .ok (.ldc idx, 2)) (kk : JW G X k n w (pc + 2) L (.int v :: rest)) : JW G X k n w pc L rest := by
  obtain ⟨p, l, e, R, s, m, args, below, meth, c, Q, A⟩ := X
  obtain ⟨hx, hb, hml, hown, hts, hnw, hK, hlk, hA, hR⟩ := C
  intro H locs ls hP hD hS hl
  refine lv_ldc hx hb hown (hts _ hw) d ?_
  exact kk H locs ls hP hD hS hl
end JMORE
/-- the script, in the law's own frame and in the frame of a method that it calls -/
def JScr (X : JX) (b N : Nat) (xs : Nat → Int32) : Prop :=
  match X with
  | (_p, _l, _e, _R, s, _m, _args, _below, _meth, _c, _Q, A) => va_X b N xs s s.heap ∧ b < s.heap.size ∧ ¬ A b
section JSCR
variable {G : jG} {X : JX} {k n pc : Nat} {w : va_W} {L : List (Option Value)} {rest : List Value} {rm : Room} {cc : ByteArray} {own : String} {nL b N : Nat} {xs : Nat → Int32}
theorem jw_sld {i : Int} (C : JC G X rm cc own nL) (S : JScr X b N xs) (j : Nat) (hj : i = (j : Int)) (hn : j < N) (hN : N < 1000000) (d : decode cc pc = .ok (.iaload, 1)) (kk : JW G X k n w (pc + 1) L (.int (xs j) :: rest)) : JW G X k n w pc L (.int (iI i) :: .ref b :: rest) := by
  obtain ⟨p, l, e, R, s, m, args, below, meth, c, Q, A⟩ := X
  obtain ⟨hx, hb, hml, hown, hts, hnw, hK, hlk, hA, hR⟩ := C
  obtain ⟨hX, hbl, hbA⟩ := S
  intro H locs ls hP hD hS hl
  subst hj
  refine va_sld hx hb hX hbl hbA hS (iI_in hn hN) d ?_
  rw [iI_clamp (Nat.lt_trans hn hN)]
  exact kk H locs ls hP hD hS hl
theorem jw_slen (C : JC G X rm cc own nL) (S : JScr X b N xs) (d : decode cc pc = .ok (.arraylength, 1)) (kk : JW G X k n w (pc + 1) L (.int (iI (N : Int)) :: rest)) : JW G X k n w pc L (.ref b :: rest) := by
  obtain ⟨p, l, e, R, s, m, args, below, meth, c, Q, A⟩ := X
  obtain ⟨hx, hb, hml, hown, hts, hnw, hK, hlk, hA, hR⟩ := C
  obtain ⟨hX, hbl, hbA⟩ := S
  intro H locs ls hP hD hS hl
  refine va_slen hx hb hX hbl hbA hS d ?_
  have e : Int32.ofNat N = iI (N : Int) := (iI_nI N).symm
  rw [e]
  exact kk H locs ls hP hD hS hl
end JSCR
/-- a contract of a method that reads the script and nothing else -/
def CIs (G : jG) (y : MethodName) (cc : ByteArray) (maxL : Nat) (rm : Room) (args : List Value) (b N : Nat) (xs : Nat → Int32) (post : Int32 → Prop) : Prop :=
  rm.cells = 0 ∧ rm.slots = 0 ∧ ∀ (l : Launch) (sz : Nat), Met l y (Cond.code y cc maxL (some .int) :: jAll) rm (va_Pc args (fun U => jPre G sz [] U ∧ va_X b N xs U U.heap ∧ b < sz)) (va_Qi (fun r (_ : Unit) => post r) (fun _ => jPost G (va_A [] sz) []) (va_A [] sz)) 0 0 (va_A [] sz)
theorem cis_intro {G : jG} {y : MethodName} {cc : ByteArray} {maxL f loc : Nat} {args : List Value} {b N : Nat} {xs : Nat → Int32} {post : Int32 → Prop} {own : String} (L0 : List (Option Value)) (hy : plainName y.cls = true) (hyo : y.cls = own) (hL : jl0 0 L0 = lv_args 0 args) (hLn : L0.length = maxL) (hsl : (lg_sl args).length ≤ maxL)
    (h : ∀ X : JX, JC G X (jrm f loc 0 0) cc own maxL → JScr X b N xs → (∀ (pc : Nat) (L : List (Option Value)) (r : Int32), decode cc pc = .ok (.ireturn, 1) → post r → JW G X 0 0 [] pc L [.int r]) → JW G X 0 0 [] 0 L0 []) : CIs G y cc maxL (jrm f loc 0 0) args b N xs post := by
  refine ⟨rfl, rfl, fun l sz => ?_⟩
  refine Met.ofW (cc := cc) (maxL := maxL) (ret := (some .int)) hy rfl ?_
  intro p e s m args1 below meth c s₁ B hml hv
  obtain ⟨rfl, ⟨hsz, hP, hK, hN, hD0⟩, hXs, hbl⟩ := hv
  have hx := B.exec
  have hb := B.bytes
  have hr := B.returns
  have hts := atoms_spec (ws := (Cond.code y cc maxL (some .int) :: jAll)) B.pre
  have hown : s.vm.findClass own = some m.cls := by rw [← hyo]; exact findClass_of_methodNamed B.named
  have hlocks := B.notSynchronized
  subst hsz
  have hD := hD0.self (sz := s.heap.size)
  have hA : ∀ q : Nat, s.heap.size ≤ q → va_A [] s.heap.size q := fun q h => Or.inr h
  have hl := lv_entry args (n := maxL) hsl
  rw [lg_entry_eq]
  generalize (lg_sl args ++ List.replicate (maxL - (lg_sl args).length) Slot.unset).toArray = ls at hl ⊢
  rw [← hL] at hl
  have hl2 : lv_has ls L0.length (jl0 0 L0) := by rw [hLn]; exact hl
  have K := h (p, l, e, (jrm f loc 0 0), s, m, args.toArray, below, meth, c, MQ below (va_Qi (fun r (_ : Unit) => post r) (fun _ => jPost G (va_A [] s.heap.size) []) (va_A [] s.heap.size)) args.toArray s 0 0 (va_A [] s.heap.size), va_A [] s.heap.size) ⟨hx, hb, hml, hown, fun z hz => hts z (List.mem_cons_of_mem _ hz), hN, hK, hlocks, hA, rfl⟩ ⟨hXs, hbl, fun q => ?_⟩ ?_
  · exact K s.heap [] ls hP hD va_S.rf hl2
  · rcases q with ⟨i, z, q⟩ | q
    · simp at q
    · exact absurd hbl (Nat.not_lt.mpr q)
  · intro pc L r hd hp H locs ls hP hD hS hl
    exact W.iret hx hb hr (fun t ht hW => ⟨⟨r, (), rfl, hp, by rw [ht]; exact hP, va_K.moved hW.alike hK, hD⟩, hS.F ht⟩) hS.2.2 hd hlocks
theorem jPreS_blind {G : jG} {sz b N : Nat} {w : va_W} {av : List Value} {xs : Nat → Int32} : FrameBlind (va_Pc av (fun U => jPre G sz w U ∧ va_X b N xs U U.heap ∧ b < sz)) := by
  intro a U g mk q
  obtain ⟨q0, ⟨q1, qP, qK, qN, qD⟩, qX, qb⟩ := q
  exact ⟨q0, ⟨q1, qP, va_K.moved (u := U) (U := U.calling g mk a) (Vm.Alike.refl U.vm) qK, fun z hz => va_Nw.same (jNest_on hz) (u := U) (U := U.calling g mk a) rfl (qN z hz), qD⟩, va_X.moved (u := U) (U := U.calling g mk a) (Vm.Alike.refl U.vm) qX, qb⟩
section JCALL2
variable {G : jG} {X : JX} {k n pc : Nat} {w : va_W} {L : List (Option Value)} {rest st0 : List Value} {rm : Room} {cc : ByteArray} {own : String} {nL : Nat} {y : MethodName} {bytes : ByteArray} {maxL f loc np idx b q0 ci N : Nat} {As : List Value} {w0 wr : va_W} {S : Type} {w1 : S → va_W} {xs : Nat → Int32}
theorem jw_cell {post : Int32 → Prop} (C : JC G X rm cc own nL) (Sc : JScr X b N xs) (ct : CIs G y bytes maxL (jrm f loc 0 0) As b N xs post) (wd : jWs y bytes maxL (some .int) np) (link : Cond.methodLink own idx y ∈ jAll)
    (hAs : As.length = np) (hst : st0 = As.reverse ++ rest) (hrest : (rest.map fun v => v.category).sum ≤ 8) (hrm : f + 1 ≤ rm.frames ∧ 8 + (maxL + 11) + loc ≤ rm.locals) (hk : k ≤ rm.cells ∧ n ≤ rm.slots) (d : decode cc pc = .ok (.invokestatic idx, 3)) (hL : L.length = nL)
    (kk : ∀ r : Int32, post r → JW G X k n w (pc + 3) L (.int r :: rest)) : JW G X k n w pc L st0 := by
  obtain ⟨p, l, e, R, s, m, args, below, meth, c, Q, A⟩ := X
  obtain ⟨hx, hb, hml, hown, hts, hnw, hK, hlk, hA, hR⟩ := C
  obtain ⟨hXs, hbl, hbA⟩ := Sc
  subst hR
  intro H locs ls hP hD hS hl
  obtain ⟨wd1, wd2, wd3, wd5⟩ := wd
  have hC : ([] : List Nat).map (fun i => w[i]?) = ([] : va_W).map some := rfl
  have hPc := hP.sub [] (j_part hC)
  have hDc := j_nd hD hC rfl
  have hFc := va_free hD hS hA [] hC
  refine va_calli (va_runS (As := As) (rest := rest) ⟨hx, hb, hml, hown, hts⟩ (ct.2.2 l H.size) (va_cwS np hts (jAll_in (fun z hz => ?_)) rfl rfl rfl wd5 hrm) ⟨jPreS_blind, fun U hU hW => ⟨rfl, ⟨by rw [hU], by rw [hU]; exact hPc, va_K.moved hW.alike hK, fun z hz => jNest_warm hz hW (hnw z hz), hDc⟩, by rw [hU]; exact (va_X.moved hW.alike hXs).kept (hS.2.1 b hbl hbA), Nat.lt_of_lt_of_le hbl hS.1⟩⟩ rfl hAs (hl.1.trans hL) hst (lv_room hrest) d hk) hS (fun q _ h => hFc q h) hFc (fun r u t H1 locs1 ht hvm hw hB hz1 hk1 hS1 => ?_)
  · rcases List.mem_append.mp hz with h | h
    · simp only [List.mem_cons, List.not_mem_nil, or_false] at h
      rcases h with rfl | rfl | rfl
      · exact link
      · exact wd1
      · exact wd2
    · exact jAll_code wd3 z h
  · obtain ⟨hP1, hK1, hD1⟩ := hB
    rw [ht] at hP1
    obtain ⟨hP2, hD2⟩ := va_join hP hD [] (List.range w.length) hC (j_rng w) (j_nd_rng _) (fun _ _ h => by cases h) hk1 hFc hP1 hD1
    rw [List.append_nil] at hP2 hD2
    exact kk r hw H1 locs1 ls hP2 hD2 hS1 hl
theorem jw_sSm_I {post : Int32 → S → Prop} {mc ms : Nat} (C : JC G X rm cc own nL) (ct : CI G y bytes maxL (jrm f loc mc ms) As w0 post w1 mc ms) (wd : jWs y bytes maxL (some .int) np) (link : Cond.methodLink own idx y ∈ jAll)
    (isC isR : List Nat) (hC : isC.map (fun i => w[i]?) = w0.map some) (hR : isR.map (fun i => w[i]?) = wr.map some) (hnC : va_nd isC = true) (hn : va_nd isR = true) (hdis : ∀ i ∈ isR, i ∉ isC)
    (hAs : As.length = np) (hst : st0 = As.reverse ++ rest) (hrest : (rest.map fun v => v.category).sum ≤ 8) (hrm : f + 1 ≤ rm.frames ∧ 8 + (maxL + 11) + loc ≤ rm.locals) (hk : k + mc ≤ rm.cells ∧ n + ms ≤ rm.slots) (d : decode cc pc = .ok (.invokestatic idx, 3)) (hL : L.length = nL)
    (kk : ∀ (r : Int32) (u : S), post r u → JW G X (k + mc) (n + ms) (wr ++ w1 u) (pc + 3) L (.int r :: rest)) : JW G X k n w pc L st0 := by
  obtain ⟨p, l, e, R, s, m, args, below, meth, c, Q, A⟩ := X
  obtain ⟨hx, hb, hml, hown, hts, hnw, hK, hlk, hA, hR⟩ := C
  subst hR
  intro H locs ls hP hD hS hl
  obtain ⟨wd1, wd2, wd3, wd5⟩ := wd
  have hPc := hP.sub isC (j_part hC)
  have hDc := j_nd hD hC hnC
  have hFc := va_free hD hS hA isC hC
  refine va_calli (va_runS (As := As) (rest := rest) ⟨hx, hb, hml, hown, hts⟩ (ct.2.2 l H.size) (va_cwS np hts (jAll_in (fun z hz => ?_)) rfl rfl rfl wd5 hrm) ⟨jPre_blind, fun U hU hW => ⟨rfl, by rw [hU], by rw [hU]; exact hPc, va_K.moved hW.alike hK, fun z hz => jNest_warm hz hW (hnw z hz), hDc⟩⟩ rfl hAs (hl.1.trans hL) hst (lv_room hrest) d hk) hS (fun q _ h => hFc q h) hFc (fun r u t H1 locs1 ht hvm hw hB hz1 hk1 hS1 => ?_)
  · rcases List.mem_append.mp hz with h | h
    · simp only [List.mem_cons, List.not_mem_nil, or_false] at h
      rcases h with rfl | rfl | rfl
      · exact link
      · exact wd1
      · exact wd2
    · exact jAll_code wd3 z h
  · obtain ⟨hP1, hK1, hD1⟩ := hB
    rw [ht] at hP1
    obtain ⟨hP2, hD2⟩ := va_join hP hD isC isR hC hR hn hdis hk1 hFc hP1 hD1
    exact kk r u hw H1 locs1 ls hP2 hD2 hS1 hl
end JCALL2
end
section
/-! THE LAW'S METHODS below, cell, isPath, bestPath -/
set_option maxRecDepth 100000 in
set_option maxHeartbeats 4000000 in
theorem c_L_below (G : jG) (v : Int32) (n : Nat) (hn : 0 < n) (hn2 : n < 2147483648) : CI G yL_below cL_below 2 (jrm 0 0 0 0) [.int v, .int (iI (n : Int))] [] (fun (z : Int32) (_ : Unit) => ∃ i : Nat, i < n ∧ z = iI (i : Int)) (fun _ : Unit => []) 0 0 := by
  refine ci_intro (own := RL) [some (.int v), some (.int (iI (n : Int)))] (by decide) rfl rfl rfl (Nat.le_of_ble_eq_true rfl) (fun X C hret => ?_)
  refine jw_iload_0 (pc := 0) C dL_below_0 ?_
  refine jw_ldc (pc := 1) C kcn_L_7 dL_below_1 ?_
  refine jw_iand (pc := 3) C dL_below_3 ?_
  obtain ⟨c, hc, e⟩ := and_pos v
  rw [e]
  refine jw_iload_1 (pc := 4) C dL_below_4 ?_
  refine jw_irem_n (b := n) (pc := 5) C hn hc hn2 dL_below_5 ?_
  exact hret _ _ _ () dL_below_6 ⟨c % n, Nat.mod_lt _ hn, rfl⟩
theorem c_L_cell (G : jG) (b N : Nat) (xs : Nat → Int32) (i : Nat) (hi : i < 100) (hN : N ≤ 260) : CIs G yL_cell cL_cell 2 (jrm 0 0 0 0) [.ref b, .int (iI (i : Int))] b N xs (fun _ => True) := by
  refine cis_intro (own := RL) [some (.ref b), some (.int (iI (i : Int)))] (by decide) rfl rfl rfl (Nat.le_of_ble_eq_true rfl) (fun X C Sc hret => ?_)
  refine jw_iload_1 (pc := 0) C dL_cell_0 ?_
  refine jw_aload_0 (pc := 1) C dL_cell_1 ?_
  refine jw_slen (pc := 2) C Sc dL_cell_2 ?_
  refine jw_icmp_ge (pc := 3) (tgt := 12) C dL_cell_3 (by decide) ⟨by omega, by omega⟩ ⟨by omega, by omega⟩ (fun c_3 => ?_) (fun c_3 => ?_)
  · refine jw_ldc (pc := 12) C kcn_L_8 dL_cell_12 ?_
    refine jw_iload_1 (pc := 14) C dL_cell_14 ?_
    refine jw_iconst (pc := 15) C dL_cell_15 ?_
    refine jw_iadd (pc := 16) C dL_cell_16 ?_
    refine jw_imul_r (pc := 17) C dL_cell_17 ?_
    exact hret 18 _ _ dL_cell_18 trivial
  · refine jw_aload_0 (pc := 6) C dL_cell_6 ?_
    refine jw_iload_1 (pc := 7) C dL_cell_7 ?_
    refine jw_sld (pc := 8) C Sc i rfl (by omega) (by omega) dL_cell_8 ?_
    refine jw_goto (pc := 9) (tgt := 18) C dL_cell_9 (by decide) ?_
    exact hret 18 _ _ dL_cell_18 trivial
theorem lef_le (row : Nat) : ∀ j, lef row j ≤ row
  | 0 => Nat.le_refl _
  | j + 1 => Nat.le_trans (Nat.div_le_self _ _) (lef_le row j)
theorem dgx {row L j : Nat} (h : j < L) : dg row L (L - 1 - j) = lef row j % 4 := by
  unfold dg
  rw [show L - 1 - (L - 1 - j) = j by omega]
theorem p4_le : ∀ K, K ≤ 4 → p4 K ≤ 256 := by decide
set_option maxRecDepth 100000 in
set_option maxHeartbeats 4000000 in
theorem c_L_isPath (G : jG) (qa qm qk qp : Nat) (P : QP) (f u : Nat → Int) (m : Int32) (L row : Nat) (hL : 1 ≤ L ∧ L ≤ 4) (hrow : row < 256) (hf : ∀ a, a < 4 → -1 ≤ f a ∧ f a < 16) (hmv : ∀ r, 0 ≤ P.mov r ∧ P.mov r ≤ 20) (hml : 0 ≤ P.ml ∧ P.ml ≤ 20) : CZ G yL_isPath cL_isPath 13 (jrm 0 0 0 0) [.int (iI (row : Int)), .int (iI (L : Int)), .int (iI 4), .int m, .ref qa, .ref qm, .int (iI P.ml), .ref qk, .ref qp] [jAI G qa 4 (jiI f), jAI G qm 16 (jiI P.mov), jAI G qk 16 P.acc, jAI G qp 4 (jiI u)] (fun (z : Bool) (u : Nat → Int) => (z = true ∧ okP P f m L (dg row L) ∧ ∀ k, k < L → u k = (dg row L k : Int)) ∨ (z = false ∧ ¬ okP P f m L (dg row L))) (fun u : Nat → Int => [jAI G qa 4 (jiI f), jAI G qm 16 (jiI P.mov), jAI G qk 16 P.acc, jAI G qp 4 (jiI u)]) 0 0 := by
  refine cz_intro (own := RL) [some (.int (iI (row : Int))), some (.int (iI (L : Int))), some (.int (iI 4)), some (.int m), some (.ref qa), some (.ref qm), some (.int (iI P.ml)), some (.ref qk), some (.ref qp), none, none, none, none] (by decide) rfl rfl rfl (Nat.le_of_ble_eq_true rfl) (fun X C hret => ?_)
  refine jw_iload_0 (pc := 0) C dL_isPath_0 ?_
  refine jw_istore_9 (pc := 1) C dL_isPath_1 rfl ?_
  refine jw_iconst (pc := 3) C dL_isPath_3 ?_
  refine jw_istore_10 (pc := 4) C dL_isPath_4 rfl ?_
  refine jw_iload_1 (pc := 6) C dL_isPath_6 ?_
  refine jw_iconst (pc := 7) C dL_isPath_7 ?_
  refine jw_isub (pc := 8) C dL_isPath_8 ?_
  refine jw_istore_11 (pc := 9) C dL_isPath_9 rfl ?_
  have K11 : ∀ (n_11 : Nat) (j : Nat) (us : Int32) (v : Nat → Int) (x : Int), (j ≤ L) → (x = (L : Int) - 1 - j) → (∀ k, L - j ≤ k → k < L → v k = (dg row L k : Int)) → (∀ b, b < 4 → (bt us b = true ↔ ∃ k, L - j ≤ k ∧ k < L ∧ dg row L k = b)) → (∀ i k, L - j ≤ i → i < L → L - j ≤ k → k < L → dg row L i = dg row L k → i = k) → 5 - j < n_11 → JW G X 0 0 [jAI G qa 4 (jiI f), jAI G qm 16 (jiI P.mov), jAI G qk 16 P.acc, jAI G qp 4 (jiI v)] 11 [some (.int (iI (row : Int))), some (.int (iI (L : Int))), some (.int (iI 4)), some (.int m), some (.ref qa), some (.ref qm), some (.int (iI P.ml)), some (.ref qk), some (.ref qp), some (.int (iI (lef row j : Int))), some (.int us), some (.int (iI x)), none] [] := by
    intro n_11
    induction n_11 with
    | zero => intro j us v x hj hx hv hus hd hm_11; exact absurd hm_11 (Nat.not_lt_zero _)
    | succ n_11 ih_11 =>
      intro j us v x hj hx hv hus hd hm_11
      refine jw_iload_11 (pc := 11) C dL_isPath_11 ?_
      refine jw_if_lt (pc := 13) (tgt := 65) C dL_isPath_13 (by decide) ⟨by omega, by omega⟩ (fun c_13 => ?_) (fun c_13 => ?_)
      · have hjL : j = L := by omega
        have hv9 : ∀ k, k < L → v k = (dg row L k : Int) := fun k hk => hv k (by omega) hk
        have hd9 : ∀ i k, i < L → k < L → dg row L i = dg row L k → i = k := fun i k hi hk => hd i k (by omega) hi (by omega) hk
        have hfe := hf (dg row L (L - 1)) (dg_lt _ _ _)
        refine jw_iload_3 (pc := 65) C dL_isPath_65 ?_
        refine jw_aload_8 (pc := 66) C dL_isPath_66 ?_
        refine jw_iconst (pc := 68) C dL_isPath_68 ?_
        refine jw_iald (pc := 69) C 3 rfl 0 rfl (by omega) (by decide) dL_isPath_69 ?_
        rw [hv9 0 (by omega)]
        refine jw_ishr (pc := 70) C dL_isPath_70 ?_
        refine jw_iconst (pc := 71) C dL_isPath_71 ?_
        refine jw_iand (pc := 72) C dL_isPath_72 ?_
        refine jw_if_eq_r (pc := 73) (tgt := 88) C dL_isPath_73 (by decide) (fun c_73 => ?_) (fun c_73 => ?_)
        · have hz : ¬ okP P f m L (dg row L) := fun g => by
            have h9 := (bitz (Nat.lt_of_lt_of_le (dg_lt row L 0) (by omega))).mp c_73
            rw [g.2.2.1] at h9
            cases h9
          refine jw_iconst (pc := 88) C dL_isPath_88 ?_
          exact hret _ _ false _ dL_isPath_89 (Or.inr ⟨rfl, hz⟩)
        · have hb0 : bt m (dg row L 0) = true := by
            cases q : bt m (dg row L 0)
            · exact absurd ((bitz (Nat.lt_of_lt_of_le (dg_lt row L 0) (by omega))).mpr q) c_73
            · rfl
          refine jw_aload_4 (pc := 76) C dL_isPath_76 ?_
          refine jw_aload_8 (pc := 78) C dL_isPath_78 ?_
          refine jw_iload_1 (pc := 80) C dL_isPath_80 ?_
          refine jw_iconst (pc := 81) C dL_isPath_81 ?_
          refine jw_isub (pc := 82) C dL_isPath_82 ?_
          refine jw_iald (pc := 83) C 3 rfl (L - 1) (by omega) (by omega) (by decide) dL_isPath_83 ?_
          refine jw_iald (pc := 84) C 0 rfl (dg row L (L - 1)) (hv9 (L - 1) (by omega)) (dg_lt _ _ _) (by decide) dL_isPath_84 ?_
          refine jw_if_lt (pc := 85) (tgt := 90) C dL_isPath_85 (by decide) ⟨by omega, by omega⟩ (fun c_85 => ?_) (fun c_85 => ?_)
          · refine jw_iconst (pc := 90) C dL_isPath_90 ?_
            refine jw_istore_11 (pc := 91) C dL_isPath_91 rfl ?_
            have K93 : ∀ (n_93 : Nat) (k : Nat), (1 ≤ k ∧ k ≤ L) → (∀ i, i + 1 < k → 0 ≤ f (dg row L i) ∧ P.mov (f (dg row L i)).toNat < P.ml ∧ bt (P.acc (f (dg row L i)).toNat) (dg row L (i + 1)) = true) → 5 - k < n_93 → JW G X 0 0 [jAI G qa 4 (jiI f), jAI G qm 16 (jiI P.mov), jAI G qk 16 P.acc, jAI G qp 4 (jiI v)] 93 [some (.int (iI (row : Int))), some (.int (iI (L : Int))), some (.int (iI 4)), some (.int m), some (.ref qa), some (.ref qm), some (.int (iI P.ml)), some (.ref qk), some (.ref qp), some (.int (iI (lef row j : Int))), some (.int us), some (.int (iI (k : Int))), none] [] := by
              intro n_93
              induction n_93 with
              | zero => intro k hk hall hm_93; exact absurd hm_93 (Nat.not_lt_zero _)
              | succ n_93 ih_93 =>
                intro k hk hall hm_93
                refine jw_iload_11 (pc := 93) C dL_isPath_93 ?_
                refine jw_iload_1 (pc := 95) C dL_isPath_95 ?_
                refine jw_icmp_ge (pc := 96) (tgt := 150) C dL_isPath_96 (by decide) ⟨by omega, by omega⟩ ⟨by omega, by omega⟩ (fun c_96 => ?_) (fun c_96 => ?_)
                · have hz : okP P f m L (dg row L) := ⟨fun i _ => dg_lt _ _ _, fun i k hi hk => hd9 i k hi hk, hb0, c_85, fun i hi => hall i (by omega)⟩
                  refine jw_iconst (pc := 150) C dL_isPath_150 ?_
                  exact hret _ _ true _ dL_isPath_151 (Or.inl ⟨rfl, hz, hv9⟩)
                · have hfk := hf (dg row L (k - 1)) (dg_lt _ _ _)
                  have hkk : k - 1 + 1 = k := by omega
                  refine jw_aload_4 (pc := 99) C dL_isPath_99 ?_
                  refine jw_aload_8 (pc := 101) C dL_isPath_101 ?_
                  refine jw_iload_11 (pc := 103) C dL_isPath_103 ?_
                  refine jw_iconst (pc := 105) C dL_isPath_105 ?_
                  refine jw_isub (pc := 106) C dL_isPath_106 ?_
                  refine jw_iald (pc := 107) C 3 rfl (k - 1) (by omega) (by omega) (by decide) dL_isPath_107 ?_
                  refine jw_iald (pc := 108) C 0 rfl (dg row L (k - 1)) (hv9 (k - 1) (by omega)) (dg_lt _ _ _) (by decide) dL_isPath_108 ?_
                  refine jw_istore_12 (pc := 109) C dL_isPath_109 rfl ?_
                  refine jw_iload_12 (pc := 111) C dL_isPath_111 ?_
                  refine jw_if_lt (pc := 113) (tgt := 142) C dL_isPath_113 (by decide) ⟨by omega, by omega⟩ (fun c_113 => ?_) (fun c_113 => ?_)
                  · have hz : ¬ okP P f m L (dg row L) := fun g => by
                      have := (g.2.2.2.2 (k - 1) (by omega)).1
                      omega
                    refine jw_iconst (pc := 142) C dL_isPath_142 ?_
                    exact hret _ _ false _ dL_isPath_143 (Or.inr ⟨rfl, hz⟩)
                  · have hmk := hmv (f (dg row L (k - 1))).toNat
                    refine jw_aload_5 (pc := 116) C dL_isPath_116 ?_
                    refine jw_iload_12 (pc := 118) C dL_isPath_118 ?_
                    refine jw_iald (pc := 120) C 1 rfl (f (dg row L (k - 1))).toNat (by omega) (by omega) (by decide) dL_isPath_120 ?_
                    refine jw_iload_6 (pc := 121) C dL_isPath_121 ?_
                    refine jw_icmp_ge (pc := 123) (tgt := 142) C dL_isPath_123 (by decide) ⟨by omega, by omega⟩ ⟨by omega, by omega⟩ (fun c_123 => ?_) (fun c_123 => ?_)
                    · have hz : ¬ okP P f m L (dg row L) := fun g => by
                        have := (g.2.2.2.2 (k - 1) (by omega)).2.1
                        omega
                      refine jw_iconst (pc := 142) C dL_isPath_142 ?_
                      exact hret _ _ false _ dL_isPath_143 (Or.inr ⟨rfl, hz⟩)
                    · refine jw_aload_7 (pc := 126) C dL_isPath_126 ?_
                      refine jw_iload_12 (pc := 128) C dL_isPath_128 ?_
                      refine jw_iald_r (pc := 130) C 2 rfl (f (dg row L (k - 1))).toNat (by omega) (by omega) (by decide) dL_isPath_130 ?_
                      refine jw_aload_8 (pc := 131) C dL_isPath_131 ?_
                      refine jw_iload_11 (pc := 133) C dL_isPath_133 ?_
                      refine jw_iald (pc := 135) C 3 rfl k rfl (by omega) (by decide) dL_isPath_135 ?_
                      rw [hv9 k (by omega)]
                      refine jw_ishr (pc := 136) C dL_isPath_136 ?_
                      refine jw_iconst (pc := 137) C dL_isPath_137 ?_
                      refine jw_iand (pc := 138) C dL_isPath_138 ?_
                      refine jw_if_ne_r (pc := 139) (tgt := 144) C dL_isPath_139 (by decide) (fun c_139 => ?_) (fun c_139 => ?_)
                      · have hall2 : ∀ i, i + 1 < k + 1 → 0 ≤ f (dg row L i) ∧ P.mov (f (dg row L i)).toNat < P.ml ∧ bt (P.acc (f (dg row L i)).toNat) (dg row L (i + 1)) = true := fun i hi => by
                          by_cases e : i + 1 = k
                          · have ei : i = k - 1 := by omega
                            refine ⟨by rw [ei]; omega, by rw [ei]; omega, ?_⟩
                            rw [ei, hkk]
                            cases q : bt (P.acc (f (dg row L (k - 1))).toNat) (dg row L k)
                            · exact absurd ((bitz (Nat.lt_of_lt_of_le (dg_lt row L k) (by omega))).mpr q) c_139
                            · rfl
                          · exact hall i (by omega)
                        refine jw_iinc_11 (pc := 144) C dL_isPath_144 rfl ?_
                        refine jw_goto (pc := 147) (tgt := 93) C dL_isPath_147 (by decide) ?_
                        exact jw_less (ih_93 (k + 1) (by omega) hall2 (by omega)) (by repeat (first | exact trivial | refine And.intro rfl ?_))
                      · have hz : ¬ okP P f m L (dg row L) := fun g => by
                          have h9 := (g.2.2.2.2 (k - 1) (by omega)).2.2
                          rw [hkk, (bitz (Nat.lt_of_lt_of_le (dg_lt row L k) (by omega))).mp c_139] at h9
                          cases h9
                        refine jw_iconst (pc := 142) C dL_isPath_142 ?_
                        exact hret _ _ false _ dL_isPath_143 (Or.inr ⟨rfl, hz⟩)
            exact K93 6 1 (by omega) (fun i hi => absurd hi (by omega)) (by omega)
          · have hz : ¬ okP P f m L (dg row L) := fun g => c_85 g.2.2.2.1
            refine jw_iconst (pc := 88) C dL_isPath_88 ?_
            exact hret _ _ false _ dL_isPath_89 (Or.inr ⟨rfl, hz⟩)
      · have hjL : j < L := by omega
        have hdx := dgx (row := row) hjL
        have hlt : lef row j % 4 < 4 := Nat.mod_lt _ (by omega)
        refine jw_aload_8 (pc := 16) C dL_isPath_16 ?_
        refine jw_iload_11 (pc := 18) C dL_isPath_18 ?_
        refine jw_iload_9 (pc := 20) C dL_isPath_20 ?_
        refine jw_iload_2 (pc := 22) C dL_isPath_22 ?_
        refine jw_irem_n (b := 4) (pc := 23) C (by decide) (Nat.lt_of_le_of_lt (lef_le row j) (by omega)) (by decide) dL_isPath_23 ?_
        refine jw_iast (pc := 24) C 3 rfl (L - 1 - j) (by omega) (by omega) (by decide) dL_isPath_24 ?_
        refine jw_iload_9 (pc := 25) C dL_isPath_25 ?_
        refine jw_iload_2 (pc := 27) C dL_isPath_27 ?_
        refine jw_idiv_n (b := 4) (pc := 28) C (by decide) (Nat.lt_of_le_of_lt (lef_le row j) (by omega)) (by decide) dL_isPath_28 ?_
        refine jw_istore_9 (pc := 29) C dL_isPath_29 rfl ?_
        refine jw_iload_10 (pc := 31) C dL_isPath_31 ?_
        refine jw_aload_8 (pc := 33) C dL_isPath_33 ?_
        refine jw_iload_11 (pc := 35) C dL_isPath_35 ?_
        refine jw_iald (pc := 37) C 3 rfl (L - 1 - j) (by omega) (by omega) (by decide) dL_isPath_37 ?_
        rw [updf_same]
        refine jw_ishr (pc := 38) C dL_isPath_38 ?_
        refine jw_iconst (pc := 39) C dL_isPath_39 ?_
        refine jw_iand (pc := 40) C dL_isPath_40 ?_
        refine jw_iconst (pc := 41) C dL_isPath_41 ?_
        refine jw_icmp_ne_r (pc := 42) (tgt := 47) C dL_isPath_42 (by decide) (fun c_42 => ?_) (fun c_42 => ?_)
        · have hb : bt us (lef row j % 4) = false := by
            cases q : bt us (lef row j % 4)
            · rfl
            · exact absurd ((bit1z (by omega)).mpr q) c_42
          have hv2 : ∀ k, L - (j + 1) ≤ k → k < L → updf v (L - 1 - j) ((lef row j % 4 : Nat) : Int) k = (dg row L k : Int) := fun k h1 h2 => by
            by_cases e : k = L - 1 - j
            · rw [e, updf_same, hdx]
            · rw [updf_ne _ _ e]; exact hv k (by omega) h2
          have hus2 : ∀ b, b < 4 → (bt (us ||| iI 1 <<< (iI ((lef row j % 4 : Nat) : Int) &&& 31)) b = true ↔ ∃ k, L - (j + 1) ≤ k ∧ k < L ∧ dg row L k = b) := fun b hb4 => by
            rw [b_or, b_pow (by omega) (by omega), Bool.or_eq_true, decide_eq_true_iff, hus b hb4]
            constructor
            · rintro (⟨k, k1, k2, k3⟩ | e)
              · exact ⟨k, by omega, k2, k3⟩
              · exact ⟨L - 1 - j, by omega, by omega, by rw [hdx, e]⟩
            · rintro ⟨k, k1, k2, k3⟩
              by_cases e : k = L - 1 - j
              · right; rw [← k3, e, hdx]
              · left; exact ⟨k, by omega, k2, k3⟩
          have hd2 : ∀ i k, L - (j + 1) ≤ i → i < L → L - (j + 1) ≤ k → k < L → dg row L i = dg row L k → i = k := fun i k i1 i2 k1 k2 e => by
            have hno : ∀ x, L - j ≤ x → x < L → dg row L x ≠ lef row j % 4 := fun x x1 x2 ex => by
              rw [(hus _ hlt).mpr ⟨x, x1, x2, ex⟩] at hb
              cases hb
            by_cases ei : i = L - 1 - j
            · by_cases ek : k = L - 1 - j
              · omega
              · rw [ei, hdx] at e
                exact absurd e.symm (hno k (by omega) k2)
            · by_cases ek : k = L - 1 - j
              · rw [ek, hdx] at e
                exact absurd e (hno i (by omega) i2)
              · exact hd i k (by omega) i2 (by omega) k2 e
          refine jw_iload_10 (pc := 47) C dL_isPath_47 ?_
          refine jw_iconst (pc := 49) C dL_isPath_49 ?_
          refine jw_aload_8 (pc := 50) C dL_isPath_50 ?_
          refine jw_iload_11 (pc := 52) C dL_isPath_52 ?_
          refine jw_iald (pc := 54) C 3 rfl (L - 1 - j) (by omega) (by omega) (by decide) dL_isPath_54 ?_
          rw [updf_same]
          refine jw_ishl (pc := 55) C dL_isPath_55 ?_
          refine jw_ior (pc := 56) C dL_isPath_56 ?_
          refine jw_istore_10 (pc := 57) C dL_isPath_57 rfl ?_
          refine jw_iinc_11 (pc := 59) C dL_isPath_59 rfl ?_
          refine jw_goto (pc := 62) (tgt := 11) C dL_isPath_62 (by decide) ?_
          exact ih_11 (j + 1) _ _ _ (by omega) (by omega) hv2 hus2 hd2 (by omega)
        · have hz : ¬ okP P f m L (dg row L) := fun g => by
            obtain ⟨k, k1, k2, k3⟩ := (hus _ hlt).mp ((bit1z (by omega)).mp c_42)
            have := g.2.1 k (L - 1 - j) k2 (by omega) (by rw [k3, hdx])
            omega
          refine jw_iconst (pc := 45) C dL_isPath_45 ?_
          exact hret _ _ false _ dL_isPath_46 (Or.inr ⟨rfl, hz⟩)
  exact K11 6 0 (iI 0) u _ (by omega) (by omega) (fun k h1 h2 => absurd h1 (by omega)) (fun b hb => by rw [show iI 0 = (0 : Int32) from rfl, b_0]; exact ⟨fun q => (by cases q), fun ⟨k, h1, h2, _⟩ => absurd h1 (by omega)⟩) (fun i k h1 h2 => absurd h1 (by omega)) (by omega)
set_option maxRecDepth 100000 in
set_option maxHeartbeats 4000000 in
theorem c_L_bestPath (G : jG) (qa qm qk qp : Nat) (P : QP) (f u : Nat → Int) (m : Int32) (hI : PI P) (hA : AtR P f) (hC : LC P) (r : Nat) (hr : (r : Int) < P.req) (hw : P.plc r = -1) (hm : P.acc r = m) : CI G yL_bestPath cL_bestPath 10 (jrm 1 32 0 0) [.int (iI 4), .int m, .ref qa, .ref qm, .int (iI P.ml), .ref qk, .ref qp] [jAI G qa 4 (jiI f), jAI G qm 16 (jiI P.mov), jAI G qk 16 P.acc, jAI G qp 4 (jiI u)] (fun (z : Int32) (u : Nat → Int) => BP P f m z u) (fun u : Nat → Int => [jAI G qa 4 (jiI f), jAI G qm 16 (jiI P.mov), jAI G qk 16 P.acc, jAI G qp 4 (jiI u)]) 0 0 := by
  refine ci_intro (own := RL) [some (.int (iI 4)), some (.int m), some (.ref qa), some (.ref qm), some (.int (iI P.ml)), some (.ref qk), some (.ref qp), none, none, none] (by decide) rfl rfl rfl (Nat.le_of_ble_eq_true rfl) (fun X C hret => ?_)
  have h1 := hI.ml
  have h2 := hC.2.2.2.1
  have hf : ∀ a, a < 4 → -1 ≤ f a ∧ f a < 16 := fun a ha => by
    rcases hA.1 a ha with e | ⟨x, x1, x2, x3⟩ <;> omega
  refine jw_iconst (pc := 0) C dL_bestPath_0 ?_
  refine jw_istore_7 (pc := 1) C dL_bestPath_1 rfl ?_
  refine jw_iconst (pc := 3) C dL_bestPath_3 ?_
  refine jw_istore_8 (pc := 4) C dL_bestPath_4 rfl ?_
  have K6 : ∀ (n_6 : Nat) (K : Nat) (v : Nat → Int) (y : Int), (1 ≤ K ∧ K ≤ 5) → (y = (p4 (K - 1) : Int)) → (∀ J, 1 ≤ J → J < K → ∀ x, x < p4 J → ¬ okP P f m J (dg x J)) → 6 - K < n_6 → JW G X 0 0 [jAI G qa 4 (jiI f), jAI G qm 16 (jiI P.mov), jAI G qk 16 P.acc, jAI G qp 4 (jiI v)] 6 [some (.int (iI 4)), some (.int m), some (.ref qa), some (.ref qm), some (.int (iI P.ml)), some (.ref qk), some (.ref qp), some (.int (iI y)), some (.int (iI (K : Int))), none] [] := by
    intro n_6
    induction n_6 with
    | zero => intro K v y hK hy hno hm_6; exact absurd hm_6 (Nat.not_lt_zero _)
    | succ n_6 ih_6 =>
      intro K v y hK hy hno hm_6
      refine jw_iload_8 (pc := 6) C dL_bestPath_6 ?_
      refine jw_iload_0 (pc := 8) C dL_bestPath_8 ?_
      refine jw_icmp_gt (pc := 9) (tgt := 63) C dL_bestPath_9 (by decide) ⟨by omega, by omega⟩ ⟨by omega, by omega⟩ (fun c_9 => ?_) (fun c_9 => ?_)
      · refine jw_iconst (pc := 63) C dL_bestPath_63 ?_
        exact hret _ _ _ v dL_bestPath_64 (Or.inl ⟨rfl, best_none hI hA hC hr hw hm (fun J j1 j2 => hno J j1 (by omega))⟩)
      · have hp4 := p4_le K (by omega)
        have hyK : y * 4 = (p4 K : Int) := by
          obtain ⟨J, rfl⟩ : ∃ J, K = J + 1 := ⟨K - 1, by omega⟩
          rw [hy]
          show (p4 J : Int) * 4 = ((p4 J * 4 : Nat) : Int)
          omega
        refine jw_iload_7 (pc := 12) C dL_bestPath_12 ?_
        refine jw_iload_0 (pc := 14) C dL_bestPath_14 ?_
        refine jw_imul (pc := 15) C dL_bestPath_15 ?_
        refine jw_istore_7 (pc := 16) C dL_bestPath_16 rfl ?_
        refine jw_iconst (pc := 18) C dL_bestPath_18 ?_
        refine jw_istore_9 (pc := 19) C dL_bestPath_19 rfl ?_
        have K21 : ∀ (n_21 : Nat) (x : Nat) (v2 : Nat → Int), (x ≤ p4 K) → (∀ x2, x2 < x → ¬ okP P f m K (dg x2 K)) → 257 - x < n_21 → JW G X 0 0 [jAI G qa 4 (jiI f), jAI G qm 16 (jiI P.mov), jAI G qk 16 P.acc, jAI G qp 4 (jiI v2)] 21 [some (.int (iI 4)), some (.int m), some (.ref qa), some (.ref qm), some (.int (iI P.ml)), some (.ref qk), some (.ref qp), some (.int (iI (y * 4))), some (.int (iI (K : Int))), some (.int (iI (x : Int)))] [] := by
          intro n_21
          induction n_21 with
          | zero => intro x v2 hx hnx hm_21; exact absurd hm_21 (Nat.not_lt_zero _)
          | succ n_21 ih_21 =>
            intro x v2 hx hnx hm_21
            refine jw_iload_9 (pc := 21) C dL_bestPath_21 ?_
            refine jw_iload_7 (pc := 23) C dL_bestPath_23 ?_
            refine jw_icmp_ge (pc := 25) (tgt := 57) C dL_bestPath_25 (by decide) ⟨by omega, by omega⟩ ⟨by omega, by omega⟩ (fun c_25 => ?_) (fun c_25 => ?_)
            · have hno2 : ∀ J, 1 ≤ J → J < K + 1 → ∀ x, x < p4 J → ¬ okP P f m J (dg x J) := fun J j1 j2 x9 h9 => by
                by_cases e : J = K
                · rw [e] at h9 ⊢; exact hnx x9 (by omega)
                · exact hno J j1 (by omega) x9 h9
              refine jw_iinc_8 (pc := 57) C dL_bestPath_57 rfl ?_
              refine jw_goto (pc := 60) (tgt := 6) C dL_bestPath_60 (by decide) ?_
              exact jw_less (ih_6 (K + 1) _ (y * 4) (by omega) hyK hno2 (by omega)) (by repeat (first | exact trivial | refine And.intro rfl ?_))
            · refine jw_iload_9 (pc := 28) C dL_bestPath_28 ?_
              refine jw_iload_8 (pc := 30) C dL_bestPath_30 ?_
              refine jw_iload_0 (pc := 32) C dL_bestPath_32 ?_
              refine jw_iload_1 (pc := 33) C dL_bestPath_33 ?_
              refine jw_aload_2 (pc := 34) C dL_bestPath_34 ?_
              refine jw_aload_3 (pc := 35) C dL_bestPath_35 ?_
              refine jw_iload_4 (pc := 36) C dL_bestPath_36 ?_
              refine jw_aload_5 (pc := 38) C dL_bestPath_38 ?_
              refine jw_aload_6 (pc := 40) C dL_bestPath_40 ?_
              refine jw_sS_Z (pc := 42) (wr := []) C (c_L_isPath G qa qm qk qp P f v2 m K x (by omega) (by omega) hf hI.mov h1) ws_L_isPath kml_L_9 [0, 1, 2, 3] [] rfl rfl rfl rfl (by decide) rfl rfl (Nat.le_of_ble_eq_true rfl) ⟨by decide, by decide⟩ ⟨Nat.zero_le _, Nat.zero_le _⟩ dL_bestPath_42 rfl (fun z u3 h => ?_)
              refine jw_if_eq_b (pc := 45) (tgt := 51) C dL_bestPath_45 (by decide) (fun c_45 => ?_) (fun c_45 => ?_)
              · have hnx2 : ∀ x2, x2 < x + 1 → ¬ okP P f m K (dg x2 K) := fun x2 h2 => by
                  by_cases e : x2 = x
                  · rw [e]; rcases h with ⟨h, _⟩ | ⟨_, h⟩
                    · rw [c_45] at h; cases h
                    · exact h
                  · exact hnx x2 (by omega)
                refine jw_iinc_9 (pc := 51) C dL_bestPath_51 rfl ?_
                refine jw_goto (pc := 54) (tgt := 21) C dL_bestPath_54 (by decide) ?_
                exact ih_21 (x + 1) _ (by omega) hnx2 (by omega)
              · have hz : BP P f m (iI (K : Int)) u3 := by
                  rcases h with ⟨_, h, hu⟩ | ⟨h, _⟩
                  · obtain ⟨b1, b2⟩ := best_some hI hA hC hr hw hm hK.1 (by omega) (by omega) h hnx (fun J j1 j2 => hno J j1 j2)
                    exact Or.inr ⟨K, dg x K, hK.1, by omega, rfl, b1, h, b2, hu⟩
                  · rw [c_45] at h; cases h
                refine jw_iload_8 (pc := 48) C dL_bestPath_48 ?_
                exact hret _ _ _ u3 dL_bestPath_50 hz
        exact K21 258 0 v (by omega) (fun x2 h => absurd h (by omega)) (by omega)
  exact K6 6 1 u 1 (by omega) (by rfl) (fun J j1 j2 => absurd j1 (by omega)) (by omega)
end
section
/-! THE LAW'S METHODS place, isSame -/
set_option maxRecDepth 100000 in
set_option maxHeartbeats 4000000 in
theorem c_L_place (G : jG) (qa qw qm qp qg : Nat) (P : QP) (f u lg : Nat → Int) (p : Nat → Nat) (r L n0 : Nat) (hL : 1 ≤ L ∧ L ≤ 4) (hr : r < 16) (hn : n0 ≤ 190) (hu : ∀ k, k < L → u k = (p k : Int)) (hp4 : ∀ k, k < L → p k < 4) (hft : ∀ k, k + 1 < L → 0 ≤ f (p k) ∧ f (p k) < 16) : CI G yL_place cL_place 11 (jrm 0 0 1 4) [.int (iI (r : Int)), .int (iI (L : Int)), .ref qp, .ref qa, .ref qw, .ref qm, .ref qg, .int (iI (n0 : Int))] [jAI G qa 4 (jiI f), jAI G qw 16 (jiI P.plc), jAI G qm 16 (jiI P.mov), jAI G qp 4 (jiI u), jAI G qg 200 (jiI lg)] (fun (z : Int32) (_ : Unit) => z = iI ((n0 + 2 * (L - 1) : Nat) : Int)) (fun _ : Unit => [jAI G qa 4 (jiI (updf (lpA f p (L - 1)) (p 0) (r : Int))), jAI G qw 16 (jiI (updf (lpW P.plc f p (L - 1)) r (p 0 : Int))), jAI G qm 16 (jiI (lpM P.mov f p (L - 1))), jAI G qp 4 (jiI u), jAI G qg 200 (jiI (lpG lg f p n0 (L - 1)))]) 1 4 := by
  refine ci_intro (own := RL) [some (.int (iI (r : Int))), some (.int (iI (L : Int))), some (.ref qp), some (.ref qa), some (.ref qw), some (.ref qm), some (.ref qg), some (.int (iI (n0 : Int))), none, none, none] (by decide) rfl rfl rfl (Nat.le_of_ble_eq_true rfl) (fun X C hret => ?_)
  refine jw_iload_7 (pc := 0) C dL_place_0 ?_
  refine jw_istore_8 (pc := 2) C dL_place_2 rfl ?_
  refine jw_iload_1 (pc := 4) C dL_place_4 ?_
  refine jw_newaI (pc := 5) C L (by omega) ⟨Nat.le_of_ble_eq_true rfl, (by show 0 + L ≤ 4; omega)⟩ dL_place_5 (fun q9 => ?_)
  refine jw_eqw ([jAI G qa 4 (jiI f), jAI G qw 16 (jiI P.plc), jAI G qm 16 (jiI P.mov), jAI G qp 4 (jiI u), jAI G qg 200 (jiI lg), jAI G q9 L (jiI (fun _ => 0))]) rfl ?_
  refine jw_astore_9 (pc := 7) C dL_place_7 rfl ?_
  refine jw_iconst (pc := 9) C dL_place_9 ?_
  refine jw_istore_10 (pc := 10) C dL_place_10 rfl ?_
  have K12 : ∀ (n_12 : Nat) (k : Nat) (t : Nat → Int), (1 ≤ k ∧ k ≤ L) → (∀ i, 1 ≤ i → i < k → t i = f (p (i - 1))) → 5 - k < n_12 → JW G X (0 + 1) (0 + L) ([jAI G qa 4 (jiI f), jAI G qw 16 (jiI P.plc), jAI G qm 16 (jiI P.mov), jAI G qp 4 (jiI u), jAI G qg 200 (jiI lg), jAI G q9 L (jiI t)]) 12 [some (.int (iI (r : Int))), some (.int (iI (L : Int))), some (.ref qp), some (.ref qa), some (.ref qw), some (.ref qm), some (.ref qg), some (.int (iI (n0 : Int))), some (.int (iI (n0 : Int))), some (.ref q9), some (.int (iI (k : Int)))] [] := by
    intro n_12
    induction n_12 with
    | zero => intro k t hk ht hm_12; exact absurd hm_12 (Nat.not_lt_zero _)
    | succ n_12 ih_12 =>
      intro k t hk ht hm_12
      refine jw_iload_10 (pc := 12) C dL_place_12 ?_
      refine jw_iload_1 (pc := 14) C dL_place_14 ?_
      refine jw_icmp_ge (pc := 15) (tgt := 37) C dL_place_15 (by decide) ⟨by omega, by omega⟩ ⟨by omega, by omega⟩ (fun c_15 => ?_) (fun c_15 => ?_)
      · have hkL : k = L := by omega
        refine jw_iconst (pc := 37) C dL_place_37 ?_
        refine jw_istore_10 (pc := 38) C dL_place_38 rfl ?_
        have K40 : ∀ (n_40 : Nat) (i : Nat) (x y : Int), (i + 1 ≤ L) → (x = (i : Int) + 1) → (y = ((n0 + 2 * i : Nat) : Int)) → 5 - i < n_40 → JW G X (0 + 1) (0 + L) ([jAI G qa 4 (jiI (lpA f p i)), jAI G qw 16 (jiI (lpW P.plc f p i)), jAI G qm 16 (jiI (lpM P.mov f p i)), jAI G qp 4 (jiI u), jAI G qg 200 (jiI (lpG lg f p n0 i)), jAI G q9 L (jiI t)]) 40 [some (.int (iI (r : Int))), some (.int (iI (L : Int))), some (.ref qp), some (.ref qa), some (.ref qw), some (.ref qm), some (.ref qg), some (.int (iI (n0 : Int))), some (.int (iI y)), some (.ref q9), some (.int (iI x))] [] := by
          intro n_40
          induction n_40 with
          | zero => intro i x y hi hx hy hm_40; exact absurd hm_40 (Nat.not_lt_zero _)
          | succ n_40 ih_40 =>
            intro i x y hi hx hy hm_40
            refine jw_iload_10 (pc := 40) C dL_place_40 ?_
            refine jw_iload_1 (pc := 42) C dL_place_42 ?_
            refine jw_icmp_ge (pc := 43) (tgt := 111) C dL_place_43 (by decide) ⟨by omega, by omega⟩ ⟨by omega, by omega⟩ (fun c_43 => ?_) (fun c_43 => ?_)
            · have hiL : i = L - 1 := by omega
              refine jw_aload_3 (pc := 111) C dL_place_111 ?_
              refine jw_aload_2 (pc := 112) C dL_place_112 ?_
              refine jw_iconst (pc := 113) C dL_place_113 ?_
              refine jw_iald (pc := 114) C 3 rfl 0 rfl (by omega) (by decide) dL_place_114 ?_
              rw [hu 0 (by omega)]
              refine jw_iload_0 (pc := 115) C dL_place_115 ?_
              refine jw_iast (pc := 116) C 0 rfl (p 0) rfl (hp4 0 (by omega)) (by decide) dL_place_116 ?_
              refine jw_aload_4 (pc := 117) C dL_place_117 ?_
              refine jw_iload_0 (pc := 119) C dL_place_119 ?_
              refine jw_aload_2 (pc := 120) C dL_place_120 ?_
              refine jw_iconst (pc := 121) C dL_place_121 ?_
              refine jw_iald (pc := 122) C 3 rfl 0 rfl (by omega) (by decide) dL_place_122 ?_
              rw [hu 0 (by omega)]
              refine jw_iast (pc := 123) C 1 rfl r rfl (by omega) (by decide) dL_place_123 ?_
              refine jw_iload_8 (pc := 124) C dL_place_124 ?_
              subst hiL
              refine jw_widen (k2 := 1) (n2 := 4) (by omega) (by omega) (jw_sub (w2 := [jAI G qa 4 (jiI (updf (lpA f p (L - 1)) (p 0) (r : Int))), jAI G qw 16 (jiI (updf (lpW P.plc f p (L - 1)) r (p 0 : Int))), jAI G qm 16 (jiI (lpM P.mov f p (L - 1))), jAI G qp 4 (jiI u), jAI G qg 200 (jiI (lpG lg f p n0 (L - 1)))]) [0, 1, 2, 3, 4] rfl rfl ?_)
              exact hret _ _ _ () dL_place_126 (by rw [hy])
            · have ht1 := ht (i + 1) (by omega) (by omega)
              have hu1 := hu (i + 1) (by omega)
              have hp1 := hp4 (i + 1) (by omega)
              have hf1 := hft i (by omega)
              have hii : i + 1 - 1 = i := by omega
              rw [hii] at ht1
              refine jw_aload_3 (pc := 46) C dL_place_46 ?_
              refine jw_aload_2 (pc := 47) C dL_place_47 ?_
              refine jw_iload_10 (pc := 48) C dL_place_48 ?_
              refine jw_iald (pc := 50) C 3 rfl (i + 1) (by omega) (by omega) (by decide) dL_place_50 ?_
              refine jw_aload_9 (pc := 51) C dL_place_51 ?_
              refine jw_iload_10 (pc := 53) C dL_place_53 ?_
              refine jw_iald (pc := 55) C 5 rfl (i + 1) (by omega) (by omega) (by omega) dL_place_55 ?_
              rw [ht1]
              refine jw_iast (pc := 56) C 0 rfl (p (i + 1)) hu1 hp1 (by decide) dL_place_56 ?_
              refine jw_aload_4 (pc := 57) C dL_place_57 ?_
              refine jw_aload_9 (pc := 59) C dL_place_59 ?_
              refine jw_iload_10 (pc := 61) C dL_place_61 ?_
              refine jw_iald (pc := 63) C 5 rfl (i + 1) (by omega) (by omega) (by omega) dL_place_63 ?_
              rw [ht1]
              refine jw_aload_2 (pc := 64) C dL_place_64 ?_
              refine jw_iload_10 (pc := 65) C dL_place_65 ?_
              refine jw_iald (pc := 67) C 3 rfl (i + 1) (by omega) (by omega) (by decide) dL_place_67 ?_
              rw [hu1]
              refine jw_iast (pc := 68) C 1 rfl (f (p i)).toNat (by omega) (by omega) (by decide) dL_place_68 ?_
              refine jw_aload_5 (pc := 69) C dL_place_69 ?_
              refine jw_aload_9 (pc := 71) C dL_place_71 ?_
              refine jw_iload_10 (pc := 73) C dL_place_73 ?_
              refine jw_iald (pc := 75) C 5 rfl (i + 1) (by omega) (by omega) (by omega) dL_place_75 ?_
              rw [ht1]
              refine jw_dup2 (pc := 76) C dL_place_76 rfl rfl ?_
              refine jw_iald (pc := 77) C 2 rfl (f (p i)).toNat (by omega) (by omega) (by decide) dL_place_77 ?_
              refine jw_iconst (pc := 78) C dL_place_78 ?_
              refine jw_iadd (pc := 79) C dL_place_79 ?_
              refine jw_iast (pc := 80) C 2 rfl (f (p i)).toNat (by omega) (by omega) (by decide) dL_place_80 ?_
              refine jw_aload_6 (pc := 81) C dL_place_81 ?_
              refine jw_iload_8 (pc := 83) C dL_place_83 ?_
              refine jw_aload_9 (pc := 85) C dL_place_85 ?_
              refine jw_iload_10 (pc := 87) C dL_place_87 ?_
              refine jw_iald (pc := 89) C 5 rfl (i + 1) (by omega) (by omega) (by omega) dL_place_89 ?_
              rw [ht1]
              refine jw_iast (pc := 90) C 4 rfl (n0 + 2 * i) (by omega) (by omega) (by decide) dL_place_90 ?_
              refine jw_aload_6 (pc := 91) C dL_place_91 ?_
              refine jw_iload_8 (pc := 93) C dL_place_93 ?_
              refine jw_iconst (pc := 95) C dL_place_95 ?_
              refine jw_iadd (pc := 96) C dL_place_96 ?_
              refine jw_aload_2 (pc := 97) C dL_place_97 ?_
              refine jw_iload_10 (pc := 98) C dL_place_98 ?_
              refine jw_iald (pc := 100) C 3 rfl (i + 1) (by omega) (by omega) (by decide) dL_place_100 ?_
              rw [hu1]
              refine jw_iast (pc := 101) C 4 rfl (n0 + 2 * i + 1) (by omega) (by omega) (by decide) dL_place_101 ?_
              refine jw_iinc_8 (pc := 102) C dL_place_102 rfl ?_
              refine jw_iinc_10 (pc := 105) C dL_place_105 rfl ?_
              refine jw_goto (pc := 108) (tgt := 40) C dL_place_108 (by decide) ?_
              exact ih_40 (i + 1) _ _ (by omega) (by omega) (by omega) (by omega)
        exact K40 6 0 1 _ (by omega) (by omega) (by omega) (by omega)
      · have ht2 : ∀ i, 1 ≤ i → i < k + 1 → updf t k (f (p (k - 1))) i = f (p (i - 1)) := fun i i1 i2 => by
          by_cases e : i = k
          · rw [e, updf_same]
          · rw [updf_ne _ _ e]; exact ht i i1 (by omega)
        refine jw_aload_9 (pc := 18) C dL_place_18 ?_
        refine jw_iload_10 (pc := 20) C dL_place_20 ?_
        refine jw_aload_3 (pc := 22) C dL_place_22 ?_
        refine jw_aload_2 (pc := 23) C dL_place_23 ?_
        refine jw_iload_10 (pc := 24) C dL_place_24 ?_
        refine jw_iconst (pc := 26) C dL_place_26 ?_
        refine jw_isub (pc := 27) C dL_place_27 ?_
        refine jw_iald (pc := 28) C 3 rfl (k - 1) (by omega) (by omega) (by decide) dL_place_28 ?_
        refine jw_iald (pc := 29) C 0 rfl (p (k - 1)) (hu (k - 1) (by omega)) (hp4 (k - 1) (by omega)) (by decide) dL_place_29 ?_
        refine jw_iast (pc := 30) C 5 rfl k rfl (by omega) (by omega) dL_place_30 ?_
        refine jw_iinc_10 (pc := 31) C dL_place_31 rfl ?_
        refine jw_goto (pc := 34) (tgt := 12) C dL_place_34 (by decide) ?_
        exact ih_12 (k + 1) _ (by omega) ht2 (by omega)
  exact K12 6 1 _ (by omega) (fun i h1 h2 => absurd h1 (by omega)) (by omega)
set_option maxRecDepth 100000 in
set_option maxHeartbeats 4000000 in
theorem c_L_isSame (G : jG) (ad : Nat → Nat) (P : QP) (l : QL) (A : QA) (T : Nat → Bool) (F : QF) (qw qm qg : Nat) (lg : Nat → Int) (n0 : Nat) (hI : PI P) (hl : 0 ≤ l.sz ∧ l.sz ≤ 200) (hq : P.req ≤ 14) (hG : LG l lg n0) (hn : n0 ≤ 190) : CZ G yL_isSame cL_isSame 7 (jrm 3 64 0 0) [.ref (ad 0), .int (iI P.req), .ref qw, .ref qm, .ref qg, .int (iI (n0 : Int))] ([jAI G qw 16 (jiI P.plc), jAI G qm 16 (jiI P.mov), jAI G qg 200 (jiI lg)] ++ wC G ad P l A T F) (fun (z : Bool) (_ : Unit) => z = true) (fun _ : Unit => ([jAI G qw 16 (jiI P.plc), jAI G qm 16 (jiI P.mov), jAI G qg 200 (jiI lg)] ++ wC G ad P l A T F)) 0 0 := by
  refine cz_intro (own := RL) [some (.ref (ad 0)), some (.int (iI P.req)), some (.ref qw), some (.ref qm), some (.ref qg), some (.int (iI (n0 : Int))), none] (by decide) rfl rfl rfl (Nat.le_of_ble_eq_true rfl) (fun X C hret => ?_)
  have h1 := hI.req
  have hG1 := hG.1
  have hG2 := hG.2.1
  refine jw_aload_0 (pc := 0) C dL_isSame_0 ?_
  refine jw_sV_I (pc := 1) (wr := [jAI G qw 16 (jiI P.plc), jAI G qm 16 (jiI P.mov), jAI G qg 200 (jiI lg)]) C (c_X5_arrivedCount G ad P l A T F) wd_X5_arrivedCount kml_L_15 3 rfl rfl ((List.range 30).map (· + 3)) [0, 1, 2] rfl rfl rfl rfl (by decide) rfl rfl (Nat.le_of_ble_eq_true rfl) ⟨by decide, by decide⟩ ⟨Nat.zero_le _, Nat.zero_le _⟩ dL_isSame_1 rfl (fun z u h => ?_)
  subst h
  refine jw_iload_1 (pc := 4) C dL_isSame_4 ?_
  refine jw_icmp_ne (pc := 5) (tgt := 19) C dL_isSame_5 (by decide) ⟨by omega, by omega⟩ ⟨by omega, by omega⟩ (fun c_5 => ?_) (fun c_5 => ?_)
  · exact absurd rfl c_5
  · refine jw_aload_0 (pc := 8) C dL_isSame_8 ?_
    refine jw_sV_I (pc := 9) (wr := [jAI G qw 16 (jiI P.plc), jAI G qm 16 (jiI P.mov), jAI G qg 200 (jiI lg)]) C (c_X5_moveCount G ad P l A T F) wd_X5_moveCount kml_L_21 3 rfl rfl ((List.range 30).map (· + 3)) [0, 1, 2] rfl rfl rfl rfl (by decide) rfl rfl (Nat.le_of_ble_eq_true rfl) ⟨by decide, by decide⟩ ⟨Nat.zero_le _, Nat.zero_le _⟩ dL_isSame_9 rfl (fun z u h => ?_)
    subst h
    refine jw_iload_5 (pc := 12) C dL_isSame_12 ?_
    refine jw_iconst (pc := 14) C dL_isSame_14 ?_
    refine jw_idiv_n (b := 2) (pc := 15) C (by decide) (by omega) (by decide) dL_isSame_15 ?_
    refine jw_icmp_eq (pc := 16) (tgt := 21) C dL_isSame_16 (by decide) ⟨by omega, by omega⟩ ⟨by omega, by omega⟩ (fun c_16 => ?_) (fun c_16 => ?_)
    · refine jw_iconst (pc := 21) C dL_isSame_21 ?_
      refine jw_istore_6 (pc := 22) C dL_isSame_22 rfl ?_
      have K24 : ∀ (n_24 : Nat) (i : Nat), ((i : Int) ≤ P.req) → 15 - i < n_24 → JW G X 0 0 ([jAI G qw 16 (jiI P.plc), jAI G qm 16 (jiI P.mov), jAI G qg 200 (jiI lg)] ++ wC G ad P l A T F) 24 [some (.ref (ad 0)), some (.int (iI P.req)), some (.ref qw), some (.ref qm), some (.ref qg), some (.int (iI (n0 : Int))), some (.int (iI (i : Int)))] [] := by
        intro n_24
        induction n_24 with
        | zero => intro i hi hm_24; exact absurd hm_24 (Nat.not_lt_zero _)
        | succ n_24 ih_24 =>
          intro i hi hm_24
          refine jw_iload_6 (pc := 24) C dL_isSame_24 ?_
          refine jw_iload_1 (pc := 26) C dL_isSame_26 ?_
          refine jw_icmp_ge (pc := 27) (tgt := 104) C dL_isSame_27 (by decide) ⟨by omega, by omega⟩ ⟨by omega, by omega⟩ (fun c_27 => ?_) (fun c_27 => ?_)
          · refine jw_iconst (pc := 104) C dL_isSame_104 ?_
            refine jw_istore_6 (pc := 105) C dL_isSame_105 rfl ?_
            have K107 : ∀ (n_107 : Nat) (i2 : Nat), ((i2 : Int) ≤ l.sz) → 201 - i2 < n_107 → JW G X 0 0 ([jAI G qw 16 (jiI P.plc), jAI G qm 16 (jiI P.mov), jAI G qg 200 (jiI lg)] ++ wC G ad P l A T F) 107 [some (.ref (ad 0)), some (.int (iI P.req)), some (.ref qw), some (.ref qm), some (.ref qg), some (.int (iI (n0 : Int))), some (.int (iI (i2 : Int)))] [] := by
              intro n_107
              induction n_107 with
              | zero => intro i2 hi2 hm_107; exact absurd hm_107 (Nat.not_lt_zero _)
              | succ n_107 ih_107 =>
                intro i2 hi2 hm_107
                refine jw_iload_6 (pc := 107) C dL_isSame_107 ?_
                refine jw_iload_5 (pc := 109) C dL_isSame_109 ?_
                refine jw_iconst (pc := 111) C dL_isSame_111 ?_
                refine jw_idiv_n (b := 2) (pc := 112) C (by decide) (by omega) (by decide) dL_isSame_112 ?_
                refine jw_icmp_ge (pc := 113) (tgt := 158) C dL_isSame_113 (by decide) ⟨by omega, by omega⟩ ⟨by omega, by omega⟩ (fun c_113 => ?_) (fun c_113 => ?_)
                · refine jw_iconst (pc := 158) C dL_isSame_158 ?_
                  exact hret _ _ true () dL_isSame_159 rfl
                · refine jw_aload_0 (pc := 116) C dL_isSame_116 ?_
                  refine jw_iload_6 (pc := 117) C dL_isSame_117 ?_
                  refine jw_sV_I (pc := 119) (wr := [jAI G qw 16 (jiI P.plc), jAI G qm 16 (jiI P.mov), jAI G qg 200 (jiI lg)]) C (c_X5_movedRequest G ad P l A T F hl i2 (by omega)) wd_X5_movedRequest kml_L_34 3 rfl rfl ((List.range 30).map (· + 3)) [0, 1, 2] rfl rfl rfl rfl (by decide) rfl rfl (Nat.le_of_ble_eq_true rfl) ⟨by decide, by decide⟩ ⟨Nat.zero_le _, Nat.zero_le _⟩ dL_isSame_119 rfl (fun z u h => ?_)
                  subst h
                  refine jw_aload_4 (pc := 122) C dL_isSame_122 ?_
                  refine jw_iconst (pc := 124) C dL_isSame_124 ?_
                  refine jw_iload_6 (pc := 125) C dL_isSame_125 ?_
                  refine jw_imul (pc := 127) C dL_isSame_127 ?_
                  refine jw_iald (pc := 128) C 2 rfl (2 * i2) (by omega) (by omega) (by decide) dL_isSame_128 ?_
                  refine jw_icmp_ne_r (pc := 129) (tgt := 150) C dL_isSame_129 (by decide) (fun c_129 => ?_) (fun c_129 => ?_)
                  · exact absurd (by rw [(hG.2.2 i2 (by omega)).1]) c_129
                  · refine jw_aload_0 (pc := 132) C dL_isSame_132 ?_
                    refine jw_iload_6 (pc := 133) C dL_isSame_133 ?_
                    refine jw_sV_I (pc := 135) (wr := [jAI G qw 16 (jiI P.plc), jAI G qm 16 (jiI P.mov), jAI G qg 200 (jiI lg)]) C (c_X5_movedTo G ad P l A T F hl i2 (by omega)) wd_X5_movedTo kml_L_37 3 rfl rfl ((List.range 30).map (· + 3)) [0, 1, 2] rfl rfl rfl rfl (by decide) rfl rfl (Nat.le_of_ble_eq_true rfl) ⟨by decide, by decide⟩ ⟨Nat.zero_le _, Nat.zero_le _⟩ dL_isSame_135 rfl (fun z u h => ?_)
                    subst h
                    refine jw_aload_4 (pc := 138) C dL_isSame_138 ?_
                    refine jw_iconst (pc := 140) C dL_isSame_140 ?_
                    refine jw_iload_6 (pc := 141) C dL_isSame_141 ?_
                    refine jw_imul (pc := 143) C dL_isSame_143 ?_
                    refine jw_iconst (pc := 144) C dL_isSame_144 ?_
                    refine jw_iadd (pc := 145) C dL_isSame_145 ?_
                    refine jw_iald (pc := 146) C 2 rfl (2 * i2 + 1) (by omega) (by omega) (by decide) dL_isSame_146 ?_
                    refine jw_icmp_eq_r (pc := 147) (tgt := 152) C dL_isSame_147 (by decide) (fun c_147 => ?_) (fun c_147 => ?_)
                    · refine jw_iinc_6 (pc := 152) C dL_isSame_152 rfl ?_
                      refine jw_goto (pc := 155) (tgt := 107) C dL_isSame_155 (by decide) ?_
                      exact ih_107 (i2 + 1) (by omega) (by omega)
                    · exact absurd (by rw [(hG.2.2 i2 (by omega)).2]) c_147
            exact K107 202 0 (by omega) (by omega)
          · refine jw_aload_0 (pc := 30) C dL_isSame_30 ?_
            refine jw_iload_6 (pc := 31) C dL_isSame_31 ?_
            refine jw_sV_I (pc := 33) (wr := [jAI G qw 16 (jiI P.plc), jAI G qm 16 (jiI P.mov), jAI G qg 200 (jiI lg)]) C (c_X5_state G ad P l A T F hI i (by omega)) wd_X5_state kml_L_24 3 rfl rfl ((List.range 30).map (· + 3)) [0, 1, 2] rfl rfl rfl rfl (by decide) rfl rfl (Nat.le_of_ble_eq_true rfl) ⟨by decide, by decide⟩ ⟨Nat.zero_le _, Nat.zero_le _⟩ dL_isSame_33 rfl (fun z u h => ?_)
            subst h
            have h2 := hI.plc i
            have h3 := hI.mov i
            refine jw_aload_2 (pc := 36) C dL_isSame_36 ?_
            refine jw_iload_6 (pc := 37) C dL_isSame_37 ?_
            refine jw_iald (pc := 39) C 0 rfl i rfl (by omega) (by decide) dL_isSame_39 ?_
            refine jw_if_lt (pc := 40) (tgt := 47) C dL_isSame_40 (by decide) ⟨by omega, by omega⟩ (fun c_40 => ?_) (fun c_40 => ?_)
            · refine jw_aload_2 (pc := 47) C dL_isSame_47 ?_
              refine jw_iload_6 (pc := 48) C dL_isSame_48 ?_
              refine jw_iald (pc := 50) C 0 rfl _ rfl (by omega) (by decide) dL_isSame_50 ?_
              refine jw_iconst (pc := 51) C dL_isSame_51 ?_
              refine jw_icmp_ne (pc := 52) (tgt := 59) C dL_isSame_52 (by decide) ⟨by omega, by omega⟩ ⟨by omega, by omega⟩ (fun c_52 => ?_) (fun c_52 => ?_)
              · have hst : stN (P.plc i) = 2 := by rw [stN_b, if_neg (by omega), if_neg (by omega)]
                refine jw_iconst (pc := 59) C dL_isSame_59 ?_
                refine jw_icmp_ne (pc := 60) (tgt := 96) C dL_isSame_60 (by decide) ⟨by omega, by omega⟩ ⟨by omega, by omega⟩ (fun c_60 => ?_) (fun c_60 => ?_)
                · exact absurd hst c_60
                · refine jw_aload_2 (pc := 63) C dL_isSame_63 ?_
                  refine jw_iload_6 (pc := 64) C dL_isSame_64 ?_
                  refine jw_iald (pc := 66) C 0 rfl i rfl (by omega) (by decide) dL_isSame_66 ?_
                  refine jw_if_lt (pc := 67) (tgt := 83) C dL_isSame_67 (by decide) ⟨by omega, by omega⟩ (fun c_67 => ?_) (fun c_67 => ?_)
                  · refine jw_aload_0 (pc := 83) C dL_isSame_83 ?_
                    refine jw_iload_6 (pc := 84) C dL_isSame_84 ?_
                    refine jw_sV_I (pc := 86) (wr := [jAI G qw 16 (jiI P.plc), jAI G qm 16 (jiI P.mov), jAI G qg 200 (jiI lg)]) C (c_X5_movesOf G ad P l A T F hI i (by omega)) wd_X5_movesOf kml_L_31 3 rfl rfl ((List.range 30).map (· + 3)) [0, 1, 2] rfl rfl rfl rfl (by decide) rfl rfl (Nat.le_of_ble_eq_true rfl) ⟨by decide, by decide⟩ ⟨Nat.zero_le _, Nat.zero_le _⟩ dL_isSame_86 rfl (fun z u h => ?_)
                    subst h
                    refine jw_aload_3 (pc := 89) C dL_isSame_89 ?_
                    refine jw_iload_6 (pc := 90) C dL_isSame_90 ?_
                    refine jw_iald (pc := 92) C 1 rfl i rfl (by omega) (by decide) dL_isSame_92 ?_
                    refine jw_icmp_eq (pc := 93) (tgt := 98) C dL_isSame_93 (by decide) ⟨by omega, by omega⟩ ⟨by omega, by omega⟩ (fun c_93 => ?_) (fun c_93 => ?_)
                    · refine jw_iinc_6 (pc := 98) C dL_isSame_98 rfl ?_
                      refine jw_goto (pc := 101) (tgt := 24) C dL_isSame_101 (by decide) ?_
                      exact ih_24 (i + 1) (by omega) (by omega)
                    · exact absurd rfl c_93
                  · refine jw_aload_0 (pc := 70) C dL_isSame_70 ?_
                    refine jw_iload_6 (pc := 71) C dL_isSame_71 ?_
                    refine jw_sV_I (pc := 73) (wr := [jAI G qw 16 (jiI P.plc), jAI G qm 16 (jiI P.mov), jAI G qg 200 (jiI lg)]) C (c_X5_resourceOf G ad P l A T F hI i (by omega) (by omega)) wd_X5_resourceOf kml_L_28 3 rfl rfl ((List.range 30).map (· + 3)) [0, 1, 2] rfl rfl rfl rfl (by decide) rfl rfl (Nat.le_of_ble_eq_true rfl) ⟨by decide, by decide⟩ ⟨Nat.zero_le _, Nat.zero_le _⟩ dL_isSame_73 rfl (fun z u h => ?_)
                    subst h
                    refine jw_aload_2 (pc := 76) C dL_isSame_76 ?_
                    refine jw_iload_6 (pc := 77) C dL_isSame_77 ?_
                    refine jw_iald (pc := 79) C 0 rfl i rfl (by omega) (by decide) dL_isSame_79 ?_
                    refine jw_icmp_ne (pc := 80) (tgt := 96) C dL_isSame_80 (by decide) ⟨by omega, by omega⟩ ⟨by omega, by omega⟩ (fun c_80 => ?_) (fun c_80 => ?_)
                    · exact absurd rfl c_80
                    · refine jw_aload_0 (pc := 83) C dL_isSame_83 ?_
                      refine jw_iload_6 (pc := 84) C dL_isSame_84 ?_
                      refine jw_sV_I (pc := 86) (wr := [jAI G qw 16 (jiI P.plc), jAI G qm 16 (jiI P.mov), jAI G qg 200 (jiI lg)]) C (c_X5_movesOf G ad P l A T F hI i (by omega)) wd_X5_movesOf kml_L_31 3 rfl rfl ((List.range 30).map (· + 3)) [0, 1, 2] rfl rfl rfl rfl (by decide) rfl rfl (Nat.le_of_ble_eq_true rfl) ⟨by decide, by decide⟩ ⟨Nat.zero_le _, Nat.zero_le _⟩ dL_isSame_86 rfl (fun z u h => ?_)
                      subst h
                      refine jw_aload_3 (pc := 89) C dL_isSame_89 ?_
                      refine jw_iload_6 (pc := 90) C dL_isSame_90 ?_
                      refine jw_iald (pc := 92) C 1 rfl i rfl (by omega) (by decide) dL_isSame_92 ?_
                      refine jw_icmp_eq (pc := 93) (tgt := 98) C dL_isSame_93 (by decide) ⟨by omega, by omega⟩ ⟨by omega, by omega⟩ (fun c_93 => ?_) (fun c_93 => ?_)
                      · refine jw_iinc_6 (pc := 98) C dL_isSame_98 rfl ?_
                        refine jw_goto (pc := 101) (tgt := 24) C dL_isSame_101 (by decide) ?_
                        exact ih_24 (i + 1) (by omega) (by omega)
                      · exact absurd rfl c_93
              · have hst : stN (P.plc i) = 0 := by rw [stN_b, if_neg (by omega), if_pos (by omega)]
                refine jw_iconst (pc := 55) C dL_isSame_55 ?_
                refine jw_goto (pc := 56) (tgt := 60) C dL_isSame_56 (by decide) ?_
                refine jw_icmp_ne (pc := 60) (tgt := 96) C dL_isSame_60 (by decide) ⟨by omega, by omega⟩ ⟨by omega, by omega⟩ (fun c_60 => ?_) (fun c_60 => ?_)
                · exact absurd hst c_60
                · refine jw_aload_2 (pc := 63) C dL_isSame_63 ?_
                  refine jw_iload_6 (pc := 64) C dL_isSame_64 ?_
                  refine jw_iald (pc := 66) C 0 rfl i rfl (by omega) (by decide) dL_isSame_66 ?_
                  refine jw_if_lt (pc := 67) (tgt := 83) C dL_isSame_67 (by decide) ⟨by omega, by omega⟩ (fun c_67 => ?_) (fun c_67 => ?_)
                  · refine jw_aload_0 (pc := 83) C dL_isSame_83 ?_
                    refine jw_iload_6 (pc := 84) C dL_isSame_84 ?_
                    refine jw_sV_I (pc := 86) (wr := [jAI G qw 16 (jiI P.plc), jAI G qm 16 (jiI P.mov), jAI G qg 200 (jiI lg)]) C (c_X5_movesOf G ad P l A T F hI i (by omega)) wd_X5_movesOf kml_L_31 3 rfl rfl ((List.range 30).map (· + 3)) [0, 1, 2] rfl rfl rfl rfl (by decide) rfl rfl (Nat.le_of_ble_eq_true rfl) ⟨by decide, by decide⟩ ⟨Nat.zero_le _, Nat.zero_le _⟩ dL_isSame_86 rfl (fun z u h => ?_)
                    subst h
                    refine jw_aload_3 (pc := 89) C dL_isSame_89 ?_
                    refine jw_iload_6 (pc := 90) C dL_isSame_90 ?_
                    refine jw_iald (pc := 92) C 1 rfl i rfl (by omega) (by decide) dL_isSame_92 ?_
                    refine jw_icmp_eq (pc := 93) (tgt := 98) C dL_isSame_93 (by decide) ⟨by omega, by omega⟩ ⟨by omega, by omega⟩ (fun c_93 => ?_) (fun c_93 => ?_)
                    · refine jw_iinc_6 (pc := 98) C dL_isSame_98 rfl ?_
                      refine jw_goto (pc := 101) (tgt := 24) C dL_isSame_101 (by decide) ?_
                      exact ih_24 (i + 1) (by omega) (by omega)
                    · exact absurd rfl c_93
                  · refine jw_aload_0 (pc := 70) C dL_isSame_70 ?_
                    refine jw_iload_6 (pc := 71) C dL_isSame_71 ?_
                    refine jw_sV_I (pc := 73) (wr := [jAI G qw 16 (jiI P.plc), jAI G qm 16 (jiI P.mov), jAI G qg 200 (jiI lg)]) C (c_X5_resourceOf G ad P l A T F hI i (by omega) (by omega)) wd_X5_resourceOf kml_L_28 3 rfl rfl ((List.range 30).map (· + 3)) [0, 1, 2] rfl rfl rfl rfl (by decide) rfl rfl (Nat.le_of_ble_eq_true rfl) ⟨by decide, by decide⟩ ⟨Nat.zero_le _, Nat.zero_le _⟩ dL_isSame_73 rfl (fun z u h => ?_)
                    subst h
                    refine jw_aload_2 (pc := 76) C dL_isSame_76 ?_
                    refine jw_iload_6 (pc := 77) C dL_isSame_77 ?_
                    refine jw_iald (pc := 79) C 0 rfl i rfl (by omega) (by decide) dL_isSame_79 ?_
                    refine jw_icmp_ne (pc := 80) (tgt := 96) C dL_isSame_80 (by decide) ⟨by omega, by omega⟩ ⟨by omega, by omega⟩ (fun c_80 => ?_) (fun c_80 => ?_)
                    · exact absurd rfl c_80
                    · refine jw_aload_0 (pc := 83) C dL_isSame_83 ?_
                      refine jw_iload_6 (pc := 84) C dL_isSame_84 ?_
                      refine jw_sV_I (pc := 86) (wr := [jAI G qw 16 (jiI P.plc), jAI G qm 16 (jiI P.mov), jAI G qg 200 (jiI lg)]) C (c_X5_movesOf G ad P l A T F hI i (by omega)) wd_X5_movesOf kml_L_31 3 rfl rfl ((List.range 30).map (· + 3)) [0, 1, 2] rfl rfl rfl rfl (by decide) rfl rfl (Nat.le_of_ble_eq_true rfl) ⟨by decide, by decide⟩ ⟨Nat.zero_le _, Nat.zero_le _⟩ dL_isSame_86 rfl (fun z u h => ?_)
                      subst h
                      refine jw_aload_3 (pc := 89) C dL_isSame_89 ?_
                      refine jw_iload_6 (pc := 90) C dL_isSame_90 ?_
                      refine jw_iald (pc := 92) C 1 rfl i rfl (by omega) (by decide) dL_isSame_92 ?_
                      refine jw_icmp_eq (pc := 93) (tgt := 98) C dL_isSame_93 (by decide) ⟨by omega, by omega⟩ ⟨by omega, by omega⟩ (fun c_93 => ?_) (fun c_93 => ?_)
                      · refine jw_iinc_6 (pc := 98) C dL_isSame_98 rfl ?_
                        refine jw_goto (pc := 101) (tgt := 24) C dL_isSame_101 (by decide) ?_
                        exact ih_24 (i + 1) (by omega) (by omega)
                      · exact absurd rfl c_93
            · have hst : stN (P.plc i) = 1 := by rw [stN_b, if_pos (by omega)]
              refine jw_iconst (pc := 43) C dL_isSame_43 ?_
              refine jw_goto (pc := 44) (tgt := 60) C dL_isSame_44 (by decide) ?_
              refine jw_icmp_ne (pc := 60) (tgt := 96) C dL_isSame_60 (by decide) ⟨by omega, by omega⟩ ⟨by omega, by omega⟩ (fun c_60 => ?_) (fun c_60 => ?_)
              · exact absurd hst c_60
              · refine jw_aload_2 (pc := 63) C dL_isSame_63 ?_
                refine jw_iload_6 (pc := 64) C dL_isSame_64 ?_
                refine jw_iald (pc := 66) C 0 rfl i rfl (by omega) (by decide) dL_isSame_66 ?_
                refine jw_if_lt (pc := 67) (tgt := 83) C dL_isSame_67 (by decide) ⟨by omega, by omega⟩ (fun c_67 => ?_) (fun c_67 => ?_)
                · refine jw_aload_0 (pc := 83) C dL_isSame_83 ?_
                  refine jw_iload_6 (pc := 84) C dL_isSame_84 ?_
                  refine jw_sV_I (pc := 86) (wr := [jAI G qw 16 (jiI P.plc), jAI G qm 16 (jiI P.mov), jAI G qg 200 (jiI lg)]) C (c_X5_movesOf G ad P l A T F hI i (by omega)) wd_X5_movesOf kml_L_31 3 rfl rfl ((List.range 30).map (· + 3)) [0, 1, 2] rfl rfl rfl rfl (by decide) rfl rfl (Nat.le_of_ble_eq_true rfl) ⟨by decide, by decide⟩ ⟨Nat.zero_le _, Nat.zero_le _⟩ dL_isSame_86 rfl (fun z u h => ?_)
                  subst h
                  refine jw_aload_3 (pc := 89) C dL_isSame_89 ?_
                  refine jw_iload_6 (pc := 90) C dL_isSame_90 ?_
                  refine jw_iald (pc := 92) C 1 rfl i rfl (by omega) (by decide) dL_isSame_92 ?_
                  refine jw_icmp_eq (pc := 93) (tgt := 98) C dL_isSame_93 (by decide) ⟨by omega, by omega⟩ ⟨by omega, by omega⟩ (fun c_93 => ?_) (fun c_93 => ?_)
                  · refine jw_iinc_6 (pc := 98) C dL_isSame_98 rfl ?_
                    refine jw_goto (pc := 101) (tgt := 24) C dL_isSame_101 (by decide) ?_
                    exact ih_24 (i + 1) (by omega) (by omega)
                  · exact absurd rfl c_93
                · refine jw_aload_0 (pc := 70) C dL_isSame_70 ?_
                  refine jw_iload_6 (pc := 71) C dL_isSame_71 ?_
                  refine jw_sV_I (pc := 73) (wr := [jAI G qw 16 (jiI P.plc), jAI G qm 16 (jiI P.mov), jAI G qg 200 (jiI lg)]) C (c_X5_resourceOf G ad P l A T F hI i (by omega) (by omega)) wd_X5_resourceOf kml_L_28 3 rfl rfl ((List.range 30).map (· + 3)) [0, 1, 2] rfl rfl rfl rfl (by decide) rfl rfl (Nat.le_of_ble_eq_true rfl) ⟨by decide, by decide⟩ ⟨Nat.zero_le _, Nat.zero_le _⟩ dL_isSame_73 rfl (fun z u h => ?_)
                  subst h
                  refine jw_aload_2 (pc := 76) C dL_isSame_76 ?_
                  refine jw_iload_6 (pc := 77) C dL_isSame_77 ?_
                  refine jw_iald (pc := 79) C 0 rfl i rfl (by omega) (by decide) dL_isSame_79 ?_
                  refine jw_icmp_ne (pc := 80) (tgt := 96) C dL_isSame_80 (by decide) ⟨by omega, by omega⟩ ⟨by omega, by omega⟩ (fun c_80 => ?_) (fun c_80 => ?_)
                  · exact absurd rfl c_80
                  · refine jw_aload_0 (pc := 83) C dL_isSame_83 ?_
                    refine jw_iload_6 (pc := 84) C dL_isSame_84 ?_
                    refine jw_sV_I (pc := 86) (wr := [jAI G qw 16 (jiI P.plc), jAI G qm 16 (jiI P.mov), jAI G qg 200 (jiI lg)]) C (c_X5_movesOf G ad P l A T F hI i (by omega)) wd_X5_movesOf kml_L_31 3 rfl rfl ((List.range 30).map (· + 3)) [0, 1, 2] rfl rfl rfl rfl (by decide) rfl rfl (Nat.le_of_ble_eq_true rfl) ⟨by decide, by decide⟩ ⟨Nat.zero_le _, Nat.zero_le _⟩ dL_isSame_86 rfl (fun z u h => ?_)
                    subst h
                    refine jw_aload_3 (pc := 89) C dL_isSame_89 ?_
                    refine jw_iload_6 (pc := 90) C dL_isSame_90 ?_
                    refine jw_iald (pc := 92) C 1 rfl i rfl (by omega) (by decide) dL_isSame_92 ?_
                    refine jw_icmp_eq (pc := 93) (tgt := 98) C dL_isSame_93 (by decide) ⟨by omega, by omega⟩ ⟨by omega, by omega⟩ (fun c_93 => ?_) (fun c_93 => ?_)
                    · refine jw_iinc_6 (pc := 98) C dL_isSame_98 rfl ?_
                      refine jw_goto (pc := 101) (tgt := 24) C dL_isSame_101 (by decide) ?_
                      exact ih_24 (i + 1) (by omega) (by omega)
                    · exact absurd rfl c_93
      exact K24 16 0 (by omega) (by omega)
    · exact absurd (by omega) c_16
end
section
/-! THE LAW'S BODY: its nine rows beside the service -/
abbrev wA (G : jG) (q : Nat → Nat) (f mv : Nat → Int) (ac : Nat → Int32) (u wh lg we cn gr : Nat → Int) : va_W :=
  [jAI G (q 0) 4 (jiI f), jAI G (q 1) 16 (jiI mv), jAI G (q 2) 16 ac, jAI G (q 3) 4 (jiI u), jAI G (q 4) 16 (jiI wh), jAI G (q 5) 200 (jiI lg), jAI G (q 6) 4 (jiI we), jAI G (q 7) 4 (jiI cn), jAI G (q 8) 16 (jiI gr)]
abbrev wP (G : jG) (q : Nat → Nat) (f : Nat → Int) (P : QP) (u lg : Nat → Int) : va_W := wA G q f P.mov P.acc u P.plc lg P.wei P.asg P.grp
theorem rmk {k n : Nat} (h : k ≤ 1000 ∧ n ≤ 10000) : k ≤ room_1.cells ∧ n ≤ room_1.slots := ⟨Nat.le_trans h.1 (Nat.le_of_ble_eq_true rfl), Nat.le_trans h.2 (Nat.le_of_ble_eq_true rfl)⟩
theorem rmk2 {k n : Nat} (h : k + 1 ≤ 1000 ∧ n + 4 ≤ 10000) : k + 1 ≤ room_1.cells ∧ n + 4 ≤ room_1.slots := rmk h
theorem c_bp (G : jG) (qa qm qk qp : Nat) (P : QP) (f u : Nat → Int) (m : Int32) (hI : PI P) (hA : AtR P f) (hC : LC P) (r : Nat) (hr : (r : Int) < P.req) (hw : P.plc r = -1) (hm : P.acc r = m) (ml : Int) (hml : P.ml = ml) : CI G yL_bestPath cL_bestPath 10 (jrm 1 32 0 0) [.int (iI 4), .int m, .ref qa, .ref qm, .int (iI ml), .ref qk, .ref qp] [jAI G qa 4 (jiI f), jAI G qm 16 (jiI P.mov), jAI G qk 16 P.acc, jAI G qp 4 (jiI u)] (fun (z : Int32) (u : Nat → Int) => BP P f m z u) (fun u : Nat → Int => [jAI G qa 4 (jiI f), jAI G qm 16 (jiI P.mov), jAI G qk 16 P.acc, jAI G qp 4 (jiI u)]) 0 0 := by
  subst hml
  exact c_L_bestPath G qa qm qk qp P f u m hI hA hC r hr hw hm
theorem c_same (G : jG) (ad : Nat → Nat) (P : QP) (l : QL) (A : QA) (T : Nat → Bool) (F : QF) (qw qm qg : Nat) (lg : Nat → Int) (n0 : Nat) (hI : PI P) (hl : 0 ≤ l.sz ∧ l.sz ≤ 200) (hq : P.req ≤ 14) (hG : LG l lg n0) (hn : n0 ≤ 190) (mn : Nat) (hmn : P.req = (mn : Int)) : CZ G yL_isSame cL_isSame 7 (jrm 3 64 0 0) [.ref (ad 0), .int (iI (mn : Int)), .ref qw, .ref qm, .ref qg, .int (iI (n0 : Int))] ([jAI G qw 16 (jiI P.plc), jAI G qm 16 (jiI P.mov), jAI G qg 200 (jiI lg)] ++ wC G ad P l A T F) (fun (z : Bool) (_ : Unit) => z = true) (fun _ : Unit => ([jAI G qw 16 (jiI P.plc), jAI G qm 16 (jiI P.mov), jAI G qg 200 (jiI lg)] ++ wC G ad P l A T F)) 0 0 := by
  have h := c_L_isSame G ad P l A T F qw qm qg lg n0 hI hl hq hG hn
  rw [hmn] at h
  exact h
/-- what goes on at the head of the law's loop -/
def KH (G : jG) (X : JX) (ad q : Nat → Nat) (b : Nat) (pl ml : Int) (j k n : Nat) : Prop := ∀ (P : QP) (l : QL) (A : QA) (T : Nat → Bool) (F : QF) (f u lg : Nat → Int) (mn : Nat), HV P l f → P.pl = pl → P.ml = ml → P.req = (mn : Int) → mn ≤ j → JW G X k n (wP G q f P u lg ++ wC G ad P l A T F) 171 [some (.ref b), some (.ref (ad 0)), some (.int (iI 4)), some (.int (iI pl)), some (.int (iI ml)), some (.ref (q 0)), some (.ref (q 6)), some (.ref (q 7)), some (.ref (q 2)), some (.ref (q 8)), some (.ref (q 4)), some (.ref (q 1)), some (.ref (q 3)), some (.ref (q 5)), some (.int (iI (mn : Int))), some (.int (iI (j : Int))), none, none, none, none, none, none, none, none, none, none, none, none] []
set_option maxRecDepth 100000 in
set_option maxHeartbeats 4000000 in
theorem lw_same {G : jG} {X : JX} {ad q : Nat → Nat} {b : Nat} {pl ml : Int} {k n j k1 n1 mn n0 : Nat} (C : JC G X room_1 cL_law RL 28) (hk : k ≤ k1 ∧ n ≤ n1) (hk1 : k1 ≤ 1000 ∧ n1 ≤ 10000) (P : QP) (l : QL) (A : QA) (T : Nat → Bool) (F : QF) (f u lg : Nat → Int) (hV : HV P l f) (hpl : P.pl = pl) (hml : P.ml = ml) (hmn : P.req = (mn : Int)) (hj : mn ≤ j + 1) (hG : LG l lg n0) (hn : n0 ≤ 190) (kk : KH G X ad q b pl ml (j + 1) k1 n1) : JW G X k n (wP G q f P u lg ++ wC G ad P l A T F) 731 [some (.ref b), some (.ref (ad 0)), some (.int (iI 4)), some (.int (iI pl)), some (.int (iI ml)), some (.ref (q 0)), some (.ref (q 6)), some (.ref (q 7)), some (.ref (q 2)), some (.ref (q 8)), some (.ref (q 4)), some (.ref (q 1)), some (.ref (q 3)), some (.ref (q 5)), some (.int (iI (mn : Int))), some (.int (iI (j : Int))), none, none, none, some (.int (iI (n0 : Int))), none, none, none, none, none, none, none, none] [] := by
  refine jw_aload_1 (pc := 731) C dL_law_731 ?_
  refine jw_iload_14 (pc := 732) C dL_law_732 ?_
  refine jw_aload_10 (pc := 734) C dL_law_734 ?_
  refine jw_aload_11 (pc := 736) C dL_law_736 ?_
  refine jw_aload_13 (pc := 738) C dL_law_738 ?_
  refine jw_iload_19 (pc := 740) C dL_law_740 ?_
  refine jw_sS_Z (pc := 742) (wr := [jAI G (q 0) 4 (jiI f), jAI G (q 2) 16 P.acc, jAI G (q 3) 4 (jiI u), jAI G (q 6) 4 (jiI P.wei), jAI G (q 7) 4 (jiI P.asg), jAI G (q 8) 16 (jiI P.grp)]) C (c_same G ad P l A T F (q 4) (q 1) (q 5) lg n0 hV.1.1 hV.1.2.2 hV.2.1.2.2.2.1 hG hn mn hmn) ws_L_isSame kml_L_77 ([4, 1, 5] ++ (List.range 30).map (· + 9)) [0, 2, 3, 6, 7, 8] rfl rfl rfl rfl (by decide) rfl rfl (Nat.le_of_ble_eq_true rfl) ⟨by decide, by decide⟩ (rmk ⟨by omega, by omega⟩) dL_law_742 rfl (fun z u9 h => ?_)
  subst h
  refine jw_sub (w2 := wP G q f P u lg ++ wC G ad P l A T F) ([0, 7, 1, 2, 6, 8, 3, 4, 5] ++ (List.range 30).map (· + 9)) rfl rfl ?_
  refine jw_if_ne_b (pc := 745) (tgt := 750) C dL_law_745 (by decide) (fun c_745 => ?_) (fun c_745 => ?_)
  · refine jw_iinc_15 (pc := 750) C dL_law_750 rfl ?_
    refine jw_goto (pc := 753) (tgt := 171) C dL_law_753 (by decide) ?_
    exact jw_less (jw_widen hk.1 hk.2 (kk P l A T F f u lg mn hV hpl hml hmn hj)) (by repeat (first | exact trivial | refine And.intro rfl ?_))
  · exact absurd c_745 (by decide)
end
