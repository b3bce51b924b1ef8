/-- a private method of a class that the tables say can be made, by its rows of tables_1 -/
def lw_okq (q : MethodName × Nat) : Prop := (q.1.cls ≠ "java/lang/invoke/MethodHandle" ∧ q.1.cls ≠ "java/lang/invoke/VarHandle") ∧ Cond.instantiable q.1.cls q.2 ∈ tables_1 ∧ Cond.privateMethod q.1 ∈ tables_1 ∧ Cond.instanceMethod q.1 ∈ tables_1
theorem lw_p0 : lw_okq (⟨"TrailTeams", "isTeam", "(I)Z"⟩, 7) := ⟨⟨by decide +kernel, by decide +kernel⟩, List.mem_of_getElem? (i := 12) (by decide +kernel), List.mem_of_getElem? (i := 263) (by decide +kernel), List.mem_of_getElem? (i := 264) (by decide +kernel)⟩
theorem lw_p1 : lw_okq (⟨"TrailTeams", "endNow", "(I)I"⟩, 7) := ⟨⟨by decide +kernel, by decide +kernel⟩, List.mem_of_getElem? (i := 12) (by decide +kernel), List.mem_of_getElem? (i := 275) (by decide +kernel), List.mem_of_getElem? (i := 276) (by decide +kernel)⟩
theorem lw_p2 : lw_okq (⟨"TrailTeams", "playNow", "()V"⟩, 7) := ⟨⟨by decide +kernel, by decide +kernel⟩, List.mem_of_getElem? (i := 12) (by decide +kernel), List.mem_of_getElem? (i := 279) (by decide +kernel), List.mem_of_getElem? (i := 280) (by decide +kernel)⟩
theorem lw_p3 : lw_okq (⟨"TrailTeams$Game", "layTrail", "(I)V"⟩, 11) := ⟨⟨by decide +kernel, by decide +kernel⟩, List.mem_of_getElem? (i := 100) (by decide +kernel), List.mem_of_getElem? (i := 290) (by decide +kernel), List.mem_of_getElem? (i := 291) (by decide +kernel)⟩
theorem lw_p4 : lw_okq (⟨"TrailTeams$Game", "nextToCome", "()I"⟩, 11) := ⟨⟨by decide +kernel, by decide +kernel⟩, List.mem_of_getElem? (i := 100) (by decide +kernel), List.mem_of_getElem? (i := 298) (by decide +kernel), List.mem_of_getElem? (i := 299) (by decide +kernel)⟩
theorem lw_p5 : lw_okq (⟨"TrailTeams$Game", "makeVisit", "(I)V"⟩, 11) := ⟨⟨by decide +kernel, by decide +kernel⟩, List.mem_of_getElem? (i := 100) (by decide +kernel), List.mem_of_getElem? (i := 302) (by decide +kernel), List.mem_of_getElem? (i := 303) (by decide +kernel)⟩
theorem lw_p6 : lw_okq (⟨"TrailTeams$Game", "isAhead", "(II)Z"⟩, 11) := ⟨⟨by decide +kernel, by decide +kernel⟩, List.mem_of_getElem? (i := 100) (by decide +kernel), List.mem_of_getElem? (i := 348) (by decide +kernel), List.mem_of_getElem? (i := 349) (by decide +kernel)⟩
theorem lw_p7 : lw_okq (⟨"TrailTeams$Game", "meet", "(II)Z"⟩, 11) := ⟨⟨by decide +kernel, by decide +kernel⟩, List.mem_of_getElem? (i := 100) (by decide +kernel), List.mem_of_getElem? (i := 358) (by decide +kernel), List.mem_of_getElem? (i := 359) (by decide +kernel)⟩
theorem lw_p8 : lw_okq (⟨"TrailTeams$Game", "meetAt", "(III)Z"⟩, 11) := ⟨⟨by decide +kernel, by decide +kernel⟩, List.mem_of_getElem? (i := 100) (by decide +kernel), List.mem_of_getElem? (i := 362) (by decide +kernel), List.mem_of_getElem? (i := 363) (by decide +kernel)⟩
theorem lw_p9 : lw_okq (⟨"TrailTeams$Game", "teamsThere", "(II)I"⟩, 11) := ⟨⟨by decide +kernel, by decide +kernel⟩, List.mem_of_getElem? (i := 100) (by decide +kernel), List.mem_of_getElem? (i := 386) (by decide +kernel), List.mem_of_getElem? (i := 387) (by decide +kernel)⟩
theorem lw_p10 : lw_okq (⟨"TrailTeams$Game", "isThere", "(III)Z"⟩, 11) := ⟨⟨by decide +kernel, by decide +kernel⟩, List.mem_of_getElem? (i := 100) (by decide +kernel), List.mem_of_getElem? (i := 390) (by decide +kernel), List.mem_of_getElem? (i := 391) (by decide +kernel)⟩
theorem lw_p11 : lw_okq (⟨"TrailTeams", "isInRoute", "(II)Z"⟩, 7) := ⟨⟨by decide +kernel, by decide +kernel⟩, List.mem_of_getElem? (i := 12) (by decide +kernel), List.mem_of_getElem? (i := 534) (by decide +kernel), List.mem_of_getElem? (i := 535) (by decide +kernel)⟩
def lw_privs_1 : List (MethodName × Nat) := [(⟨"TrailTeams", "isTeam", "(I)Z"⟩, 7), (⟨"TrailTeams", "endNow", "(I)I"⟩, 7), (⟨"TrailTeams", "playNow", "()V"⟩, 7), (⟨"TrailTeams$Game", "layTrail", "(I)V"⟩, 11), (⟨"TrailTeams$Game", "nextToCome", "()I"⟩, 11), (⟨"TrailTeams$Game", "makeVisit", "(I)V"⟩, 11), (⟨"TrailTeams$Game", "isAhead", "(II)Z"⟩, 11), (⟨"TrailTeams$Game", "meet", "(II)Z"⟩, 11), (⟨"TrailTeams$Game", "meetAt", "(III)Z"⟩, 11), (⟨"TrailTeams$Game", "teamsThere", "(II)I"⟩, 11), (⟨"TrailTeams$Game", "isThere", "(III)Z"⟩, 11), (⟨"TrailTeams", "isInRoute", "(II)Z"⟩, 7)]
theorem lw_r1 : ∀ q ∈ lw_privs_1, lw_okq q := List.forall_mem_cons.mpr ⟨lw_p0, List.forall_mem_cons.mpr ⟨lw_p1, List.forall_mem_cons.mpr ⟨lw_p2, List.forall_mem_cons.mpr ⟨lw_p3, List.forall_mem_cons.mpr ⟨lw_p4, List.forall_mem_cons.mpr ⟨lw_p5, List.forall_mem_cons.mpr ⟨lw_p6, List.forall_mem_cons.mpr ⟨lw_p7, List.forall_mem_cons.mpr ⟨lw_p8, List.forall_mem_cons.mpr ⟨lw_p9, List.forall_mem_cons.mpr ⟨lw_p10, List.forall_mem_cons.mpr ⟨lw_p11, fun _ h => absurd h List.not_mem_nil⟩⟩⟩⟩⟩⟩⟩⟩⟩⟩⟩⟩
def lw_privs : List (MethodName × Nat) := lw_privs_1
def lw_tbl : List Cond := k2_sels lw_privs ++ tables_1
theorem lw_privs_ok : ∀ q ∈ lw_privs, lw_okq q := lw_r1

def RX0 : String := "TrailTeams$Game"
def TX0 : u_T := fun k => match k with
  | 0 => ("TrailTeams$Game", "state", "LTrailTeams$State;", false)
  | 1 => ("TrailTeams$Game", "teamCount", "I", false)
  | 2 => ("TrailTeams$Game", "trailLengths", "[I", true)
  | 3 => ("TrailTeams$Game", "places", "[[I", true)
  | 4 => ("TrailTeams$Game", "walks", "[[I", true)
  | 5 => ("TrailTeams$Game", "comes", "[[I", true)
  | 6 => ("TrailTeams$Game", "begins", "[[I", true)
  | 7 => ("TrailTeams$Game", "ends", "[[I", true)
  | 8 => ("TrailTeams$Game", "visitsMade", "[I", true)
  | 9 => ("TrailTeams$Game", "goesOn", "[I", true)
  | _ => ("TrailTeams$Game", "freeFrom", "[I", true)
def tyX0 : Nat → FieldType := fun k => match k with
  | 0 => .object "TrailTeams$State"
  | 1 => .int
  | 2 => .array .int
  | 3 => .array (.array .int)
  | 4 => .array (.array .int)
  | 5 => .array (.array .int)
  | 6 => .array (.array .int)
  | 7 => .array (.array .int)
  | 8 => .array .int
  | 9 => .array .int
  | _ => .array .int
abbrev wsX00 : List Cond := u_ws RX0 TX0 11
theorem nmX0 : ∀ a, a < 11 → ∀ b, b < 11 → a ≠ b → (TX0 a).2.1 ≠ (TX0 b).2.1 := by decide +kernel
theorem tyX0_ok : ∀ k, k < 11 → parseFieldDescriptor (TX0 k).2.2.1 = some (tyX0 k) := by decide +kernel
abbrev cX0_init : ByteArray := prog_2_method_1_code
def yX0_init : MethodName := ⟨RX0, "<init>", "()V"⟩
abbrev cX0_play : ByteArray := prog_2_method_2_code
def yX0_play : MethodName := ⟨RX0, "play", "(LTrailTeams$State;I)V"⟩
abbrev cX0_layTrail : ByteArray := prog_2_method_3_code
def yX0_layTrail : MethodName := ⟨RX0, "layTrail", "(I)V"⟩
abbrev cX0_nextToCome : ByteArray := prog_2_method_4_code
def yX0_nextToCome : MethodName := ⟨RX0, "nextToCome", "()I"⟩
abbrev cX0_makeVisit : ByteArray := prog_2_method_5_code
def yX0_makeVisit : MethodName := ⟨RX0, "makeVisit", "(I)V"⟩
abbrev cX0_visitAt : ByteArray := prog_2_method_6_code
def yX0_visitAt : MethodName := ⟨RX0, "visitAt", "(II)I"⟩
abbrev cX0_queueingOf : ByteArray := prog_2_method_7_code
def yX0_queueingOf : MethodName := ⟨RX0, "queueingOf", "(I)I"⟩
abbrev cX0_walkingOf : ByteArray := prog_2_method_8_code
def yX0_walkingOf : MethodName := ⟨RX0, "walkingOf", "(I)I"⟩
abbrev cX0_hintsOf : ByteArray := prog_2_method_9_code
def yX0_hintsOf : MethodName := ⟨RX0, "hintsOf", "(I)I"⟩
abbrev cX0_pointsOf : ByteArray := prog_2_method_10_code
def yX0_pointsOf : MethodName := ⟨RX0, "pointsOf", "(I)I"⟩
abbrev cX0_rankOf : ByteArray := prog_2_method_11_code
def yX0_rankOf : MethodName := ⟨RX0, "rankOf", "(I)I"⟩
abbrev cX0_isAhead : ByteArray := prog_2_method_12_code
def yX0_isAhead : MethodName := ⟨RX0, "isAhead", "(II)Z"⟩
abbrev cX0_placeWithTeam : ByteArray := prog_2_method_13_code
def yX0_placeWithTeam : MethodName := ⟨RX0, "placeWithTeam", "(II)I"⟩
abbrev cX0_isThere : ByteArray := prog_2_method_14_code
def yX0_isThere : MethodName := ⟨RX0, "isThere", "(III)Z"⟩
abbrev cX0_placeToldTo : ByteArray := prog_2_method_15_code
def yX0_placeToldTo : MethodName := ⟨RX0, "placeToldTo", "(II)I"⟩
abbrev cX0_meetAt : ByteArray := prog_2_method_16_code
def yX0_meetAt : MethodName := ⟨RX0, "meetAt", "(III)Z"⟩
abbrev cX0_meet : ByteArray := prog_2_method_17_code
def yX0_meet : MethodName := ⟨RX0, "meet", "(II)Z"⟩
abbrev cX0_teamsMetBy : ByteArray := prog_2_method_18_code
def yX0_teamsMetBy : MethodName := ⟨RX0, "teamsMetBy", "(I)I"⟩
abbrev cX0_pairs : ByteArray := prog_2_method_19_code
def yX0_pairs : MethodName := ⟨RX0, "pairs", "()I"⟩
abbrev cX0_pairsAt : ByteArray := prog_2_method_20_code
def yX0_pairsAt : MethodName := ⟨RX0, "pairsAt", "(I)I"⟩
abbrev cX0_teamsAt : ByteArray := prog_2_method_21_code
def yX0_teamsAt : MethodName := ⟨RX0, "teamsAt", "(I)I"⟩
abbrev cX0_queueingAt : ByteArray := prog_2_method_22_code
def yX0_queueingAt : MethodName := ⟨RX0, "queueingAt", "(I)I"⟩
abbrev cX0_mostAt : ByteArray := prog_2_method_23_code
def yX0_mostAt : MethodName := ⟨RX0, "mostAt", "(I)I"⟩
abbrev cX0_teamsThere : ByteArray := prog_2_method_24_code
def yX0_teamsThere : MethodName := ⟨RX0, "teamsThere", "(II)I"⟩
abbrev cX0_lastEnd : ByteArray := prog_2_method_25_code
def yX0_lastEnd : MethodName := ⟨RX0, "lastEnd", "()I"⟩
abbrev cX0_queueing : ByteArray := prog_2_method_26_code
def yX0_queueing : MethodName := ⟨RX0, "queueing", "()I"⟩
abbrev cX0_winner : ByteArray := prog_2_method_27_code
def yX0_winner : MethodName := ⟨RX0, "winner", "()I"⟩
abbrev cX0_points : ByteArray := prog_2_method_28_code
def yX0_points : MethodName := ⟨RX0, "points", "()I"⟩
abbrev cX0_visits : ByteArray := prog_2_method_29_code
def yX0_visits : MethodName := ⟨RX0, "visits", "()I"⟩
def RX1 : String := "TrailTeams$History"
def TX1 : u_T := fun k => match k with
  | 0 => ("TrailTeams$History", "states", "[LTrailTeams$State;", true)
  | 1 => ("TrailTeams$History", "oldest", "I", false)
  | _ => ("TrailTeams$History", "length", "I", false)
def tyX1 : Nat → FieldType := fun k => match k with
  | 0 => .array (.object "TrailTeams$State")
  | 1 => .int
  | _ => .int
abbrev wsX10 : List Cond := u_ws RX1 TX1 3
theorem nmX1 : ∀ a, a < 3 → ∀ b, b < 3 → a ≠ b → (TX1 a).2.1 ≠ (TX1 b).2.1 := by decide +kernel
theorem tyX1_ok : ∀ k, k < 3 → parseFieldDescriptor (TX1 k).2.2.1 = some (tyX1 k) := by decide +kernel
abbrev cX1_init : ByteArray := prog_3_method_1_code
def yX1_init : MethodName := ⟨RX1, "<init>", "()V"⟩
abbrev cX1_record : ByteArray := prog_3_method_2_code
def yX1_record : MethodName := ⟨RX1, "record", "(LTrailTeams$State;)V"⟩
def RX2 : String := "TrailTeams$Pad"
def TX2 : u_T := fun k => match k with
  | 0 => ("TrailTeams$Pad", "signs", "[C", true)
  | _ => ("TrailTeams$Pad", "length", "I", false)
def tyX2 : Nat → FieldType := fun k => match k with
  | 0 => .array .char
  | _ => .int
abbrev wsX20 : List Cond := u_ws RX2 TX2 2
theorem nmX2 : ∀ a, a < 2 → ∀ b, b < 2 → a ≠ b → (TX2 a).2.1 ≠ (TX2 b).2.1 := by decide +kernel
theorem tyX2_ok : ∀ k, k < 2 → parseFieldDescriptor (TX2 k).2.2.1 = some (tyX2 k) := by decide +kernel
abbrev cX2_init : ByteArray := prog_4_method_1_code
def yX2_init : MethodName := ⟨RX2, "<init>", "()V"⟩
abbrev cX2_lengthOf : ByteArray := prog_4_method_2_code
def yX2_lengthOf : MethodName := ⟨RX2, "lengthOf", "(J)I"⟩
abbrev cX2_append : ByteArray := prog_4_method_3_code
def yX2_append : MethodName := ⟨RX2, "append", "(JI)V"⟩
abbrev cX2_firstFault : ByteArray := prog_4_method_4_code
def yX2_firstFault : MethodName := ⟨RX2, "firstFault", "()I"⟩
abbrev cX2_moveTo : ByteArray := prog_4_method_5_code
def yX2_moveTo : MethodName := ⟨RX2, "moveTo", "(LTrailTeams$Team;)V"⟩
def RX3 : String := "TrailTeams$State"
def TX3 : u_T := fun k => match k with
  | 0 => ("TrailTeams$State", "settings", "[I", true)
  | 1 => ("TrailTeams$State", "xs", "[I", true)
  | 2 => ("TrailTeams$State", "ys", "[I", true)
  | 3 => ("TrailTeams$State", "looks", "[I", true)
  | 4 => ("TrailTeams$State", "closedPlaces", "I", false)
  | 5 => ("TrailTeams$State", "teams", "[LTrailTeams$Team;", true)
  | _ => ("TrailTeams$State", "teamCount", "I", false)
def tyX3 : Nat → FieldType := fun k => match k with
  | 0 => .array .int
  | 1 => .array .int
  | 2 => .array .int
  | 3 => .array .int
  | 4 => .int
  | 5 => .array (.object "TrailTeams$Team")
  | _ => .int
abbrev wsX30 : List Cond := u_ws RX3 TX3 7
theorem nmX3 : ∀ a, a < 7 → ∀ b, b < 7 → a ≠ b → (TX3 a).2.1 ≠ (TX3 b).2.1 := by decide +kernel
theorem tyX3_ok : ∀ k, k < 7 → parseFieldDescriptor (TX3 k).2.2.1 = some (tyX3 k) := by decide +kernel
abbrev cX3_init : ByteArray := prog_5_method_1_code
def yX3_init : MethodName := ⟨RX3, "<init>", "()V"⟩
abbrev cX3_copyFrom : ByteArray := prog_5_method_2_code
def yX3_copyFrom : MethodName := ⟨RX3, "copyFrom", "(LTrailTeams$State;)V"⟩
abbrev cX3_isClosed : ByteArray := prog_5_method_3_code
def yX3_isClosed : MethodName := ⟨RX3, "isClosed", "(I)Z"⟩
abbrev cX3_openPlaces : ByteArray := prog_5_method_4_code
def yX3_openPlaces : MethodName := ⟨RX3, "openPlaces", "()I"⟩
abbrev cX3_trailLength : ByteArray := prog_5_method_5_code
def yX3_trailLength : MethodName := ⟨RX3, "trailLength", "(I)I"⟩
abbrev cX3_lookOf : ByteArray := prog_5_method_6_code
def yX3_lookOf : MethodName := ⟨RX3, "lookOf", "(II)I"⟩
def RX4 : String := "TrailTeams$Team"
def TX4 : u_T := fun k => match k with
  | 0 => ("TrailTeams$Team", "route", "[I", true)
  | 1 => ("TrailTeams$Team", "length", "I", false)
  | 2 => ("TrailTeams$Team", "start", "I", false)
  | 3 => ("TrailTeams$Team", "hints", "I", false)
  | _ => ("TrailTeams$Team", "lostBehind", "I", false)
def tyX4 : Nat → FieldType := fun k => match k with
  | 0 => .array .int
  | 1 => .int
  | 2 => .int
  | 3 => .int
  | _ => .int
abbrev wsX40 : List Cond := u_ws RX4 TX4 5
theorem nmX4 : ∀ a, a < 5 → ∀ b, b < 5 → a ≠ b → (TX4 a).2.1 ≠ (TX4 b).2.1 := by decide +kernel
theorem tyX4_ok : ∀ k, k < 5 → parseFieldDescriptor (TX4 k).2.2.1 = some (tyX4 k) := by decide +kernel
abbrev cX4_init : ByteArray := prog_6_method_1_code
def yX4_init : MethodName := ⟨RX4, "<init>", "()V"⟩
abbrev cX4_copyFrom : ByteArray := prog_6_method_2_code
def yX4_copyFrom : MethodName := ⟨RX4, "copyFrom", "(LTrailTeams$Team;)V"⟩
abbrev cX4_hasHint : ByteArray := prog_6_method_3_code
def yX4_hasHint : MethodName := ⟨RX4, "hasHint", "(I)Z"⟩
abbrev cX4_exchangePlaces : ByteArray := prog_6_method_5_code
def yX4_exchangePlaces : MethodName := ⟨RX4, "exchangePlaces", "(II)V"⟩
def RX5 : String := "TrailTeams"
def TX5 : u_T := fun k => match k with
  | 0 => ("TrailTeams", "now", "LTrailTeams$State;", true)
  | 1 => ("TrailTeams", "trial", "LTrailTeams$State;", true)
  | 2 => ("TrailTeams", "game", "LTrailTeams$Game;", true)
  | 3 => ("TrailTeams", "pad", "LTrailTeams$Pad;", true)
  | 4 => ("TrailTeams", "history", "LTrailTeams$History;", true)
  | 5 => ("TrailTeams", "slots", "[LTrailTeams$State;", true)
  | _ => ("TrailTeams", "isSaved", "[Z", true)
def tyX5 : Nat → FieldType := fun k => match k with
  | 0 => .object "TrailTeams$State"
  | 1 => .object "TrailTeams$State"
  | 2 => .object "TrailTeams$Game"
  | 3 => .object "TrailTeams$Pad"
  | 4 => .object "TrailTeams$History"
  | 5 => .array (.object "TrailTeams$State")
  | _ => .array .boolean
abbrev wsX50 : List Cond := u_ws RX5 TX5 7
theorem nmX5 : ∀ a, a < 7 → ∀ b, b < 7 → a ≠ b → (TX5 a).2.1 ≠ (TX5 b).2.1 := by decide +kernel
theorem tyX5_ok : ∀ k, k < 7 → parseFieldDescriptor (TX5 k).2.2.1 = some (tyX5 k) := by decide +kernel
abbrev cX5_init : ByteArray := prog_1_method_1_code
def yX5_init : MethodName := ⟨RX5, "<init>", "()V"⟩
abbrev cX5_set : ByteArray := prog_1_method_2_code
def yX5_set : MethodName := ⟨RX5, "set", "(II)I"⟩
abbrev cX5_place : ByteArray := prog_1_method_3_code
def yX5_place : MethodName := ⟨RX5, "place", "(IIII)I"⟩
abbrev cX5_close : ByteArray := prog_1_method_4_code
def yX5_close : MethodName := ⟨RX5, "close", "(IZ)I"⟩
abbrev cX5_team : ByteArray := prog_1_method_5_code
def yX5_team : MethodName := ⟨RX5, "team", "(I)I"⟩
abbrev cX5_route : ByteArray := prog_1_method_6_code
def yX5_route : MethodName := ⟨RX5, "route", "(I)I"⟩
abbrev cX5_leave : ByteArray := prog_1_method_7_code
def yX5_leave : MethodName := ⟨RX5, "leave", "(I)I"⟩
abbrev cX5_start : ByteArray := prog_1_method_8_code
def yX5_start : MethodName := ⟨RX5, "start", "(II)I"⟩
abbrev cX5_hint : ByteArray := prog_1_method_9_code
def yX5_hint : MethodName := ⟨RX5, "hint", "(IIZ)I"⟩
abbrev cX5_lose : ByteArray := prog_1_method_10_code
def yX5_lose : MethodName := ⟨RX5, "lose", "(II)I"⟩
abbrev cX5_exchange : ByteArray := prog_1_method_12_code
def yX5_exchange : MethodName := ⟨RX5, "exchange", "(III)I"⟩
abbrev cX5_visit : ByteArray := prog_1_method_14_code
def yX5_visit : MethodName := ⟨RX5, "visit", "(III)I"⟩
abbrev cX5_teamOf : ByteArray := prog_1_method_15_code
def yX5_teamOf : MethodName := ⟨RX5, "teamOf", "(II)I"⟩
abbrev cX5_placeOf : ByteArray := prog_1_method_16_code
def yX5_placeOf : MethodName := ⟨RX5, "placeOf", "(II)I"⟩
abbrev cX5_where : ByteArray := prog_1_method_17_code
def yX5_where : MethodName := ⟨RX5, "where", "(II)I"⟩
abbrev cX5_told : ByteArray := prog_1_method_18_code
def yX5_told : MethodName := ⟨RX5, "told", "(II)I"⟩
abbrev cX5_count : ByteArray := prog_1_method_19_code
def yX5_count : MethodName := ⟨RX5, "count", "(I)I"⟩
abbrev cX5_put : ByteArray := prog_1_method_24_code
def yX5_put : MethodName := ⟨RX5, "put", "(J)I"⟩
abbrev cX5_wipe : ByteArray := prog_1_method_25_code
def yX5_wipe : MethodName := ⟨RX5, "wipe", "()I"⟩
abbrev cX5_isFrom : ByteArray := prog_1_method_30_code
def yX5_isFrom : MethodName := ⟨RX5, "isFrom", "(III)Z"⟩
abbrev cX5_isPlace : ByteArray := prog_1_method_31_code
def yX5_isPlace : MethodName := ⟨RX5, "isPlace", "(I)Z"⟩
abbrev cX5_isTeam : ByteArray := prog_1_method_32_code
def yX5_isTeam : MethodName := ⟨RX5, "isTeam", "(I)Z"⟩
abbrev cX5_isInRoute : ByteArray := prog_1_method_33_code
def yX5_isInRoute : MethodName := ⟨RX5, "isInRoute", "(II)Z"⟩
abbrev cX5_playNow : ByteArray := prog_1_method_34_code
def yX5_playNow : MethodName := ⟨RX5, "playNow", "()V"⟩
abbrev cX5_endNow : ByteArray := prog_1_method_35_code
def yX5_endNow : MethodName := ⟨RX5, "endNow", "(I)I"⟩
def RX6 : String := "TrailTeamsModel"
def TX6 : u_T := fun k => match k with
  | _ => ("", "", "", false)
def tyX6 : Nat → FieldType := fun k => match k with
  | _ => .int
abbrev wsX60 : List Cond := u_ws RX6 TX6 0
theorem nmX6 : ∀ a, a < 0 → ∀ b, b < 0 → a ≠ b → (TX6 a).2.1 ≠ (TX6 b).2.1 := by decide +kernel
theorem tyX6_ok : ∀ k, k < 0 → parseFieldDescriptor (TX6 k).2.2.1 = some (tyX6 k) := by decide +kernel
def RJ6 : String := "java/lang/Integer"
def TJ6 : u_T := fun k => match k with
  | _ => ("", "", "", false)
def tyJ6 : Nat → FieldType := fun k => match k with
  | _ => .int
abbrev wsJ60 : List Cond := u_ws RJ6 TJ6 0
theorem nmJ6 : ∀ a, a < 0 → ∀ b, b < 0 → a ≠ b → (TJ6 a).2.1 ≠ (TJ6 b).2.1 := by decide +kernel
theorem tyJ6_ok : ∀ k, k < 0 → parseFieldDescriptor (TJ6 k).2.2.1 = some (tyJ6 k) := by decide +kernel
abbrev cJ6_bitCount_0f7a4 : ByteArray := prog_9_method_49_code
def yJ6_bitCount_0f7a4 : MethodName := ⟨RJ6, "bitCount", "(I)I"⟩
def RJ9 : String := "java/lang/Math"
def TJ9 : u_T := fun k => match k with
  | _ => ("", "", "", false)
def tyJ9 : Nat → FieldType := fun k => match k with
  | _ => .int
abbrev wsJ90 : List Cond := u_ws RJ9 TJ9 0
theorem nmJ9 : ∀ a, a < 0 → ∀ b, b < 0 → a ≠ b → (TJ9 a).2.1 ≠ (TJ9 b).2.1 := by decide +kernel
theorem tyJ9_ok : ∀ k, k < 0 → parseFieldDescriptor (TJ9 k).2.2.1 = some (tyJ9 k) := by decide +kernel
abbrev cJ9_abs_0f7a4 : ByteArray := prog_10_method_59_code
def yJ9_abs_0f7a4 : MethodName := ⟨RJ9, "abs", "(I)I"⟩
abbrev cJ9_max_7cf53 : ByteArray := prog_10_method_65_code
def yJ9_max_7cf53 : MethodName := ⟨RJ9, "max", "(II)I"⟩
abbrev cJ9_min_7cf53 : ByteArray := prog_10_method_69_code
def yJ9_min_7cf53 : MethodName := ⟨RJ9, "min", "(II)I"⟩
def RJ10 : String := "java/lang/System"
def TJ10 : u_T := fun k => match k with
  | _ => ("", "", "", false)
def tyJ10 : Nat → FieldType := fun k => match k with
  | _ => .int
abbrev wsJ100 : List Cond := u_ws RJ10 TJ10 0
theorem nmJ10 : ∀ a, a < 0 → ∀ b, b < 0 → a ≠ b → (TJ10 a).2.1 ≠ (TJ10 b).2.1 := by decide +kernel
theorem tyJ10_ok : ∀ k, k < 0 → parseFieldDescriptor (TJ10 k).2.2.1 = some (tyJ10 k) := by decide +kernel
def RJ7 : String := "java/util/Arrays"
def TJ7 : u_T := fun k => match k with
  | _ => ("", "", "", false)
def tyJ7 : Nat → FieldType := fun k => match k with
  | _ => .int
abbrev wsJ70 : List Cond := u_ws RJ7 TJ7 0
theorem nmJ7 : ∀ a, a < 0 → ∀ b, b < 0 → a ≠ b → (TJ7 a).2.1 ≠ (TJ7 b).2.1 := by decide +kernel
theorem tyJ7_ok : ∀ k, k < 0 → parseFieldDescriptor (TJ7 k).2.2.1 = some (tyJ7 k) := by decide +kernel
abbrev cJ7_fill_53178 : ByteArray := prog_12_method_103_code
def yJ7_fill_53178 : MethodName := ⟨RJ7, "fill", "([II)V"⟩
def RL : String := "TrailTeamsLaw"
abbrev cL_cell : ByteArray := method_2_code
def yL_cell : MethodName := ⟨RL, "cell", "([II)I"⟩
abbrev cL_low : ByteArray := method_3_code
def yL_low : MethodName := ⟨RL, "low", "(II)I"⟩
abbrev cL_size : ByteArray := method_4_code
def yL_size : MethodName := ⟨RL, "size", "(I)I"⟩
abbrev cL_way : ByteArray := method_5_code
def yL_way : MethodName := ⟨RL, "way", "(LTrailTeams;[I[I[II)Z"⟩
abbrev cL_visit : ByteArray := method_6_code
def yL_visit : MethodName := ⟨RL, "visit", "(LTrailTeams;II)I"⟩
abbrev cL_place : ByteArray := method_7_code
def yL_place : MethodName := ⟨RL, "place", "(LTrailTeams;[II)Z"⟩
abbrev cL_game : ByteArray := method_8_code
def yL_game : MethodName := ⟨RL, "game", "(LTrailTeams;[I[I[I)Z"⟩
abbrev cL_write : ByteArray := method_9_code
def yL_write : MethodName := ⟨RL, "write", "(LTrailTeams;[III)V"⟩
abbrev cL_act : ByteArray := method_10_code
def yL_act : MethodName := ⟨RL, "act", "(LTrailTeams;[I[I[III)Z"⟩
abbrev cL_law : ByteArray := code
def yL_law : MethodName := ⟨RL, "law", "([I)Z"⟩
abbrev vwCl : List vw_C := [(RX0, TX0, 11), (RX1, TX1, 3), (RX2, TX2, 2), (RX3, TX3, 7), (RX4, TX4, 5), (RX5, TX5, 7)]
