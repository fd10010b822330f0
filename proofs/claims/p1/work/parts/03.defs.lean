/-! ===== BEGIN printed: names, fields, word lists, decode rows ===== -/
def RX0 : String := "VoussoirYard$BlockKind"
def TX0 : u_T := fun k => match k with
  | 0 => ("VoussoirYard$BlockKind", "width", "I", true)
  | 1 => ("VoussoirYard$BlockKind", "height", "I", true)
  | 2 => ("VoussoirYard$BlockKind", "price", "I", true)
  | 3 => ("VoussoirYard$BlockKind", "isBedded", "Z", true)
  | _ => ("VoussoirYard$BlockKind", "left", "I", false)
def tyX0 : Nat → FieldType := fun k => match k with
  | 0 => .int
  | 1 => .int
  | 2 => .int
  | 3 => .boolean
  | _ => .int
abbrev wsX00 : List Cond := u_ws RX0 TX0 5
theorem nmX0 : ∀ a, a < 5 → ∀ b, b < 5 → a ≠ b → (TX0 a).2.1 ≠ (TX0 b).2.1 := by decide +kernel
theorem tyX0_ok : ∀ k, k < 5 → parseFieldDescriptor (TX0 k).2.2.1 = some (tyX0 k) := by decide +kernel
abbrev cX0_init : ByteArray := prog_2_method_1_code
def yX0_init : MethodName := ⟨RX0, "<init>", "(IIIIZ)V"⟩
abbrev cX0_doubledArea : ByteArray := prog_2_method_2_code
def yX0_doubledArea : MethodName := ⟨RX0, "doubledArea", "()I"⟩
abbrev cX0_canGive : ByteArray := prog_2_method_3_code
def yX0_canGive : MethodName := ⟨RX0, "canGive", "(LVoussoirYard$Quad;)Z"⟩
def RX1 : String := "VoussoirYard$Drawing"
def TX1 : u_T := fun k => match k with
  | 0 => ("VoussoirYard$Drawing", "joints", "[LVoussoirYard$Joint;", true)
  | 1 => ("VoussoirYard$Drawing", "proposed", "LVoussoirYard$Joint;", true)
  | 2 => ("VoussoirYard$Drawing", "quad", "LVoussoirYard$Quad;", true)
  | 3 => ("VoussoirYard$Drawing", "count", "I", false)
  | 4 => ("VoussoirYard$Drawing", "version", "I", false)
  | _ => ("VoussoirYard$Drawing", "density", "I", false)
def tyX1 : Nat → FieldType := fun k => match k with
  | 0 => .array (.object "VoussoirYard$Joint")
  | 1 => .object "VoussoirYard$Joint"
  | 2 => .object "VoussoirYard$Quad"
  | 3 => .int
  | 4 => .int
  | _ => .int
abbrev wsX10 : List Cond := u_ws RX1 TX1 6
theorem nmX1 : ∀ a, a < 6 → ∀ b, b < 6 → a ≠ b → (TX1 a).2.1 ≠ (TX1 b).2.1 := by decide +kernel
theorem tyX1_ok : ∀ k, k < 6 → parseFieldDescriptor (TX1 k).2.2.1 = some (tyX1 k) := by decide +kernel
abbrev cX1_init : ByteArray := prog_3_method_1_code
def yX1_init : MethodName := ⟨RX1, "<init>", "()V"⟩
abbrev cX1_jointAt : ByteArray := prog_3_method_2_code
def yX1_jointAt : MethodName := ⟨RX1, "jointAt", "(I)LVoussoirYard$Joint;"⟩
abbrev cX1_placeCount : ByteArray := prog_3_method_3_code
def yX1_placeCount : MethodName := ⟨RX1, "placeCount", "()I"⟩
abbrev cX1_hasPlace : ByteArray := prog_3_method_4_code
def yX1_hasPlace : MethodName := ⟨RX1, "hasPlace", "(I)Z"⟩
abbrev cX1_propose : ByteArray := prog_3_method_5_code
def yX1_propose : MethodName := ⟨RX1, "propose", "(IIII)V"⟩
abbrev cX1_allowsProposal : ByteArray := prog_3_method_6_code
def yX1_allowsProposal : MethodName := ⟨RX1, "allowsProposal", "(I)Z"⟩
abbrev cX1_wouldTurnLeft : ByteArray := prog_3_method_7_code
def yX1_wouldTurnLeft : MethodName := ⟨RX1, "wouldTurnLeft", "(LVoussoirYard$Joint;LVoussoirYard$Joint;)Z"⟩
abbrev cX1_acceptNewJoint : ByteArray := prog_3_method_8_code
def yX1_acceptNewJoint : MethodName := ⟨RX1, "acceptNewJoint", "()V"⟩
abbrev cX1_acceptMovedJoint : ByteArray := prog_3_method_9_code
def yX1_acceptMovedJoint : MethodName := ⟨RX1, "acceptMovedJoint", "(I)V"⟩
abbrev cX1_quadOf : ByteArray := prog_3_method_10_code
def yX1_quadOf : MethodName := ⟨RX1, "quadOf", "(I)LVoussoirYard$Quad;"⟩
abbrev cX1_areaOf : ByteArray := prog_3_method_11_code
def yX1_areaOf : MethodName := ⟨RX1, "areaOf", "(I)I"⟩
abbrev cX1_weightOf : ByteArray := prog_3_method_12_code
def yX1_weightOf : MethodName := ⟨RX1, "weightOf", "(I)I"⟩
abbrev cX1_areaOfAll : ByteArray := prog_3_method_13_code
def yX1_areaOfAll : MethodName := ⟨RX1, "areaOfAll", "()I"⟩
abbrev cX1_weightOfAll : ByteArray := prog_3_method_14_code
def yX1_weightOfAll : MethodName := ⟨RX1, "weightOfAll", "()I"⟩
abbrev cX1_areaGoneRound : ByteArray := prog_3_method_15_code
def yX1_areaGoneRound : MethodName := ⟨RX1, "areaGoneRound", "()I"⟩
def RX2 : String := "VoussoirYard$Joint"
def TX2 : u_T := fun k => match k with
  | 0 => ("VoussoirYard$Joint", "innerX", "I", false)
  | 1 => ("VoussoirYard$Joint", "innerY", "I", false)
  | 2 => ("VoussoirYard$Joint", "outerX", "I", false)
  | _ => ("VoussoirYard$Joint", "outerY", "I", false)
def tyX2 : Nat → FieldType := fun k => match k with
  | 0 => .int
  | 1 => .int
  | 2 => .int
  | _ => .int
abbrev wsX20 : List Cond := u_ws RX2 TX2 4
theorem nmX2 : ∀ a, a < 4 → ∀ b, b < 4 → a ≠ b → (TX2 a).2.1 ≠ (TX2 b).2.1 := by decide +kernel
theorem tyX2_ok : ∀ k, k < 4 → parseFieldDescriptor (TX2 k).2.2.1 = some (tyX2 k) := by decide +kernel
abbrev cX2_init : ByteArray := prog_4_method_1_code
def yX2_init : MethodName := ⟨RX2, "<init>", "()V"⟩
abbrev cX2_moveTo : ByteArray := prog_4_method_2_code
def yX2_moveTo : MethodName := ⟨RX2, "moveTo", "(IIII)V"⟩
abbrev cX2_hasLength : ByteArray := prog_4_method_3_code
def yX2_hasLength : MethodName := ⟨RX2, "hasLength", "()Z"⟩
def RX3 : String := "VoussoirYard$Mason"
def TX3 : u_T := fun k => match k with
  | 0 => ("VoussoirYard$Mason", "letter", "C", true)
  | 1 => ("VoussoirYard$Mason", "skill", "I", true)
  | 2 => ("VoussoirYard$Mason", "pay", "I", true)
  | 3 => ("VoussoirYard$Mason", "freeOn", "I", false)
  | _ => ("VoussoirYard$Mason", "told", "I", false)
def tyX3 : Nat → FieldType := fun k => match k with
  | 0 => .char
  | 1 => .int
  | 2 => .int
  | 3 => .int
  | _ => .int
abbrev wsX30 : List Cond := u_ws RX3 TX3 5
theorem nmX3 : ∀ a, a < 5 → ∀ b, b < 5 → a ≠ b → (TX3 a).2.1 ≠ (TX3 b).2.1 := by decide +kernel
theorem tyX3_ok : ∀ k, k < 5 → parseFieldDescriptor (TX3 k).2.2.1 = some (tyX3 k) := by decide +kernel
abbrev cX3_init : ByteArray := prog_5_method_1_code
def yX3_init : MethodName := ⟨RX3, "<init>", "(CII)V"⟩
abbrev cX3_markFor : ByteArray := prog_5_method_2_code
def yX3_markFor : MethodName := ⟨RX3, "markFor", "(II)Ljava/lang/String;"⟩
abbrev cX3_finish : ByteArray := prog_5_method_3_code
def yX3_finish : MethodName := ⟨RX3, "finish", "(II)I"⟩
def RX4 : String := "VoussoirYard$Quad"
def TX4 : u_T := fun k => match k with
  | 0 => ("VoussoirYard$Quad", "x", "[I", true)
  | _ => ("VoussoirYard$Quad", "y", "[I", true)
def tyX4 : Nat → FieldType := fun k => match k with
  | 0 => .array .int
  | _ => .array .int
abbrev wsX40 : List Cond := u_ws RX4 TX4 2
theorem nmX4 : ∀ a, a < 2 → ∀ b, b < 2 → a ≠ b → (TX4 a).2.1 ≠ (TX4 b).2.1 := by decide +kernel
theorem tyX4_ok : ∀ k, k < 2 → parseFieldDescriptor (TX4 k).2.2.1 = some (tyX4 k) := by decide +kernel
abbrev cX4_init : ByteArray := prog_6_method_1_code
def yX4_init : MethodName := ⟨RX4, "<init>", "()V"⟩
abbrev cX4_stretch : ByteArray := prog_6_method_2_code
def yX4_stretch : MethodName := ⟨RX4, "stretch", "(LVoussoirYard$Joint;LVoussoirYard$Joint;)V"⟩
abbrev cX4_copyFrom : ByteArray := prog_6_method_3_code
def yX4_copyFrom : MethodName := ⟨RX4, "copyFrom", "(LVoussoirYard$Quad;)V"⟩
abbrev cX4_turnsLeftEverywhere : ByteArray := prog_6_method_4_code
def yX4_turnsLeftEverywhere : MethodName := ⟨RX4, "turnsLeftEverywhere", "()Z"⟩
abbrev cX4_doubledArea : ByteArray := prog_6_method_5_code
def yX4_doubledArea : MethodName := ⟨RX4, "doubledArea", "()I"⟩
abbrev cX4_lightWeight : ByteArray := prog_6_method_6_code
def yX4_lightWeight : MethodName := ⟨RX4, "lightWeight", "()I"⟩
abbrev cX4_lightMoment : ByteArray := prog_6_method_7_code
def yX4_lightMoment : MethodName := ⟨RX4, "lightMoment", "()I"⟩
abbrev cX4_widest : ByteArray := prog_6_method_8_code
def yX4_widest : MethodName := ⟨RX4, "widest", "()I"⟩
abbrev cX4_highest : ByteArray := prog_6_method_9_code
def yX4_highest : MethodName := ⟨RX4, "highest", "()I"⟩
abbrev cX4_greatestDifference : ByteArray := prog_6_method_10_code
def yX4_greatestDifference : MethodName := ⟨RX4, "greatestDifference", "([I)I"⟩
abbrev cX4_looksLike : ByteArray := prog_6_method_11_code
def yX4_looksLike : MethodName := ⟨RX4, "looksLike", "(LVoussoirYard$Quad;)Z"⟩
def RX5 : String := "VoussoirYard$Stone"
def TX5 : u_T := fun k => match k with
  | 0 => ("VoussoirYard$Stone", "shape", "LVoussoirYard$Quad;", true)
  | 1 => ("VoussoirYard$Stone", "blockArea", "I", true)
  | 2 => ("VoussoirYard$Stone", "readyDay", "I", true)
  | 3 => ("VoussoirYard$Stone", "markText", "Ljava/lang/String;", true)
  | _ => ("VoussoirYard$Stone", "state", "C", false)
def tyX5 : Nat → FieldType := fun k => match k with
  | 0 => .object "VoussoirYard$Quad"
  | 1 => .int
  | 2 => .int
  | 3 => .object "java/lang/String"
  | _ => .char
abbrev wsX50 : List Cond := u_ws RX5 TX5 5
theorem nmX5 : ∀ a, a < 5 → ∀ b, b < 5 → a ≠ b → (TX5 a).2.1 ≠ (TX5 b).2.1 := by decide +kernel
theorem tyX5_ok : ∀ k, k < 5 → parseFieldDescriptor (TX5 k).2.2.1 = some (tyX5 k) := by decide +kernel
abbrev cX5_init : ByteArray := prog_7_method_1_code
def yX5_init : MethodName := ⟨RX5, "<init>", "(LVoussoirYard$Quad;IILjava/lang/String;)V"⟩
abbrev cX5_stateAt : ByteArray := prog_7_method_2_code
def yX5_stateAt : MethodName := ⟨RX5, "stateAt", "(I)C"⟩
def RX6 : String := "VoussoirYard$ThrustSearch"
def TX6 : u_T := fun k => match k with
  | 0 => ("VoussoirYard$ThrustSearch", "perH", "[J", true)
  | 1 => ("VoussoirYard$ThrustSearch", "perV", "[J", true)
  | 2 => ("VoussoirYard$ThrustSearch", "rest", "[J", true)
  | 3 => ("VoussoirYard$ThrustSearch", "conditions", "I", false)
  | 4 => ("VoussoirYard$ThrustSearch", "lostForce", "[J", true)
  | 5 => ("VoussoirYard$ThrustSearch", "lostMoment", "[J", true)
  | 6 => ("VoussoirYard$ThrustSearch", "leastTop", "J", false)
  | 7 => ("VoussoirYard$ThrustSearch", "leastDivisor", "J", false)
  | 8 => ("VoussoirYard$ThrustSearch", "mostTop", "J", false)
  | 9 => ("VoussoirYard$ThrustSearch", "mostDivisor", "J", false)
  | _ => ("VoussoirYard$ThrustSearch", "isPossible", "Z", false)
def tyX6 : Nat → FieldType := fun k => match k with
  | 0 => .array .long
  | 1 => .array .long
  | 2 => .array .long
  | 3 => .int
  | 4 => .array .long
  | 5 => .array .long
  | 6 => .long
  | 7 => .long
  | 8 => .long
  | 9 => .long
  | _ => .boolean
abbrev wsX60 : List Cond := u_ws RX6 TX6 11
theorem nmX6 : ∀ a, a < 11 → ∀ b, b < 11 → a ≠ b → (TX6 a).2.1 ≠ (TX6 b).2.1 := by decide +kernel
theorem tyX6_ok : ∀ k, k < 11 → parseFieldDescriptor (TX6 k).2.2.1 = some (tyX6 k) := by decide +kernel
abbrev cX6_init : ByteArray := prog_8_method_1_code
def yX6_init : MethodName := ⟨RX6, "<init>", "()V"⟩
abbrev cX6_finds : ByteArray := prog_8_method_2_code
def yX6_finds : MethodName := ⟨RX6, "finds", "(LVoussoirYard$Drawing;[II)Z"⟩
abbrev cX6_leastThrustRoundedUp : ByteArray := prog_8_method_3_code
def yX6_leastThrustRoundedUp : MethodName := ⟨RX6, "leastThrustRoundedUp", "()J"⟩
abbrev cX6_sumWeights : ByteArray := prog_8_method_4_code
def yX6_sumWeights : MethodName := ⟨RX6, "sumWeights", "(LVoussoirYard$Drawing;[I)V"⟩
abbrev cX6_addLines : ByteArray := prog_8_method_5_code
def yX6_addLines : MethodName := ⟨RX6, "addLines", "(LVoussoirYard$Drawing;I)V"⟩
abbrev cX6_momentAgainst : ByteArray := prog_8_method_6_code
def yX6_momentAgainst : MethodName := ⟨RX6, "momentAgainst", "(II)J"⟩
abbrev cX6_addGrip : ByteArray := prog_8_method_7_code
def yX6_addGrip : MethodName := ⟨RX6, "addGrip", "(LVoussoirYard$Joint;II)V"⟩
abbrev cX6_addCondition : ByteArray := prog_8_method_8_code
def yX6_addCondition : MethodName := ⟨RX6, "addCondition", "(JJJ)V"⟩
abbrev cX6_takeOutV : ByteArray := prog_8_method_9_code
def yX6_takeOutV : MethodName := ⟨RX6, "takeOutV", "()V"⟩
abbrev cX6_pairWithBoundsFromAbove : ByteArray := prog_8_method_10_code
def yX6_pairWithBoundsFromAbove : MethodName := ⟨RX6, "pairWithBoundsFromAbove", "(I)V"⟩
abbrev cX6_boundH : ByteArray := prog_8_method_11_code
def yX6_boundH : MethodName := ⟨RX6, "boundH", "(JJ)V"⟩
def RX7 : String := "VoussoirYard"
def TX7 : u_T := fun k => match k with
  | 0 => ("VoussoirYard", "drawing", "LVoussoirYard$Drawing;", true)
  | 1 => ("VoussoirYard", "search", "LVoussoirYard$ThrustSearch;", true)
  | 2 => ("VoussoirYard", "kinds", "[LVoussoirYard$BlockKind;", true)
  | 3 => ("VoussoirYard", "masons", "[LVoussoirYard$Mason;", true)
  | 4 => ("VoussoirYard", "stones", "[LVoussoirYard$Stone;", true)
  | 5 => ("VoussoirYard", "stoneOfPlace", "[I", true)
  | 6 => ("VoussoirYard", "loadOfPlace", "[I", true)
  | 7 => ("VoussoirYard", "triedLoads", "[I", true)
  | 8 => ("VoussoirYard", "kindCount", "I", false)
  | 9 => ("VoussoirYard", "masonCount", "I", false)
  | 10 => ("VoussoirYard", "stoneCount", "I", false)
  | 11 => ("VoussoirYard", "centreStrength", "I", false)
  | 12 => ("VoussoirYard", "isStanding", "Z", false)
  | 13 => ("VoussoirYard", "today", "I", false)
  | 14 => ("VoussoirYard", "lastSetDay", "I", false)
  | _ => ("VoussoirYard", "moneySpent", "J", false)
def tyX7 : Nat → FieldType := fun k => match k with
  | 0 => .object "VoussoirYard$Drawing"
  | 1 => .object "VoussoirYard$ThrustSearch"
  | 2 => .array (.object "VoussoirYard$BlockKind")
  | 3 => .array (.object "VoussoirYard$Mason")
  | 4 => .array (.object "VoussoirYard$Stone")
  | 5 => .array .int
  | 6 => .array .int
  | 7 => .array .int
  | 8 => .int
  | 9 => .int
  | 10 => .int
  | 11 => .int
  | 12 => .boolean
  | 13 => .int
  | 14 => .int
  | _ => .long
abbrev wsX70 : List Cond := u_ws RX7 TX7 16
theorem nmX7 : ∀ a, a < 16 → ∀ b, b < 16 → a ≠ b → (TX7 a).2.1 ≠ (TX7 b).2.1 := by decide +kernel
theorem tyX7_ok : ∀ k, k < 16 → parseFieldDescriptor (TX7 k).2.2.1 = some (tyX7 k) := by decide +kernel
abbrev cX7_init : ByteArray := prog_1_method_1_code
def yX7_init : MethodName := ⟨RX7, "<init>", "()V"⟩
abbrev cX7_drawJoint : ByteArray := prog_1_method_2_code
def yX7_drawJoint : MethodName := ⟨RX7, "drawJoint", "(IIII)I"⟩
abbrev cX7_moveJoint : ByteArray := prog_1_method_3_code
def yX7_moveJoint : MethodName := ⟨RX7, "moveJoint", "(IIIII)I"⟩
abbrev cX7_setDensity : ByteArray := prog_1_method_4_code
def yX7_setDensity : MethodName := ⟨RX7, "setDensity", "(I)I"⟩
abbrev cX7_places : ByteArray := prog_1_method_5_code
def yX7_places : MethodName := ⟨RX7, "places", "()I"⟩
abbrev cX7_area : ByteArray := prog_1_method_6_code
def yX7_area : MethodName := ⟨RX7, "area", "(I)I"⟩
abbrev cX7_weight : ByteArray := prog_1_method_7_code
def yX7_weight : MethodName := ⟨RX7, "weight", "(I)I"⟩
abbrev cX7_isOnPaper : ByteArray := prog_1_method_8_code
def yX7_isOnPaper : MethodName := ⟨RX7, "isOnPaper", "(II)Z"⟩
abbrev cX7_isSafe : ByteArray := prog_1_method_9_code
def yX7_isSafe : MethodName := ⟨RX7, "isSafe", "(I)Z"⟩
abbrev cX7_thrust : ByteArray := prog_1_method_10_code
def yX7_thrust : MethodName := ⟨RX7, "thrust", "(I)J"⟩
abbrev cX7_bears : ByteArray := prog_1_method_11_code
def yX7_bears : MethodName := ⟨RX7, "bears", "(II)I"⟩
abbrev cX7_grip : ByteArray := prog_1_method_12_code
def yX7_grip : MethodName := ⟨RX7, "grip", "()I"⟩
abbrev cX7_isGrip : ByteArray := prog_1_method_13_code
def yX7_isGrip : MethodName := ⟨RX7, "isGrip", "(I)Z"⟩
abbrev cX7_wouldBear : ByteArray := prog_1_method_14_code
def yX7_wouldBear : MethodName := ⟨RX7, "wouldBear", "(III)Z"⟩
abbrev cX7_addBlocks : ByteArray := prog_1_method_15_code
def yX7_addBlocks : MethodName := ⟨RX7, "addBlocks", "(IIIIZ)I"⟩
abbrev cX7_blocks : ByteArray := prog_1_method_16_code
def yX7_blocks : MethodName := ⟨RX7, "blocks", "(I)I"⟩
abbrev cX7_bestBlock : ByteArray := prog_1_method_17_code
def yX7_bestBlock : MethodName := ⟨RX7, "bestBlock", "(I)I"⟩
abbrev cX7_addMason : ByteArray := prog_1_method_18_code
def yX7_addMason : MethodName := ⟨RX7, "addMason", "(II)I"⟩
abbrev cX7_cut : ByteArray := prog_1_method_19_code
def yX7_cut : MethodName := ⟨RX7, "cut", "(III)I"⟩
abbrev cX7_isBetween : ByteArray := prog_1_method_20_code
def yX7_isBetween : MethodName := ⟨RX7, "isBetween", "(III)Z"⟩
abbrev cX7_kindAt : ByteArray := prog_1_method_21_code
def yX7_kindAt : MethodName := ⟨RX7, "kindAt", "(I)LVoussoirYard$BlockKind;"⟩
abbrev cX7_masonAt : ByteArray := prog_1_method_22_code
def yX7_masonAt : MethodName := ⟨RX7, "masonAt", "(I)LVoussoirYard$Mason;"⟩
abbrev cX7_readyOn : ByteArray := prog_1_method_23_code
def yX7_readyOn : MethodName := ⟨RX7, "readyOn", "(I)I"⟩
abbrev cX7_stateOf : ByteArray := prog_1_method_24_code
def yX7_stateOf : MethodName := ⟨RX7, "stateOf", "(I)C"⟩
abbrev cX7_mark : ByteArray := prog_1_method_25_code
def yX7_mark : MethodName := ⟨RX7, "mark", "(I)I"⟩
abbrev cX7_markAt : ByteArray := prog_1_method_26_code
def yX7_markAt : MethodName := ⟨RX7, "markAt", "(II)C"⟩
abbrev cX7_fits : ByteArray := prog_1_method_27_code
def yX7_fits : MethodName := ⟨RX7, "fits", "(II)Z"⟩
abbrev cX7_setCentre : ByteArray := prog_1_method_28_code
def yX7_setCentre : MethodName := ⟨RX7, "setCentre", "(I)I"⟩
abbrev cX7_set : ByteArray := prog_1_method_29_code
def yX7_set : MethodName := ⟨RX7, "set", "(II)I"⟩
abbrev cX7_stoneIn : ByteArray := prog_1_method_30_code
def yX7_stoneIn : MethodName := ⟨RX7, "stoneIn", "(I)I"⟩
abbrev cX7_strike : ByteArray := prog_1_method_31_code
def yX7_strike : MethodName := ⟨RX7, "strike", "()J"⟩
abbrev cX7_load : ByteArray := prog_1_method_32_code
def yX7_load : MethodName := ⟨RX7, "load", "(II)Z"⟩
abbrev cX7_stands : ByteArray := prog_1_method_33_code
def yX7_stands : MethodName := ⟨RX7, "stands", "()Z"⟩
abbrev cX7_pass : ByteArray := prog_1_method_34_code
def yX7_pass : MethodName := ⟨RX7, "pass", "(I)I"⟩
abbrev cX7_stoneAt : ByteArray := prog_1_method_35_code
def yX7_stoneAt : MethodName := ⟨RX7, "stoneAt", "(I)LVoussoirYard$Stone;"⟩
abbrev cX7_stoneOf : ByteArray := prog_1_method_36_code
def yX7_stoneOf : MethodName := ⟨RX7, "stoneOf", "(I)I"⟩
abbrev cX7_isFilled : ByteArray := prog_1_method_37_code
def yX7_isFilled : MethodName := ⟨RX7, "isFilled", "(I)Z"⟩
abbrev cX7_filledPlaces : ByteArray := prog_1_method_38_code
def yX7_filledPlaces : MethodName := ⟨RX7, "filledPlaces", "()I"⟩
abbrev cX7_isWholeArchFilled : ByteArray := prog_1_method_39_code
def yX7_isWholeArchFilled : MethodName := ⟨RX7, "isWholeArchFilled", "()Z"⟩
abbrev cX7_canBeFilled : ByteArray := prog_1_method_40_code
def yX7_canBeFilled : MethodName := ⟨RX7, "canBeFilled", "(I)Z"⟩
abbrev cX7_centreWouldBear : ByteArray := prog_1_method_41_code
def yX7_centreWouldBear : MethodName := ⟨RX7, "centreWouldBear", "(I)Z"⟩
abbrev cX7_isSafeWithMortar : ByteArray := prog_1_method_42_code
def yX7_isSafeWithMortar : MethodName := ⟨RX7, "isSafeWithMortar", "()Z"⟩
abbrev cX7_fall : ByteArray := prog_1_method_43_code
def yX7_fall : MethodName := ⟨RX7, "fall", "()V"⟩
abbrev cX7_spent : ByteArray := prog_1_method_44_code
def yX7_spent : MethodName := ⟨RX7, "spent", "()J"⟩
abbrev cX7_waste : ByteArray := prog_1_method_45_code
def yX7_waste : MethodName := ⟨RX7, "waste", "()I"⟩
abbrev cX7_usedShare : ByteArray := prog_1_method_46_code
def yX7_usedShare : MethodName := ⟨RX7, "usedShare", "()F"⟩
abbrev cX7_meanArea : ByteArray := prog_1_method_47_code
def yX7_meanArea : MethodName := ⟨RX7, "meanArea", "()D"⟩
abbrev cX7_isSound : ByteArray := prog_1_method_48_code
def yX7_isSound : MethodName := ⟨RX7, "isSound", "()Z"⟩
abbrev cX7_areaOfUsedBlocks : ByteArray := prog_1_method_49_code
def yX7_areaOfUsedBlocks : MethodName := ⟨RX7, "areaOfUsedBlocks", "()I"⟩
abbrev cX7_areaOfStones : ByteArray := prog_1_method_50_code
def yX7_areaOfStones : MethodName := ⟨RX7, "areaOfStones", "()I"⟩
abbrev cX7_areSetStonesFitting : ByteArray := prog_1_method_51_code
def yX7_areSetStonesFitting : MethodName := ⟨RX7, "areSetStonesFitting", "()Z"⟩
abbrev cX7_frostFreeDaysBefore : ByteArray := prog_1_method_52_code
def yX7_frostFreeDaysBefore : MethodName := ⟨RX7, "frostFreeDaysBefore", "(I)I"⟩
abbrev cX7_dayBehindWork : ByteArray := prog_1_method_53_code
def yX7_dayBehindWork : MethodName := ⟨RX7, "dayBehindWork", "(II)I"⟩
abbrev cX7_cross : ByteArray := prog_1_method_54_code
def yX7_cross : MethodName := ⟨RX7, "cross", "(IIII)I"⟩
def RX8 : String := "VoussoirYardModel$Blocks"
def TX8 : u_T := fun k => match k with
  | 0 => ("VoussoirYardModel$Blocks", "width", "I", true)
  | 1 => ("VoussoirYardModel$Blocks", "height", "I", true)
  | 2 => ("VoussoirYardModel$Blocks", "price", "I", true)
  | 3 => ("VoussoirYardModel$Blocks", "bedded", "Z", true)
  | _ => ("VoussoirYardModel$Blocks", "left", "I", false)
def tyX8 : Nat → FieldType := fun k => match k with
  | 0 => .int
  | 1 => .int
  | 2 => .int
  | 3 => .boolean
  | _ => .int
abbrev wsX80 : List Cond := u_ws RX8 TX8 5
theorem nmX8 : ∀ a, a < 5 → ∀ b, b < 5 → a ≠ b → (TX8 a).2.1 ≠ (TX8 b).2.1 := by decide +kernel
theorem tyX8_ok : ∀ k, k < 5 → parseFieldDescriptor (TX8 k).2.2.1 = some (tyX8 k) := by decide +kernel
abbrev cX8_init : ByteArray := prog_11_method_1_code
def yX8_init : MethodName := ⟨RX8, "<init>", "(IIIIZ)V"⟩
def RX9 : String := "VoussoirYardModel$Mason"
def TX9 : u_T := fun k => match k with
  | 0 => ("VoussoirYardModel$Mason", "skill", "I", true)
  | 1 => ("VoussoirYardModel$Mason", "pay", "I", true)
  | 2 => ("VoussoirYardModel$Mason", "free", "I", false)
  | _ => ("VoussoirYardModel$Mason", "begun", "I", false)
def tyX9 : Nat → FieldType := fun k => match k with
  | 0 => .int
  | 1 => .int
  | 2 => .int
  | _ => .int
abbrev wsX90 : List Cond := u_ws RX9 TX9 4
theorem nmX9 : ∀ a, a < 4 → ∀ b, b < 4 → a ≠ b → (TX9 a).2.1 ≠ (TX9 b).2.1 := by decide +kernel
theorem tyX9_ok : ∀ k, k < 4 → parseFieldDescriptor (TX9 k).2.2.1 = some (tyX9 k) := by decide +kernel
abbrev cX9_init : ByteArray := prog_12_method_1_code
def yX9_init : MethodName := ⟨RX9, "<init>", "(II)V"⟩
def RX10 : String := "VoussoirYardModel$Stone"
def TX10 : u_T := fun k => match k with
  | 0 => ("VoussoirYardModel$Stone", "shape", "[I", true)
  | 1 => ("VoussoirYardModel$Stone", "ready", "I", true)
  | 2 => ("VoussoirYardModel$Stone", "mark", "Ljava/lang/String;", true)
  | _ => ("VoussoirYardModel$Stone", "state", "C", false)
def tyX10 : Nat → FieldType := fun k => match k with
  | 0 => .array .int
  | 1 => .int
  | 2 => .object "java/lang/String"
  | _ => .char
abbrev wsX100 : List Cond := u_ws RX10 TX10 4
theorem nmX10 : ∀ a, a < 4 → ∀ b, b < 4 → a ≠ b → (TX10 a).2.1 ≠ (TX10 b).2.1 := by decide +kernel
theorem tyX10_ok : ∀ k, k < 4 → parseFieldDescriptor (TX10 k).2.2.1 = some (tyX10 k) := by decide +kernel
abbrev cX10_init : ByteArray := prog_13_method_1_code
def yX10_init : MethodName := ⟨RX10, "<init>", "([IILjava/lang/String;)V"⟩
def RX11 : String := "VoussoirYardModel"
def TX11 : u_T := fun k => match k with
  | 0 => ("VoussoirYardModel", "joints", "Ljava/util/List;", true)
  | 1 => ("VoussoirYardModel", "quarry", "Ljava/util/List;", true)
  | 2 => ("VoussoirYardModel", "masons", "Ljava/util/List;", true)
  | 3 => ("VoussoirYardModel", "stones", "Ljava/util/List;", true)
  | 4 => ("VoussoirYardModel", "filled", "[I", true)
  | 5 => ("VoussoirYardModel", "loads", "[I", true)
  | 6 => ("VoussoirYardModel", "thrown", "I", false)
  | 7 => ("VoussoirYardModel", "version", "I", false)
  | 8 => ("VoussoirYardModel", "density", "I", false)
  | 9 => ("VoussoirYardModel", "day", "I", false)
  | 10 => ("VoussoirYardModel", "strength", "I", false)
  | 11 => ("VoussoirYardModel", "waste", "I", false)
  | 12 => ("VoussoirYardModel", "used", "I", false)
  | 13 => ("VoussoirYardModel", "cut", "I", false)
  | 14 => ("VoussoirYardModel", "set", "I", false)
  | 15 => ("VoussoirYardModel", "stands", "Z", false)
  | _ => ("VoussoirYardModel", "spent", "J", false)
def tyX11 : Nat → FieldType := fun k => match k with
  | 0 => .object "java/util/List"
  | 1 => .object "java/util/List"
  | 2 => .object "java/util/List"
  | 3 => .object "java/util/List"
  | 4 => .array .int
  | 5 => .array .int
  | 6 => .int
  | 7 => .int
  | 8 => .int
  | 9 => .int
  | 10 => .int
  | 11 => .int
  | 12 => .int
  | 13 => .int
  | 14 => .int
  | 15 => .boolean
  | _ => .long
abbrev wsX110 : List Cond := u_ws RX11 TX11 17
theorem nmX11 : ∀ a, a < 17 → ∀ b, b < 17 → a ≠ b → (TX11 a).2.1 ≠ (TX11 b).2.1 := by decide +kernel
theorem tyX11_ok : ∀ k, k < 17 → parseFieldDescriptor (TX11 k).2.2.1 = some (tyX11 k) := by decide +kernel
abbrev cX11_init : ByteArray := prog_10_method_1_code
def yX11_init : MethodName := ⟨RX11, "<init>", "()V"⟩
abbrev cX11_thrown : ByteArray := prog_10_method_2_code
def yX11_thrown : MethodName := ⟨RX11, "thrown", "()I"⟩
abbrev cX11_refuse : ByteArray := prog_10_method_3_code
def yX11_refuse : MethodName := ⟨RX11, "refuse", "(I)I"⟩
abbrev cX11_isIn : ByteArray := prog_10_method_4_code
def yX11_isIn : MethodName := ⟨RX11, "isIn", "(JJJ)Z"⟩
abbrev cX11_no : ByteArray := prog_10_method_5_code
def yX11_no : MethodName := ⟨RX11, "no", "(ZI)Z"⟩
abbrev cX11_many : ByteArray := prog_10_method_6_code
def yX11_many : MethodName := ⟨RX11, "many", "()I"⟩
abbrev cX11_isPlace : ByteArray := prog_10_method_7_code
def yX11_isPlace : MethodName := ⟨RX11, "isPlace", "(I)Z"⟩
abbrev cX11_noPlace : ByteArray := prog_10_method_8_code
def yX11_noPlace : MethodName := ⟨RX11, "noPlace", "(I)Z"⟩
abbrev cX11_corners : ByteArray := prog_10_method_9_code
def yX11_corners : MethodName := ⟨RX11, "corners", "([I[I)[I"⟩
abbrev cX11_turns : ByteArray := prog_10_method_10_code
def yX11_turns : MethodName := ⟨RX11, "turns", "([I[I)Z"⟩
abbrev cX11_isJoint : ByteArray := prog_10_method_11_code
def yX11_isJoint : MethodName := ⟨RX11, "isJoint", "([I)Z"⟩
abbrev cX11_standing : ByteArray := prog_10_method_12_code
def yX11_standing : MethodName := ⟨RX11, "standing", "()I"⟩
abbrev cX11_drawJoint : ByteArray := prog_10_method_13_code
def yX11_drawJoint : MethodName := ⟨RX11, "drawJoint", "(IIII)I"⟩
abbrev cX11_moveJoint : ByteArray := prog_10_method_14_code
def yX11_moveJoint : MethodName := ⟨RX11, "moveJoint", "(IIIII)I"⟩
abbrev cX11_setDensity : ByteArray := prog_10_method_15_code
def yX11_setDensity : MethodName := ⟨RX11, "setDensity", "(I)I"⟩
abbrev cX11_places : ByteArray := prog_10_method_16_code
def yX11_places : MethodName := ⟨RX11, "places", "()I"⟩
abbrev cX11_shapeOf : ByteArray := prog_10_method_17_code
def yX11_shapeOf : MethodName := ⟨RX11, "shapeOf", "(I)[I"⟩
abbrev cX11_areaOf : ByteArray := prog_10_method_18_code
def yX11_areaOf : MethodName := ⟨RX11, "areaOf", "(I)I"⟩
abbrev cX11_momentOf : ByteArray := prog_10_method_19_code
def yX11_momentOf : MethodName := ⟨RX11, "momentOf", "(I)J"⟩
abbrev cX11_weightOf : ByteArray := prog_10_method_20_code
def yX11_weightOf : MethodName := ⟨RX11, "weightOf", "(I)I"⟩
abbrev cX11_area : ByteArray := prog_10_method_21_code
def yX11_area : MethodName := ⟨RX11, "area", "(I)I"⟩
abbrev cX11_weight : ByteArray := prog_10_method_22_code
def yX11_weight : MethodName := ⟨RX11, "weight", "(I)I"⟩
abbrev cX11_conditions : ByteArray := prog_10_method_23_code
def yX11_conditions : MethodName := ⟨RX11, "conditions", "(I)Ljava/util/List;"⟩
abbrev cX11_det : ByteArray := prog_10_method_24_code
def yX11_det : MethodName := ⟨RX11, "det", "([J[J[JIII)J"⟩
abbrev cX11_least : ByteArray := prog_10_method_25_code
def yX11_least : MethodName := ⟨RX11, "least", "(I)[J"⟩
abbrev cX11_meets : ByteArray := prog_10_method_26_code
def yX11_meets : MethodName := ⟨RX11, "meets", "(Ljava/util/List;[J[J[JJ)Z"⟩
abbrev cX11_isGrip : ByteArray := prog_10_method_27_code
def yX11_isGrip : MethodName := ⟨RX11, "isGrip", "(I)Z"⟩
abbrev cX11_isSafe : ByteArray := prog_10_method_28_code
def yX11_isSafe : MethodName := ⟨RX11, "isSafe", "(I)Z"⟩
abbrev cX11_up : ByteArray := prog_10_method_29_code
def yX11_up : MethodName := ⟨RX11, "up", "([J)J"⟩
abbrev cX11_thrust : ByteArray := prog_10_method_30_code
def yX11_thrust : MethodName := ⟨RX11, "thrust", "(I)J"⟩
abbrev cX11_holds : ByteArray := prog_10_method_31_code
def yX11_holds : MethodName := ⟨RX11, "holds", "(III)Z"⟩
abbrev cX11_bears : ByteArray := prog_10_method_32_code
def yX11_bears : MethodName := ⟨RX11, "bears", "(II)I"⟩
abbrev cX11_isFrost : ByteArray := prog_10_method_33_code
def yX11_isFrost : MethodName := ⟨RX11, "isFrost", "(I)Z"⟩
abbrev cX11_gripOf : ByteArray := prog_10_method_34_code
def yX11_gripOf : MethodName := ⟨RX11, "gripOf", "()I"⟩
abbrev cX11_grip : ByteArray := prog_10_method_35_code
def yX11_grip : MethodName := ⟨RX11, "grip", "()I"⟩
abbrev cX11_addBlocks : ByteArray := prog_10_method_36_code
def yX11_addBlocks : MethodName := ⟨RX11, "addBlocks", "(IIIIZ)I"⟩
abbrev cX11_blocks : ByteArray := prog_10_method_37_code
def yX11_blocks : MethodName := ⟨RX11, "blocks", "(I)I"⟩
abbrev cX11_canCut : ByteArray := prog_10_method_38_code
def yX11_canCut : MethodName := ⟨RX11, "canCut", "(ILVoussoirYardModel$Blocks;)Z"⟩
abbrev cX11_bestBlock : ByteArray := prog_10_method_39_code
def yX11_bestBlock : MethodName := ⟨RX11, "bestBlock", "(I)I"⟩
abbrev cX11_addMason : ByteArray := prog_10_method_40_code
def yX11_addMason : MethodName := ⟨RX11, "addMason", "(II)I"⟩
abbrev cX11_cut : ByteArray := prog_10_method_41_code
def yX11_cut : MethodName := ⟨RX11, "cut", "(III)I"⟩
abbrev cX11_seen : ByteArray := prog_10_method_42_code
def yX11_seen : MethodName := ⟨RX11, "seen", "([I)[I"⟩
abbrev cX11_isStone : ByteArray := prog_10_method_43_code
def yX11_isStone : MethodName := ⟨RX11, "isStone", "(I)Z"⟩
abbrev cX11_noStone : ByteArray := prog_10_method_44_code
def yX11_noStone : MethodName := ⟨RX11, "noStone", "(I)Z"⟩
abbrev cX11_readyOn : ByteArray := prog_10_method_45_code
def yX11_readyOn : MethodName := ⟨RX11, "readyOn", "(I)I"⟩
abbrev cX11_stateIn : ByteArray := prog_10_method_46_code
def yX11_stateIn : MethodName := ⟨RX11, "stateIn", "(I)C"⟩
abbrev cX11_stateOf : ByteArray := prog_10_method_47_code
def yX11_stateOf : MethodName := ⟨RX11, "stateOf", "(I)C"⟩
abbrev cX11_mark : ByteArray := prog_10_method_48_code
def yX11_mark : MethodName := ⟨RX11, "mark", "(I)I"⟩
abbrev cX11_markAt : ByteArray := prog_10_method_49_code
def yX11_markAt : MethodName := ⟨RX11, "markAt", "(II)C"⟩
abbrev cX11_isFitting : ByteArray := prog_10_method_50_code
def yX11_isFitting : MethodName := ⟨RX11, "isFitting", "(II)Z"⟩
abbrev cX11_fits : ByteArray := prog_10_method_51_code
def yX11_fits : MethodName := ⟨RX11, "fits", "(II)Z"⟩
abbrev cX11_setCentre : ByteArray := prog_10_method_52_code
def yX11_setCentre : MethodName := ⟨RX11, "setCentre", "(I)I"⟩
abbrev cX11_set : ByteArray := prog_10_method_53_code
def yX11_set : MethodName := ⟨RX11, "set", "(II)I"⟩
abbrev cX11_stoneIn : ByteArray := prog_10_method_54_code
def yX11_stoneIn : MethodName := ⟨RX11, "stoneIn", "(I)I"⟩
abbrev cX11_strike : ByteArray := prog_10_method_55_code
def yX11_strike : MethodName := ⟨RX11, "strike", "()J"⟩
abbrev cX11_load : ByteArray := prog_10_method_56_code
def yX11_load : MethodName := ⟨RX11, "load", "(II)Z"⟩
abbrev cX11_stands : ByteArray := prog_10_method_57_code
def yX11_stands : MethodName := ⟨RX11, "stands", "()Z"⟩
abbrev cX11_pass : ByteArray := prog_10_method_58_code
def yX11_pass : MethodName := ⟨RX11, "pass", "(I)I"⟩
abbrev cX11_spent : ByteArray := prog_10_method_59_code
def yX11_spent : MethodName := ⟨RX11, "spent", "()J"⟩
abbrev cX11_waste : ByteArray := prog_10_method_60_code
def yX11_waste : MethodName := ⟨RX11, "waste", "()I"⟩
abbrev cX11_usedShare : ByteArray := prog_10_method_61_code
def yX11_usedShare : MethodName := ⟨RX11, "usedShare", "()F"⟩
abbrev cX11_meanArea : ByteArray := prog_10_method_62_code
def yX11_meanArea : MethodName := ⟨RX11, "meanArea", "()D"⟩
abbrev cX11_isSound : ByteArray := prog_10_method_63_code
def yX11_isSound : MethodName := ⟨RX11, "isSound", "()Z"⟩
def RJx145de : String := "java/io/Serializable"
def TJx145de : u_T := fun k => match k with
  | _ => ("", "", "", false)
def tyJx145de : Nat → FieldType := fun k => match k with
  | _ => .int
abbrev wsJx145de0 : List Cond := u_ws RJx145de TJx145de 0
theorem nmJx145de : ∀ a, a < 0 → ∀ b, b < 0 → a ≠ b → (TJx145de a).2.1 ≠ (TJx145de b).2.1 := by decide +kernel
theorem tyJx145de_ok : ∀ k, k < 0 → parseFieldDescriptor (TJx145de k).2.2.1 = some (tyJx145de k) := by decide +kernel
def RJ5 : String := "java/lang/AbstractStringBuilder"
def TJ5 : u_T := fun k => match k with
  | _ => ("", "", "", false)
def tyJ5 : Nat → FieldType := fun k => match k with
  | _ => .int
abbrev wsJ50 : List Cond := u_ws RJ5 TJ5 0
theorem nmJ5 : ∀ a, a < 0 → ∀ b, b < 0 → a ≠ b → (TJ5 a).2.1 ≠ (TJ5 b).2.1 := by decide +kernel
theorem tyJ5_ok : ∀ k, k < 0 → parseFieldDescriptor (TJ5 k).2.2.1 = some (tyJ5 k) := by decide +kernel
abbrev cJ5_init_d00df : ByteArray := prog_15_method_2_code
def yJ5_init_d00df : MethodName := ⟨RJ5, "<init>", "(I)V"⟩
abbrev cJ5_length_8abf5 : ByteArray := prog_15_method_6_code
def yJ5_length_8abf5 : MethodName := ⟨RJ5, "length", "()I"⟩
abbrev cJ5_ensureCapacityInternal_d00df : ByteArray := prog_15_method_9_code
def yJ5_ensureCapacityInternal_d00df : MethodName := ⟨RJ5, "ensureCapacityInternal", "(I)V"⟩
abbrev cJ5_newCapacity_0f7a4 : ByteArray := prog_15_method_10_code
def yJ5_newCapacity_0f7a4 : MethodName := ⟨RJ5, "newCapacity", "(I)I"⟩
abbrev cJ5_inflate_da8c8 : ByteArray := prog_15_method_11_code
def yJ5_inflate_da8c8 : MethodName := ⟨RJ5, "inflate", "()V"⟩
abbrev cJ5_append_cf1ce : ByteArray := prog_15_method_22_code
def yJ5_append_cf1ce : MethodName := ⟨RJ5, "append", "(Ljava/lang/String;)Ljava/lang/AbstractStringBuilder;"⟩
abbrev cJ5_appendNull_278bc : ByteArray := prog_15_method_26_code
def yJ5_appendNull_278bc : MethodName := ⟨RJ5, "appendNull", "()Ljava/lang/AbstractStringBuilder;"⟩
abbrev cJ5_append_3fe6f : ByteArray := prog_15_method_31_code
def yJ5_append_3fe6f : MethodName := ⟨RJ5, "append", "(C)Ljava/lang/AbstractStringBuilder;"⟩
abbrev cJ5_append_c97b9 : ByteArray := prog_15_method_32_code
def yJ5_append_c97b9 : MethodName := ⟨RJ5, "append", "(I)Ljava/lang/AbstractStringBuilder;"⟩
abbrev cJ5_getValue_6d5f1 : ByteArray := prog_15_method_64_code
def yJ5_getValue_6d5f1 : MethodName := ⟨RJ5, "getValue", "()[B"⟩
abbrev cJ5_isLatin1_aae02 : ByteArray := prog_15_method_68_code
def yJ5_isLatin1_aae02 : MethodName := ⟨RJ5, "isLatin1", "()Z"⟩
abbrev cJ5_inflateIfNeededFor_a7421 : ByteArray := prog_15_method_71_code
def yJ5_inflateIfNeededFor_a7421 : MethodName := ⟨RJ5, "inflateIfNeededFor", "(Ljava/lang/String;)V"⟩
abbrev cJ5_putStringAt_47b60 : ByteArray := prog_15_method_73_code
def yJ5_putStringAt_47b60 : MethodName := ⟨RJ5, "putStringAt", "(ILjava/lang/String;)V"⟩
def RJx2cfe8 : String := "java/lang/Appendable"
def TJx2cfe8 : u_T := fun k => match k with
  | _ => ("", "", "", false)
def tyJx2cfe8 : Nat → FieldType := fun k => match k with
  | _ => .int
abbrev wsJx2cfe80 : List Cond := u_ws RJx2cfe8 TJx2cfe8 0
theorem nmJx2cfe8 : ∀ a, a < 0 → ∀ b, b < 0 → a ≠ b → (TJx2cfe8 a).2.1 ≠ (TJx2cfe8 b).2.1 := by decide +kernel
theorem tyJx2cfe8_ok : ∀ k, k < 0 → parseFieldDescriptor (TJx2cfe8 k).2.2.1 = some (tyJx2cfe8 k) := by decide +kernel
def RJx00060 : String := "java/lang/ArrayIndexOutOfBoundsException"
def TJx00060 : u_T := fun k => match k with
  | 0 => ("java/lang/Throwable", "backtrace", "Ljava/lang/Object;", false)
  | 1 => ("java/lang/Throwable", "detailMessage", "Ljava/lang/String;", false)
  | 2 => ("java/lang/Throwable", "cause", "Ljava/lang/Throwable;", false)
  | 3 => ("java/lang/Throwable", "stackTrace", "[Ljava/lang/StackTraceElement;", false)
  | 4 => ("java/lang/Throwable", "depth", "I", false)
  | _ => ("java/lang/Throwable", "suppressedExceptions", "Ljava/util/List;", false)
def tyJx00060 : Nat → FieldType := fun k => match k with
  | 0 => .object "java/lang/Object"
  | 1 => .object "java/lang/String"
  | 2 => .object "java/lang/Throwable"
  | 3 => .array (.object "java/lang/StackTraceElement")
  | 4 => .int
  | _ => .object "java/util/List"
abbrev wsJx000600 : List Cond := u_ws RJx00060 TJx00060 6
theorem nmJx00060 : ∀ a, a < 6 → ∀ b, b < 6 → a ≠ b → (TJx00060 a).2.1 ≠ (TJx00060 b).2.1 := by decide +kernel
theorem tyJx00060_ok : ∀ k, k < 6 → parseFieldDescriptor (TJx00060 k).2.2.1 = some (tyJx00060 k) := by decide +kernel
abbrev cJx00060_init_a7421 : ByteArray := prog_18_method_2_code
def yJx00060_init_a7421 : MethodName := ⟨RJx00060, "<init>", "(Ljava/lang/String;)V"⟩
def RJx9f9b0 : String := "java/lang/CharSequence"
def TJx9f9b0 : u_T := fun k => match k with
  | _ => ("", "", "", false)
def tyJx9f9b0 : Nat → FieldType := fun k => match k with
  | _ => .int
abbrev wsJx9f9b00 : List Cond := u_ws RJx9f9b0 TJx9f9b0 0
theorem nmJx9f9b0 : ∀ a, a < 0 → ∀ b, b < 0 → a ≠ b → (TJx9f9b0 a).2.1 ≠ (TJx9f9b0 b).2.1 := by decide +kernel
theorem tyJx9f9b0_ok : ∀ k, k < 0 → parseFieldDescriptor (TJx9f9b0 k).2.2.1 = some (tyJx9f9b0 k) := by decide +kernel
def RJx8e188 : String := "java/lang/Cloneable"
def TJx8e188 : u_T := fun k => match k with
  | _ => ("", "", "", false)
def tyJx8e188 : Nat → FieldType := fun k => match k with
  | _ => .int
abbrev wsJx8e1880 : List Cond := u_ws RJx8e188 TJx8e188 0
theorem nmJx8e188 : ∀ a, a < 0 → ∀ b, b < 0 → a ≠ b → (TJx8e188 a).2.1 ≠ (TJx8e188 b).2.1 := by decide +kernel
theorem tyJx8e188_ok : ∀ k, k < 0 → parseFieldDescriptor (TJx8e188 k).2.2.1 = some (tyJx8e188 k) := by decide +kernel
def RJxb160c : String := "java/lang/Comparable"
def TJxb160c : u_T := fun k => match k with
  | _ => ("", "", "", false)
def tyJxb160c : Nat → FieldType := fun k => match k with
  | _ => .int
abbrev wsJxb160c0 : List Cond := u_ws RJxb160c TJxb160c 0
theorem nmJxb160c : ∀ a, a < 0 → ∀ b, b < 0 → a ≠ b → (TJxb160c a).2.1 ≠ (TJxb160c b).2.1 := by decide +kernel
theorem tyJxb160c_ok : ∀ k, k < 0 → parseFieldDescriptor (TJxb160c k).2.2.1 = some (tyJxb160c k) := by decide +kernel
def RJ6 : String := "java/lang/Integer"
def TJ6 : u_T := fun k => match k with
  | _ => ("", "", "", false)
def tyJ6 : Nat → FieldType := fun k => match k with
  | _ => .int
abbrev wsJ60 : List Cond := u_ws RJ6 TJ6 0
theorem nmJ6 : ∀ a, a < 0 → ∀ b, b < 0 → a ≠ b → (TJ6 a).2.1 ≠ (TJ6 b).2.1 := by decide +kernel
theorem tyJ6_ok : ∀ k, k < 0 → parseFieldDescriptor (TJ6 k).2.2.1 = some (tyJ6 k) := by decide +kernel
abbrev cJ6_getChars_ba4f3 : ByteArray := prog_26_method_12_code
def yJ6_getChars_ba4f3 : MethodName := ⟨RJ6, "getChars", "(II[B)I"⟩
abbrev cJ6_stringSize_0f7a4 : ByteArray := prog_26_method_13_code
def yJ6_stringSize_0f7a4 : MethodName := ⟨RJ6, "stringSize", "(I)I"⟩
def RJxab1ab : String := "java/lang/Iterable"
def TJxab1ab : u_T := fun k => match k with
  | _ => ("", "", "", false)
def tyJxab1ab : Nat → FieldType := fun k => match k with
  | _ => .int
abbrev wsJxab1ab0 : List Cond := u_ws RJxab1ab TJxab1ab 0
theorem nmJxab1ab : ∀ a, a < 0 → ∀ b, b < 0 → a ≠ b → (TJxab1ab a).2.1 ≠ (TJxab1ab b).2.1 := by decide +kernel
theorem tyJxab1ab_ok : ∀ k, k < 0 → parseFieldDescriptor (TJxab1ab k).2.2.1 = some (tyJxab1ab k) := by decide +kernel
def RJ9 : String := "java/lang/Math"
def TJ9 : u_T := fun k => match k with
  | _ => ("", "", "", false)
def tyJ9 : Nat → FieldType := fun k => match k with
  | _ => .int
abbrev wsJ90 : List Cond := u_ws RJ9 TJ9 0
theorem nmJ9 : ∀ a, a < 0 → ∀ b, b < 0 → a ≠ b → (TJ9 a).2.1 ≠ (TJ9 b).2.1 := by decide +kernel
theorem tyJ9_ok : ∀ k, k < 0 → parseFieldDescriptor (TJ9 k).2.2.1 = some (tyJ9 k) := by decide +kernel
abbrev cJ9_floorDiv_f86c9 : ByteArray := prog_28_method_49_code
def yJ9_floorDiv_f86c9 : MethodName := ⟨RJ9, "floorDiv", "(JJ)J"⟩
abbrev cJ9_abs_067f4 : ByteArray := prog_28_method_61_code
def yJ9_abs_067f4 : MethodName := ⟨RJ9, "abs", "(J)J"⟩
abbrev cJ9_max_7cf53 : ByteArray := prog_28_method_65_code
def yJ9_max_7cf53 : MethodName := ⟨RJ9, "max", "(II)I"⟩
abbrev cJ9_min_7cf53 : ByteArray := prog_28_method_69_code
def yJ9_min_7cf53 : MethodName := ⟨RJ9, "min", "(II)I"⟩
def RJxd2413 : String := "java/lang/Number"
def TJxd2413 : u_T := fun k => match k with
  | _ => ("", "", "", false)
def tyJxd2413 : Nat → FieldType := fun k => match k with
  | _ => .int
abbrev wsJxd24130 : List Cond := u_ws RJxd2413 TJxd2413 0
theorem nmJxd2413 : ∀ a, a < 0 → ∀ b, b < 0 → a ≠ b → (TJxd2413 a).2.1 ≠ (TJxd2413 b).2.1 := by decide +kernel
theorem tyJxd2413_ok : ∀ k, k < 0 → parseFieldDescriptor (TJxd2413 k).2.2.1 = some (tyJxd2413 k) := by decide +kernel
def RJ0 : String := "java/lang/String"
def TJ0 : u_T := fun k => match k with
  | 0 => ("java/lang/String", "value", "[B", true)
  | 1 => ("java/lang/String", "coder", "B", true)
  | 2 => ("java/lang/String", "hash", "I", false)
  | _ => ("java/lang/String", "hashIsZero", "Z", false)
def tyJ0 : Nat → FieldType := fun k => match k with
  | 0 => .array .byte
  | 1 => .byte
  | 2 => .int
  | _ => .boolean
abbrev wsJ00 : List Cond := u_ws RJ0 TJ0 4
theorem nmJ0 : ∀ a, a < 4 → ∀ b, b < 4 → a ≠ b → (TJ0 a).2.1 ≠ (TJ0 b).2.1 := by decide +kernel
theorem tyJ0_ok : ∀ k, k < 4 → parseFieldDescriptor (TJ0 k).2.2.1 = some (tyJ0 k) := by decide +kernel
abbrev cJ0_init_81219 : ByteArray := prog_31_method_53_code
def yJ0_init_81219 : MethodName := ⟨RJ0, "<init>", "(Ljava/lang/StringBuilder;)V"⟩
abbrev cJ0_length_8abf5 : ByteArray := prog_31_method_54_code
def yJ0_length_8abf5 : MethodName := ⟨RJ0, "length", "()I"⟩
abbrev cJ0_charAt_5068e : ByteArray := prog_31_method_56_code
def yJ0_charAt_5068e : MethodName := ⟨RJ0, "charAt", "(I)C"⟩
abbrev cJ0_getBytes_840e7 : ByteArray := prog_31_method_147_code
def yJ0_getBytes_840e7 : MethodName := ⟨RJ0, "getBytes", "([BIB)V"⟩
abbrev cJ0_init_db425 : ByteArray := prog_31_method_150_code
def yJ0_init_db425 : MethodName := ⟨RJ0, "<init>", "(Ljava/lang/AbstractStringBuilder;Ljava/lang/Void;)V"⟩
abbrev cJ0_coder_7d493 : ByteArray := prog_31_method_152_code
def yJ0_coder_7d493 : MethodName := ⟨RJ0, "coder", "()B"⟩
abbrev cJ0_isLatin1_aae02 : ByteArray := prog_31_method_154_code
def yJ0_isLatin1_aae02 : MethodName := ⟨RJ0, "isLatin1", "()Z"⟩
abbrev cJ0_checkIndex_df160 : ByteArray := prog_31_method_155_code
def yJ0_checkIndex_df160 : MethodName := ⟨RJ0, "checkIndex", "(II)V"⟩
abbrev cJ0_checkBoundsOffCount_cabcc : ByteArray := prog_31_method_157_code
def yJ0_checkBoundsOffCount_cabcc : MethodName := ⟨RJ0, "checkBoundsOffCount", "(III)I"⟩
abbrev cJ0_checkBoundsBeginEnd_23922 : ByteArray := prog_31_method_158_code
def yJ0_checkBoundsBeginEnd_23922 : MethodName := ⟨RJ0, "checkBoundsBeginEnd", "(III)V"⟩
def RJ4 : String := "java/lang/StringBuilder"
def TJ4 : u_T := fun k => match k with
  | 0 => ("java/lang/AbstractStringBuilder", "value", "[B", false)
  | 1 => ("java/lang/AbstractStringBuilder", "coder", "B", false)
  | 2 => ("java/lang/AbstractStringBuilder", "maybeLatin1", "Z", false)
  | _ => ("java/lang/AbstractStringBuilder", "count", "I", false)
def tyJ4 : Nat → FieldType := fun k => match k with
  | 0 => .array .byte
  | 1 => .byte
  | 2 => .boolean
  | _ => .int
abbrev wsJ40 : List Cond := u_ws RJ4 TJ4 4
theorem nmJ4 : ∀ a, a < 4 → ∀ b, b < 4 → a ≠ b → (TJ4 a).2.1 ≠ (TJ4 b).2.1 := by decide +kernel
theorem tyJ4_ok : ∀ k, k < 4 → parseFieldDescriptor (TJ4 k).2.2.1 = some (tyJ4 k) := by decide +kernel
abbrev cJ4_init_da8c8 : ByteArray := prog_32_method_1_code
def yJ4_init_da8c8 : MethodName := ⟨RJ4, "<init>", "()V"⟩
abbrev cJ4_append_15ec4 : ByteArray := prog_32_method_7_code
def yJ4_append_15ec4 : MethodName := ⟨RJ4, "append", "(Ljava/lang/String;)Ljava/lang/StringBuilder;"⟩
abbrev cJ4_append_cf468 : ByteArray := prog_32_method_14_code
def yJ4_append_cf468 : MethodName := ⟨RJ4, "append", "(C)Ljava/lang/StringBuilder;"⟩
abbrev cJ4_append_bf812 : ByteArray := prog_32_method_15_code
def yJ4_append_bf812 : MethodName := ⟨RJ4, "append", "(I)Ljava/lang/StringBuilder;"⟩
abbrev cJ4_toString_0e30d : ByteArray := prog_32_method_42_code
def yJ4_toString_0e30d : MethodName := ⟨RJ4, "toString", "()Ljava/lang/String;"⟩
abbrev cJ4_length_8abf5 : ByteArray := prog_32_method_93_code
def yJ4_length_8abf5 : MethodName := ⟨RJ4, "length", "()I"⟩
def RJ1 : String := "java/lang/StringLatin1"
def TJ1 : u_T := fun k => match k with
  | _ => ("", "", "", false)
def tyJ1 : Nat → FieldType := fun k => match k with
  | _ => .int
abbrev wsJ10 : List Cond := u_ws RJ1 TJ1 0
theorem nmJ1 : ∀ a, a < 0 → ∀ b, b < 0 → a ≠ b → (TJ1 a).2.1 ≠ (TJ1 b).2.1 := by decide +kernel
theorem tyJ1_ok : ∀ k, k < 0 → parseFieldDescriptor (TJ1 k).2.2.1 = some (tyJ1 k) := by decide +kernel
abbrev cJ1_charAt_3b067 : ByteArray := prog_33_method_2_code
def yJ1_charAt_3b067 : MethodName := ⟨RJ1, "charAt", "([BI)C"⟩
abbrev cJ1_canEncode_fc78d : ByteArray := prog_33_method_3_code
def yJ1_canEncode_fc78d : MethodName := ⟨RJ1, "canEncode", "(C)Z"⟩
abbrev cJ1_inflate_0e8fd : ByteArray := prog_33_method_50_code
def yJ1_inflate_0e8fd : MethodName := ⟨RJ1, "inflate", "([BI[BII)V"⟩
def RJ2 : String := "java/lang/StringUTF16"
def TJ2 : u_T := fun k => match k with
  | _ => ("", "", "", false)
def tyJ2 : Nat → FieldType := fun k => match k with
  | _ => .int
abbrev wsJ20 : List Cond := u_ws RJ2 TJ2 0
theorem nmJ2 : ∀ a, a < 0 → ∀ b, b < 0 → a ≠ b → (TJ2 a).2.1 ≠ (TJ2 b).2.1 := by decide +kernel
theorem tyJ2_ok : ∀ k, k < 0 → parseFieldDescriptor (TJ2 k).2.2.1 = some (tyJ2 k) := by decide +kernel
abbrev cJ2_newBytesFor_77867 : ByteArray := prog_34_method_2_code
def yJ2_newBytesFor_77867 : MethodName := ⟨RJ2, "newBytesFor", "(I)[B"⟩
abbrev cJ2_newBytesLength_0f7a4 : ByteArray := prog_34_method_3_code
def yJ2_newBytesLength_0f7a4 : MethodName := ⟨RJ2, "newBytesLength", "(I)I"⟩
abbrev cJ2_putChar_b72d1 : ByteArray := prog_34_method_4_code
def yJ2_putChar_b72d1 : MethodName := ⟨RJ2, "putChar", "([BII)V"⟩
abbrev cJ2_getChar_3b067 : ByteArray := prog_34_method_5_code
def yJ2_getChar_3b067 : MethodName := ⟨RJ2, "getChar", "([BI)C"⟩
abbrev cJ2_length_9d52b : ByteArray := prog_34_method_6_code
def yJ2_length_9d52b : MethodName := ⟨RJ2, "length", "([B)I"⟩
abbrev cJ2_coderFromArrayLen_85cad : ByteArray := prog_34_method_15_code
def yJ2_coderFromArrayLen_85cad : MethodName := ⟨RJ2, "coderFromArrayLen", "([BI)B"⟩
abbrev cJ2_compress_39247 : ByteArray := prog_34_method_17_code
def yJ2_compress_39247 : MethodName := ⟨RJ2, "compress", "([BII)[B"⟩
abbrev cJ2_compress_5af95 : ByteArray := prog_34_method_22_code
def yJ2_compress_5af95 : MethodName := ⟨RJ2, "compress", "([BI[BII)I"⟩
abbrev cJ2_putCharSB_b72d1 : ByteArray := prog_34_method_71_code
def yJ2_putCharSB_b72d1 : MethodName := ⟨RJ2, "putCharSB", "([BII)V"⟩
abbrev cJ2_getChars_46870 : ByteArray := prog_34_method_77_code
def yJ2_getChars_46870 : MethodName := ⟨RJ2, "getChars", "(III[B)I"⟩
abbrev cJ2_putCharsAt_cd4e5 : ByteArray := prog_34_method_81_code
def yJ2_putCharsAt_cd4e5 : MethodName := ⟨RJ2, "putCharsAt", "([BICCCC)I"⟩
abbrev cJ2_charAt_3b067 : ByteArray := prog_34_method_83_code
def yJ2_charAt_3b067 : MethodName := ⟨RJ2, "charAt", "([BI)C"⟩
abbrev cJ2_inflate_0e8fd : ByteArray := prog_34_method_86_code
def yJ2_inflate_0e8fd : MethodName := ⟨RJ2, "inflate", "([BI[BII)V"⟩
abbrev cJ2_getChars_ba4f3 : ByteArray := prog_34_method_89_code
def yJ2_getChars_ba4f3 : MethodName := ⟨RJ2, "getChars", "(II[B)I"⟩
abbrev cJ2_checkIndex_2214a : ByteArray := prog_34_method_91_code
def yJ2_checkIndex_2214a : MethodName := ⟨RJ2, "checkIndex", "(I[B)V"⟩
abbrev cJ2_checkBoundsBeginEnd_d044e : ByteArray := prog_34_method_93_code
def yJ2_checkBoundsBeginEnd_d044e : MethodName := ⟨RJ2, "checkBoundsBeginEnd", "(II[B)V"⟩
abbrev cJ2_checkBoundsOffCount_d044e : ByteArray := prog_34_method_94_code
def yJ2_checkBoundsOffCount_d044e : MethodName := ⟨RJ2, "checkBoundsOffCount", "(II[B)V"⟩
def RJ10 : String := "java/lang/System"
def TJ10 : u_T := fun k => match k with
  | _ => ("", "", "", false)
def tyJ10 : Nat → FieldType := fun k => match k with
  | _ => .int
abbrev wsJ100 : List Cond := u_ws RJ10 TJ10 0
theorem nmJ10 : ∀ a, a < 0 → ∀ b, b < 0 → a ≠ b → (TJ10 a).2.1 ≠ (TJ10 b).2.1 := by decide +kernel
theorem tyJ10_ok : ∀ k, k < 0 → parseFieldDescriptor (TJ10 k).2.2.1 = some (tyJ10 k) := by decide +kernel
def RJxfd54e : String := "java/lang/constant/Constable"
def TJxfd54e : u_T := fun k => match k with
  | _ => ("", "", "", false)
def tyJxfd54e : Nat → FieldType := fun k => match k with
  | _ => .int
abbrev wsJxfd54e0 : List Cond := u_ws RJxfd54e TJxfd54e 0
theorem nmJxfd54e : ∀ a, a < 0 → ∀ b, b < 0 → a ≠ b → (TJxfd54e a).2.1 ≠ (TJxfd54e b).2.1 := by decide +kernel
theorem tyJxfd54e_ok : ∀ k, k < 0 → parseFieldDescriptor (TJxfd54e k).2.2.1 = some (tyJxfd54e k) := by decide +kernel
def RJx3cf43 : String := "java/lang/constant/ConstantDesc"
def TJx3cf43 : u_T := fun k => match k with
  | _ => ("", "", "", false)
def tyJx3cf43 : Nat → FieldType := fun k => match k with
  | _ => .int
abbrev wsJx3cf430 : List Cond := u_ws RJx3cf43 TJx3cf43 0
theorem nmJx3cf43 : ∀ a, a < 0 → ∀ b, b < 0 → a ≠ b → (TJx3cf43 a).2.1 ≠ (TJx3cf43 b).2.1 := by decide +kernel
theorem tyJx3cf43_ok : ∀ k, k < 0 → parseFieldDescriptor (TJx3cf43 k).2.2.1 = some (tyJx3cf43 k) := by decide +kernel
def RJxa1e45 : String := "java/util/AbstractCollection"
def TJxa1e45 : u_T := fun k => match k with
  | _ => ("", "", "", false)
def tyJxa1e45 : Nat → FieldType := fun k => match k with
  | _ => .int
abbrev wsJxa1e450 : List Cond := u_ws RJxa1e45 TJxa1e45 0
theorem nmJxa1e45 : ∀ a, a < 0 → ∀ b, b < 0 → a ≠ b → (TJxa1e45 a).2.1 ≠ (TJxa1e45 b).2.1 := by decide +kernel
theorem tyJxa1e45_ok : ∀ k, k < 0 → parseFieldDescriptor (TJxa1e45 k).2.2.1 = some (tyJxa1e45 k) := by decide +kernel
abbrev cJxa1e45_init_da8c8 : ByteArray := prog_40_method_1_code
def yJxa1e45_init_da8c8 : MethodName := ⟨RJxa1e45, "<init>", "()V"⟩
def RJxc12de : String := "java/util/AbstractList"
def TJxc12de : u_T := fun k => match k with
  | _ => ("", "", "", false)
def tyJxc12de : Nat → FieldType := fun k => match k with
  | _ => .int
abbrev wsJxc12de0 : List Cond := u_ws RJxc12de TJxc12de 0
theorem nmJxc12de : ∀ a, a < 0 → ∀ b, b < 0 → a ≠ b → (TJxc12de a).2.1 ≠ (TJxc12de b).2.1 := by decide +kernel
theorem tyJxc12de_ok : ∀ k, k < 0 → parseFieldDescriptor (TJxc12de k).2.2.1 = some (tyJxc12de k) := by decide +kernel
abbrev cJxc12de_init_da8c8 : ByteArray := prog_41_method_1_code
def yJxc12de_init_da8c8 : MethodName := ⟨RJxc12de, "<init>", "()V"⟩
def RJx35411 : String := "java/util/ArrayList$Itr"
def TJx35411 : u_T := fun k => match k with
  | 0 => ("java/util/ArrayList$Itr", "cursor", "I", false)
  | 1 => ("java/util/ArrayList$Itr", "lastRet", "I", false)
  | 2 => ("java/util/ArrayList$Itr", "expectedModCount", "I", false)
  | _ => ("java/util/ArrayList$Itr", "this$0", "Ljava/util/ArrayList;", true)
def tyJx35411 : Nat → FieldType := fun k => match k with
  | 0 => .int
  | 1 => .int
  | 2 => .int
  | _ => .object "java/util/ArrayList"
abbrev wsJx354110 : List Cond := u_ws RJx35411 TJx35411 4
theorem nmJx35411 : ∀ a, a < 4 → ∀ b, b < 4 → a ≠ b → (TJx35411 a).2.1 ≠ (TJx35411 b).2.1 := by decide +kernel
theorem tyJx35411_ok : ∀ k, k < 4 → parseFieldDescriptor (TJx35411 k).2.2.1 = some (tyJx35411 k) := by decide +kernel
abbrev cJx35411_init_45d68 : ByteArray := prog_43_method_1_code
def yJx35411_init_45d68 : MethodName := ⟨RJx35411, "<init>", "(Ljava/util/ArrayList;)V"⟩
abbrev cJx35411_hasNext_aae02 : ByteArray := prog_43_method_2_code
def yJx35411_hasNext_aae02 : MethodName := ⟨RJx35411, "hasNext", "()Z"⟩
abbrev cJx35411_next_0502b : ByteArray := prog_43_method_3_code
def yJx35411_next_0502b : MethodName := ⟨RJx35411, "next", "()Ljava/lang/Object;"⟩
abbrev cJx35411_checkForComodification_da8c8 : ByteArray := prog_43_method_6_code
def yJx35411_checkForComodification_da8c8 : MethodName := ⟨RJx35411, "checkForComodification", "()V"⟩
def RJx4a65c : String := "java/util/ArrayList"
def TJx4a65c : u_T := fun k => match k with
  | 0 => ("java/util/AbstractList", "modCount", "I", false)
  | 1 => ("java/util/ArrayList", "elementData", "[Ljava/lang/Object;", false)
  | _ => ("java/util/ArrayList", "size", "I", false)
def tyJx4a65c : Nat → FieldType := fun k => match k with
  | 0 => .int
  | 1 => .array (.object "java/lang/Object")
  | _ => .int
abbrev wsJx4a65c0 : List Cond := u_ws RJx4a65c TJx4a65c 3
theorem nmJx4a65c : ∀ a, a < 3 → ∀ b, b < 3 → a ≠ b → (TJx4a65c a).2.1 ≠ (TJx4a65c b).2.1 := by decide +kernel
theorem tyJx4a65c_ok : ∀ k, k < 3 → parseFieldDescriptor (TJx4a65c k).2.2.1 = some (tyJx4a65c k) := by decide +kernel
abbrev cJx4a65c_init_da8c8 : ByteArray := prog_42_method_2_code
def yJx4a65c_init_da8c8 : MethodName := ⟨RJx4a65c, "<init>", "()V"⟩
abbrev cJx4a65c_grow_92f84 : ByteArray := prog_42_method_6_code
def yJx4a65c_grow_92f84 : MethodName := ⟨RJx4a65c, "grow", "(I)[Ljava/lang/Object;"⟩
abbrev cJx4a65c_grow_d5877 : ByteArray := prog_42_method_7_code
def yJx4a65c_grow_d5877 : MethodName := ⟨RJx4a65c, "grow", "()[Ljava/lang/Object;"⟩
abbrev cJx4a65c_size_8abf5 : ByteArray := prog_42_method_8_code
def yJx4a65c_size_8abf5 : MethodName := ⟨RJx4a65c, "size", "()I"⟩
abbrev cJx4a65c_isEmpty_aae02 : ByteArray := prog_42_method_9_code
def yJx4a65c_isEmpty_aae02 : MethodName := ⟨RJx4a65c, "isEmpty", "()Z"⟩
abbrev cJx4a65c_elementData_915e3 : ByteArray := prog_42_method_18_code
def yJx4a65c_elementData_915e3 : MethodName := ⟨RJx4a65c, "elementData", "(I)Ljava/lang/Object;"⟩
abbrev cJx4a65c_get_915e3 : ByteArray := prog_42_method_20_code
def yJx4a65c_get_915e3 : MethodName := ⟨RJx4a65c, "get", "(I)Ljava/lang/Object;"⟩
abbrev cJx4a65c_set_bcc79 : ByteArray := prog_42_method_23_code
def yJx4a65c_set_bcc79 : MethodName := ⟨RJx4a65c, "set", "(ILjava/lang/Object;)Ljava/lang/Object;"⟩
abbrev cJx4a65c_add_72be8 : ByteArray := prog_42_method_24_code
def yJx4a65c_add_72be8 : MethodName := ⟨RJx4a65c, "add", "(Ljava/lang/Object;[Ljava/lang/Object;I)V"⟩
abbrev cJx4a65c_add_9ea2d : ByteArray := prog_42_method_25_code
def yJx4a65c_add_9ea2d : MethodName := ⟨RJx4a65c, "add", "(Ljava/lang/Object;)Z"⟩
abbrev cJx4a65c_iterator_32c93 : ByteArray := prog_42_method_55_code
def yJx4a65c_iterator_32c93 : MethodName := ⟨RJx4a65c, "iterator", "()Ljava/util/Iterator;"⟩
def RJ7 : String := "java/util/Arrays"
def TJ7 : u_T := fun k => match k with
  | _ => ("", "", "", false)
def tyJ7 : Nat → FieldType := fun k => match k with
  | _ => .int
abbrev wsJ70 : List Cond := u_ws RJ7 TJ7 0
theorem nmJ7 : ∀ a, a < 0 → ∀ b, b < 0 → a ≠ b → (TJ7 a).2.1 ≠ (TJ7 b).2.1 := by decide +kernel
theorem tyJ7_ok : ∀ k, k < 0 → parseFieldDescriptor (TJ7 k).2.2.1 = some (tyJ7 k) := by decide +kernel
abbrev cJ7_copyOf_1904c : ByteArray := prog_44_method_119_code
def yJ7_copyOf_1904c : MethodName := ⟨RJ7, "copyOf", "([Ljava/lang/Object;I)[Ljava/lang/Object;"⟩
abbrev cJ7_copyOf_6403c : ByteArray := prog_44_method_120_code
def yJ7_copyOf_6403c : MethodName := ⟨RJ7, "copyOf", "([Ljava/lang/Object;ILjava/lang/Class;)[Ljava/lang/Object;"⟩
abbrev cJ7_copyOf_9075b : ByteArray := prog_44_method_121_code
def yJ7_copyOf_9075b : MethodName := ⟨RJ7, "copyOf", "([BI)[B"⟩
abbrev cJ7_checkLength_df160 : ByteArray := prog_44_method_131_code
def yJ7_checkLength_df160 : MethodName := ⟨RJ7, "checkLength", "(II)V"⟩
abbrev cJ7_copyOfRange_39247 : ByteArray := prog_44_method_132_code
def yJ7_copyOfRange_39247 : MethodName := ⟨RJ7, "copyOfRange", "([BII)[B"⟩
abbrev cJ7_copyOfRangeByte_39247 : ByteArray := prog_44_method_133_code
def yJ7_copyOfRangeByte_39247 : MethodName := ⟨RJ7, "copyOfRangeByte", "([BII)[B"⟩
def RJx5ef63 : String := "java/util/Collection"
def TJx5ef63 : u_T := fun k => match k with
  | _ => ("", "", "", false)
def tyJx5ef63 : Nat → FieldType := fun k => match k with
  | _ => .int
abbrev wsJx5ef630 : List Cond := u_ws RJx5ef63 TJx5ef63 0
theorem nmJx5ef63 : ∀ a, a < 0 → ∀ b, b < 0 → a ≠ b → (TJx5ef63 a).2.1 ≠ (TJx5ef63 b).2.1 := by decide +kernel
theorem tyJx5ef63_ok : ∀ k, k < 0 → parseFieldDescriptor (TJx5ef63 k).2.2.1 = some (tyJx5ef63 k) := by decide +kernel
def RJx4d0d8 : String := "java/util/Iterator"
def TJx4d0d8 : u_T := fun k => match k with
  | _ => ("", "", "", false)
def tyJx4d0d8 : Nat → FieldType := fun k => match k with
  | _ => .int
abbrev wsJx4d0d80 : List Cond := u_ws RJx4d0d8 TJx4d0d8 0
theorem nmJx4d0d8 : ∀ a, a < 0 → ∀ b, b < 0 → a ≠ b → (TJx4d0d8 a).2.1 ≠ (TJx4d0d8 b).2.1 := by decide +kernel
theorem tyJx4d0d8_ok : ∀ k, k < 0 → parseFieldDescriptor (TJx4d0d8 k).2.2.1 = some (tyJx4d0d8 k) := by decide +kernel
def RJxbd725 : String := "java/util/List"
def TJxbd725 : u_T := fun k => match k with
  | _ => ("", "", "", false)
def tyJxbd725 : Nat → FieldType := fun k => match k with
  | _ => .int
abbrev wsJxbd7250 : List Cond := u_ws RJxbd725 TJxbd725 0
theorem nmJxbd725 : ∀ a, a < 0 → ∀ b, b < 0 → a ≠ b → (TJxbd725 a).2.1 ≠ (TJxbd725 b).2.1 := by decide +kernel
theorem tyJxbd725_ok : ∀ k, k < 0 → parseFieldDescriptor (TJxbd725 k).2.2.1 = some (tyJxbd725 k) := by decide +kernel
def RJ15 : String := "java/util/Objects"
def TJ15 : u_T := fun k => match k with
  | _ => ("", "", "", false)
def tyJ15 : Nat → FieldType := fun k => match k with
  | _ => .int
abbrev wsJ150 : List Cond := u_ws RJ15 TJ15 0
theorem nmJ15 : ∀ a, a < 0 → ∀ b, b < 0 → a ≠ b → (TJ15 a).2.1 ≠ (TJ15 b).2.1 := by decide +kernel
theorem tyJ15_ok : ∀ k, k < 0 → parseFieldDescriptor (TJ15 k).2.2.1 = some (tyJ15 k) := by decide +kernel
abbrev cJ15_checkIndex_7cf53 : ByteArray := prog_49_method_17_code
def yJ15_checkIndex_7cf53 : MethodName := ⟨RJ15, "checkIndex", "(II)I"⟩
def RJxf0a74 : String := "java/util/RandomAccess"
def TJxf0a74 : u_T := fun k => match k with
  | _ => ("", "", "", false)
def tyJxf0a74 : Nat → FieldType := fun k => match k with
  | _ => .int
abbrev wsJxf0a740 : List Cond := u_ws RJxf0a74 TJxf0a74 0
theorem nmJxf0a74 : ∀ a, a < 0 → ∀ b, b < 0 → a ≠ b → (TJxf0a74 a).2.1 ≠ (TJxf0a74 b).2.1 := by decide +kernel
theorem tyJxf0a74_ok : ∀ k, k < 0 → parseFieldDescriptor (TJxf0a74 k).2.2.1 = some (tyJxf0a74 k) := by decide +kernel
def RJxa66e6 : String := "java/util/SequencedCollection"
def TJxa66e6 : u_T := fun k => match k with
  | _ => ("", "", "", false)
def tyJxa66e6 : Nat → FieldType := fun k => match k with
  | _ => .int
abbrev wsJxa66e60 : List Cond := u_ws RJxa66e6 TJxa66e6 0
theorem nmJxa66e6 : ∀ a, a < 0 → ∀ b, b < 0 → a ≠ b → (TJxa66e6 a).2.1 ≠ (TJxa66e6 b).2.1 := by decide +kernel
theorem tyJxa66e6_ok : ∀ k, k < 0 → parseFieldDescriptor (TJxa66e6 k).2.2.1 = some (tyJxa66e6 k) := by decide +kernel
def RJ8 : String := "jdk/internal/util/ArraysSupport"
def TJ8 : u_T := fun k => match k with
  | _ => ("", "", "", false)
def tyJ8 : Nat → FieldType := fun k => match k with
  | _ => .int
abbrev wsJ80 : List Cond := u_ws RJ8 TJ8 0
theorem nmJ8 : ∀ a, a < 0 → ∀ b, b < 0 → a ≠ b → (TJ8 a).2.1 ≠ (TJ8 b).2.1 := by decide +kernel
theorem tyJ8_ok : ∀ k, k < 0 → parseFieldDescriptor (TJ8 k).2.2.1 = some (tyJ8 k) := by decide +kernel
abbrev cJ8_newLength_cabcc : ByteArray := prog_52_method_27_code
def yJ8_newLength_cabcc : MethodName := ⟨RJ8, "newLength", "(III)I"⟩
abbrev cJ8_hugeLength_7cf53 : ByteArray := prog_52_method_28_code
def yJ8_hugeLength_7cf53 : MethodName := ⟨RJ8, "hugeLength", "(II)I"⟩
def RJ3 : String := "jdk/internal/util/Preconditions"
def TJ3 : u_T := fun k => match k with
  | _ => ("", "", "", false)
def tyJ3 : Nat → FieldType := fun k => match k with
  | _ => .int
abbrev wsJ30 : List Cond := u_ws RJ3 TJ3 0
theorem nmJ3 : ∀ a, a < 0 → ∀ b, b < 0 → a ≠ b → (TJ3 a).2.1 ≠ (TJ3 b).2.1 := by decide +kernel
theorem tyJ3_ok : ∀ k, k < 0 → parseFieldDescriptor (TJ3 k).2.2.1 = some (tyJ3 k) := by decide +kernel
abbrev cJ3_checkIndex_8e157 : ByteArray := prog_53_method_11_code
def yJ3_checkIndex_8e157 : MethodName := ⟨RJ3, "checkIndex", "(IILjava/util/function/BiFunction;)I"⟩
abbrev cJ3_checkFromToIndex_8c36e : ByteArray := prog_53_method_12_code
def yJ3_checkFromToIndex_8c36e : MethodName := ⟨RJ3, "checkFromToIndex", "(IIILjava/util/function/BiFunction;)I"⟩
abbrev cJ3_checkFromIndexSize_8c36e : ByteArray := prog_53_method_13_code
def yJ3_checkFromIndexSize_8c36e : MethodName := ⟨RJ3, "checkFromIndexSize", "(IIILjava/util/function/BiFunction;)I"⟩
def RL : String := "VoussoirYardLaw"
abbrev cL_drawJoint : ByteArray := method_3_code
def yL_drawJoint : MethodName := ⟨RL, "drawJoint", "(LVoussoirYard;IIII[J)I"⟩
abbrev cL_moveJoint : ByteArray := method_4_code
def yL_moveJoint : MethodName := ⟨RL, "moveJoint", "(LVoussoirYard;IIIII[J)I"⟩
abbrev cL_setDensity : ByteArray := method_5_code
def yL_setDensity : MethodName := ⟨RL, "setDensity", "(LVoussoirYard;I[J)I"⟩
abbrev cL_area : ByteArray := method_6_code
def yL_area : MethodName := ⟨RL, "area", "(LVoussoirYard;I[J)I"⟩
abbrev cL_weight : ByteArray := method_7_code
def yL_weight : MethodName := ⟨RL, "weight", "(LVoussoirYard;I[J)I"⟩
abbrev cL_isSafe : ByteArray := method_8_code
def yL_isSafe : MethodName := ⟨RL, "isSafe", "(LVoussoirYard;I[J)I"⟩
abbrev cL_thrust : ByteArray := method_9_code
def yL_thrust : MethodName := ⟨RL, "thrust", "(LVoussoirYard;I[J)I"⟩
abbrev cL_bears : ByteArray := method_10_code
def yL_bears : MethodName := ⟨RL, "bears", "(LVoussoirYard;II[J)I"⟩
abbrev cL_addBlocks : ByteArray := method_11_code
def yL_addBlocks : MethodName := ⟨RL, "addBlocks", "(LVoussoirYard;IIIIZ[J)I"⟩
abbrev cL_blocks : ByteArray := method_12_code
def yL_blocks : MethodName := ⟨RL, "blocks", "(LVoussoirYard;I[J)I"⟩
abbrev cL_bestBlock : ByteArray := method_13_code
def yL_bestBlock : MethodName := ⟨RL, "bestBlock", "(LVoussoirYard;I[J)I"⟩
abbrev cL_addMason : ByteArray := method_14_code
def yL_addMason : MethodName := ⟨RL, "addMason", "(LVoussoirYard;II[J)I"⟩
abbrev cL_cut : ByteArray := method_15_code
def yL_cut : MethodName := ⟨RL, "cut", "(LVoussoirYard;III[J)I"⟩
abbrev cL_readyOn : ByteArray := method_16_code
def yL_readyOn : MethodName := ⟨RL, "readyOn", "(LVoussoirYard;I[J)I"⟩
abbrev cL_stateOf : ByteArray := method_17_code
def yL_stateOf : MethodName := ⟨RL, "stateOf", "(LVoussoirYard;I[J)I"⟩
abbrev cL_mark : ByteArray := method_18_code
def yL_mark : MethodName := ⟨RL, "mark", "(LVoussoirYard;I[J)I"⟩
abbrev cL_markAt : ByteArray := method_19_code
def yL_markAt : MethodName := ⟨RL, "markAt", "(LVoussoirYard;II[J)I"⟩
abbrev cL_fits : ByteArray := method_20_code
def yL_fits : MethodName := ⟨RL, "fits", "(LVoussoirYard;II[J)I"⟩
abbrev cL_setCentre : ByteArray := method_21_code
def yL_setCentre : MethodName := ⟨RL, "setCentre", "(LVoussoirYard;I[J)I"⟩
abbrev cL_set : ByteArray := method_22_code
def yL_set : MethodName := ⟨RL, "set", "(LVoussoirYard;II[J)I"⟩
abbrev cL_stoneIn : ByteArray := method_23_code
def yL_stoneIn : MethodName := ⟨RL, "stoneIn", "(LVoussoirYard;I[J)I"⟩
abbrev cL_strike : ByteArray := method_24_code
def yL_strike : MethodName := ⟨RL, "strike", "(LVoussoirYard;[J)I"⟩
abbrev cL_load : ByteArray := method_25_code
def yL_load : MethodName := ⟨RL, "load", "(LVoussoirYard;II[J)I"⟩
abbrev cL_pass : ByteArray := method_26_code
def yL_pass : MethodName := ⟨RL, "pass", "(LVoussoirYard;I[J)I"⟩
abbrev cL_usedShare : ByteArray := method_27_code
def yL_usedShare : MethodName := ⟨RL, "usedShare", "(LVoussoirYard;[D)I"⟩
abbrev cL_meanArea : ByteArray := method_28_code
def yL_meanArea : MethodName := ⟨RL, "meanArea", "(LVoussoirYard;[D)I"⟩
abbrev cL_law : ByteArray := code
def yL_law : MethodName := ⟨RL, "law", "([I)Z"⟩
theorem inX0 : ∀ w ∈ wsX00, w ∈ lw_tbl := by decide +kernel
theorem inX1 : ∀ w ∈ wsX10, w ∈ lw_tbl := by decide +kernel
theorem inX2 : ∀ w ∈ wsX20, w ∈ lw_tbl := by decide +kernel
theorem inX3 : ∀ w ∈ wsX30, w ∈ lw_tbl := by decide +kernel
theorem inX4 : ∀ w ∈ wsX40, w ∈ lw_tbl := by decide +kernel
theorem inX5 : ∀ w ∈ wsX50, w ∈ lw_tbl := by decide +kernel
theorem inX6 : ∀ w ∈ wsX60, w ∈ lw_tbl := by decide +kernel
theorem inX7 : ∀ w ∈ wsX70, w ∈ lw_tbl := by decide +kernel
theorem inX8 : ∀ w ∈ wsX80, w ∈ lw_tbl := by decide +kernel
theorem inX9 : ∀ w ∈ wsX90, w ∈ lw_tbl := by decide +kernel
theorem inX10 : ∀ w ∈ wsX100, w ∈ lw_tbl := by decide +kernel
theorem inX11 : ∀ w ∈ wsX110, w ∈ lw_tbl := by decide +kernel
theorem inJx145de : ∀ w ∈ wsJx145de0, w ∈ lw_tbl := by decide +kernel
theorem inJ5 : ∀ w ∈ wsJ50, w ∈ lw_tbl := by decide +kernel
theorem inJx2cfe8 : ∀ w ∈ wsJx2cfe80, w ∈ lw_tbl := by decide +kernel
theorem inJx00060 : ∀ w ∈ wsJx000600, w ∈ lw_tbl := by decide +kernel
theorem inJx9f9b0 : ∀ w ∈ wsJx9f9b00, w ∈ lw_tbl := by decide +kernel
theorem inJx8e188 : ∀ w ∈ wsJx8e1880, w ∈ lw_tbl := by decide +kernel
theorem inJxb160c : ∀ w ∈ wsJxb160c0, w ∈ lw_tbl := by decide +kernel
theorem inJ6 : ∀ w ∈ wsJ60, w ∈ lw_tbl := by decide +kernel
theorem inJxab1ab : ∀ w ∈ wsJxab1ab0, w ∈ lw_tbl := by decide +kernel
theorem inJ9 : ∀ w ∈ wsJ90, w ∈ lw_tbl := by decide +kernel
theorem inJxd2413 : ∀ w ∈ wsJxd24130, w ∈ lw_tbl := by decide +kernel
theorem inJ0 : ∀ w ∈ wsJ00, w ∈ lw_tbl := by decide +kernel
theorem inJ4 : ∀ w ∈ wsJ40, w ∈ lw_tbl := by decide +kernel
theorem inJ1 : ∀ w ∈ wsJ10, w ∈ lw_tbl := by decide +kernel
theorem inJ2 : ∀ w ∈ wsJ20, w ∈ lw_tbl := by decide +kernel
theorem inJ10 : ∀ w ∈ wsJ100, w ∈ lw_tbl := by decide +kernel
theorem inJxfd54e : ∀ w ∈ wsJxfd54e0, w ∈ lw_tbl := by decide +kernel
theorem inJx3cf43 : ∀ w ∈ wsJx3cf430, w ∈ lw_tbl := by decide +kernel
theorem inJxa1e45 : ∀ w ∈ wsJxa1e450, w ∈ lw_tbl := by decide +kernel
theorem inJxc12de : ∀ w ∈ wsJxc12de0, w ∈ lw_tbl := by decide +kernel
theorem inJx35411 : ∀ w ∈ wsJx354110, w ∈ lw_tbl := by decide +kernel
theorem inJx4a65c : ∀ w ∈ wsJx4a65c0, w ∈ lw_tbl := by decide +kernel
theorem inJ7 : ∀ w ∈ wsJ70, w ∈ lw_tbl := by decide +kernel
theorem inJx5ef63 : ∀ w ∈ wsJx5ef630, w ∈ lw_tbl := by decide +kernel
theorem inJx4d0d8 : ∀ w ∈ wsJx4d0d80, w ∈ lw_tbl := by decide +kernel
theorem inJxbd725 : ∀ w ∈ wsJxbd7250, w ∈ lw_tbl := by decide +kernel
theorem inJ15 : ∀ w ∈ wsJ150, w ∈ lw_tbl := by decide +kernel
theorem inJxf0a74 : ∀ w ∈ wsJxf0a740, w ∈ lw_tbl := by decide +kernel
theorem inJxa66e6 : ∀ w ∈ wsJxa66e60, w ∈ lw_tbl := by decide +kernel
theorem inJ8 : ∀ w ∈ wsJ80, w ∈ lw_tbl := by decide +kernel
theorem inJ3 : ∀ w ∈ wsJ30, w ∈ lw_tbl := by decide +kernel
abbrev vwCl : List vw_C := [(RJ0, TJ0, 4), (RJ4, TJ4, 4), (RJx00060, TJx00060, 6), (RJx35411, TJx35411, 4), (RJx4a65c, TJx4a65c, 3), (RX0, TX0, 5), (RX1, TX1, 6), (RX2, TX2, 4), (RX3, TX3, 5), (RX4, TX4, 2), (RX5, TX5, 5), (RX6, TX6, 11), (RX7, TX7, 16), (RX8, TX8, 5), (RX9, TX9, 4), (RX10, TX10, 4), (RX11, TX11, 17)]

