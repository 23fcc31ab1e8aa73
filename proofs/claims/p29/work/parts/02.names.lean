def RX0 : String := "CordHouse$ClusterWalk"
def TX0 : u_T := fun k => match k with
  | 0 => ("CordHouse$ClusterWalk", "simple", "Z", false)
  | 1 => ("CordHouse$ClusterWalk", "place", "I", false)
  | 2 => ("CordHouse$ClusterWalk", "worth", "I", false)
  | _ => ("CordHouse$ClusterWalk", "begun", "I", false)
def tyX0 : Nat → FieldType := fun k => match k with
  | 0 => .boolean
  | 1 => .int
  | 2 => .int
  | _ => .int
theorem nmX0 : ∀ a, a < 4 → ∀ b, b < 4 → a ≠ b → (TX0 a).2.1 ≠ (TX0 b).2.1 := by decide +kernel
theorem tyX0_ok : ∀ k, k < 4 → parseFieldDescriptor (TX0 k).2.2.1 = some (tyX0 k) := by decide +kernel
def RX1 : String := "CordHouse$Cords"
def TX1 : u_T := fun k => match k with
  | 0 => ("CordHouse$Cords", "group", "[I", true)
  | 1 => ("CordHouse$Cords", "on", "[I", true)
  | 2 => ("CordHouse$Cords", "colour", "[I", true)
  | 3 => ("CordHouse$Cords", "length", "[I", true)
  | 4 => ("CordHouse$Cords", "tear", "[I", true)
  | 5 => ("CordHouse$Cords", "knots", "[I", true)
  | 6 => ("CordHouse$Cords", "tied", "[I", true)
  | _ => ("CordHouse$Cords", "size", "I", false)
def tyX1 : Nat → FieldType := fun k => match k with
  | 0 => .array .int
  | 1 => .array .int
  | 2 => .array .int
  | 3 => .array .int
  | 4 => .array .int
  | 5 => .array .int
  | 6 => .array .int
  | _ => .int
theorem nmX1 : ∀ a, a < 8 → ∀ b, b < 8 → a ≠ b → (TX1 a).2.1 ≠ (TX1 b).2.1 := by decide +kernel
theorem tyX1_ok : ∀ k, k < 8 → parseFieldDescriptor (TX1 k).2.2.1 = some (tyX1 k) := by decide +kernel
def RX2 : String := "CordHouse$Cure"
def TX2 : u_T := fun k => match k with
  | 0 => ("CordHouse$Cure", "blamed", "[J", true)
  | 1 => ("CordHouse$Cure", "size", "I", false)
  | 2 => ("CordHouse$Cure", "first", "I", false)
  | _ => ("CordHouse$Cure", "second", "I", false)
def tyX2 : Nat → FieldType := fun k => match k with
  | 0 => .array .long
  | 1 => .int
  | 2 => .int
  | _ => .int
theorem nmX2 : ∀ a, a < 4 → ∀ b, b < 4 → a ≠ b → (TX2 a).2.1 ≠ (TX2 b).2.1 := by decide +kernel
theorem tyX2_ok : ∀ k, k < 4 → parseFieldDescriptor (TX2 k).2.2.1 = some (tyX2 k) := by decide +kernel
def RX3 : String := "CordHouse$Groupings"
def TX3 : u_T := fun k => match k with
  | 0 => ("CordHouse$Groupings", "whole", "[I", true)
  | 1 => ("CordHouse$Groupings", "set", "[I", true)
  | 2 => ("CordHouse$Groupings", "size", "I", false)
  | 3 => ("CordHouse$Groupings", "members", "[I", true)
  | 4 => ("CordHouse$Groupings", "numbers", "[I", true)
  | _ => ("CordHouse$Groupings", "unsound", "I", false)
def tyX3 : Nat → FieldType := fun k => match k with
  | 0 => .array .int
  | 1 => .array .int
  | 2 => .int
  | 3 => .array .int
  | 4 => .array .int
  | _ => .int
theorem nmX3 : ∀ a, a < 6 → ∀ b, b < 6 → a ≠ b → (TX3 a).2.1 ≠ (TX3 b).2.1 := by decide +kernel
theorem tyX3_ok : ∀ k, k < 6 → parseFieldDescriptor (TX3 k).2.2.1 = some (tyX3 k) := by decide +kernel
def RX4 : String := "CordHouse$KnotRecord"
def TX4 : u_T := fun k => match k with
  | 0 => ("CordHouse$KnotRecord", "cords", "LCordHouse$Cords;", true)
  | 1 => ("CordHouse$KnotRecord", "sums", "LCordHouse$Sums;", true)
  | 2 => ("CordHouse$KnotRecord", "low", "[I", true)
  | 3 => ("CordHouse$KnotRecord", "high", "[I", true)
  | 4 => ("CordHouse$KnotRecord", "reading", "LCordHouse$Reading;", true)
  | 5 => ("CordHouse$KnotRecord", "gap", "I", false)
  | 6 => ("CordHouse$KnotRecord", "settled", "Z", false)
  | _ => ("CordHouse$KnotRecord", "isRead", "Z", false)
def tyX4 : Nat → FieldType := fun k => match k with
  | 0 => .object "CordHouse$Cords"
  | 1 => .object "CordHouse$Sums"
  | 2 => .array .int
  | 3 => .array .int
  | 4 => .object "CordHouse$Reading"
  | 5 => .int
  | 6 => .boolean
  | _ => .boolean
theorem nmX4 : ∀ a, a < 8 → ∀ b, b < 8 → a ≠ b → (TX4 a).2.1 ≠ (TX4 b).2.1 := by decide +kernel
theorem tyX4_ok : ∀ k, k < 8 → parseFieldDescriptor (TX4 k).2.2.1 = some (tyX4 k) := by decide +kernel
def RX5 : String := "CordHouse$Knotter"
def TX5 : u_T := fun k => match k with
  | 0 => ("CordHouse$Knotter", "planned", "[I", true)
  | 1 => ("CordHouse$Knotter", "before", "[I", true)
  | 2 => ("CordHouse$Knotter", "toldDue", "[I", true)
  | _ => ("CordHouse$Knotter", "size", "I", false)
def tyX5 : Nat → FieldType := fun k => match k with
  | 0 => .array .int
  | 1 => .array .int
  | 2 => .array .int
  | _ => .int
theorem nmX5 : ∀ a, a < 4 → ∀ b, b < 4 → a ≠ b → (TX5 a).2.1 ≠ (TX5 b).2.1 := by decide +kernel
theorem tyX5_ok : ∀ k, k < 4 → parseFieldDescriptor (TX5 k).2.2.1 = some (tyX5 k) := by decide +kernel
def RX6 : String := "CordHouse$Reading"
def TX6 : u_T := fun k => match k with
  | 0 => ("CordHouse$Reading", "first", "[I", true)
  | 1 => ("CordHouse$Reading", "last", "[I", true)
  | 2 => ("CordHouse$Reading", "counts", "[I", true)
  | 3 => ("CordHouse$Reading", "members", "[I", true)
  | 4 => ("CordHouse$Reading", "clusters", "[I", true)
  | 5 => ("CordHouse$Reading", "fault", "[I", true)
  | 6 => ("CordHouse$Reading", "value", "[I", true)
  | 7 => ("CordHouse$Reading", "lost", "[I", true)
  | 8 => ("CordHouse$Reading", "atPlace", "[I", true)
  | 9 => ("CordHouse$Reading", "walk", "LCordHouse$ClusterWalk;", true)
  | 10 => ("CordHouse$Reading", "knotted", "Z", false)
  | 11 => ("CordHouse$Reading", "units", "Z", false)
  | _ => ("CordHouse$Reading", "levels", "I", false)
def tyX6 : Nat → FieldType := fun k => match k with
  | 0 => .array .int
  | 1 => .array .int
  | 2 => .array .int
  | 3 => .array .int
  | 4 => .array .int
  | 5 => .array .int
  | 6 => .array .int
  | 7 => .array .int
  | 8 => .array .int
  | 9 => .object "CordHouse$ClusterWalk"
  | 10 => .boolean
  | 11 => .boolean
  | _ => .int
theorem nmX6 : ∀ a, a < 13 → ∀ b, b < 13 → a ≠ b → (TX6 a).2.1 ≠ (TX6 b).2.1 := by decide +kernel
theorem tyX6_ok : ∀ k, k < 13 → parseFieldDescriptor (TX6 k).2.2.1 = some (tyX6 k) := by decide +kernel
def RX7 : String := "CordHouse$Rounds"
def TX7 : u_T := fun k => match k with
  | 0 => ("CordHouse$Rounds", "low", "[I", true)
  | 1 => ("CordHouse$Rounds", "high", "[I", true)
  | 2 => ("CordHouse$Rounds", "nextLow", "[I", true)
  | 3 => ("CordHouse$Rounds", "nextHigh", "[I", true)
  | 4 => ("CordHouse$Rounds", "done", "I", false)
  | _ => ("CordHouse$Rounds", "broken", "I", false)
def tyX7 : Nat → FieldType := fun k => match k with
  | 0 => .array .int
  | 1 => .array .int
  | 2 => .array .int
  | 3 => .array .int
  | 4 => .int
  | _ => .int
theorem nmX7 : ∀ a, a < 6 → ∀ b, b < 6 → a ≠ b → (TX7 a).2.1 ≠ (TX7 b).2.1 := by decide +kernel
theorem tyX7_ok : ∀ k, k < 6 → parseFieldDescriptor (TX7 k).2.2.1 = some (tyX7 k) := by decide +kernel
def RX8 : String := "CordHouse$Sums"
def TX8 : u_T := fun k => match k with
  | 0 => ("CordHouse$Sums", "whole", "[I", true)
  | 1 => ("CordHouse$Sums", "parts", "[I", true)
  | 2 => ("CordHouse$Sums", "cords", "[I", true)
  | _ => ("CordHouse$Sums", "size", "I", false)
def tyX8 : Nat → FieldType := fun k => match k with
  | 0 => .array .int
  | 1 => .array .int
  | 2 => .array .int
  | _ => .int
theorem nmX8 : ∀ a, a < 4 → ∀ b, b < 4 → a ≠ b → (TX8 a).2.1 ≠ (TX8 b).2.1 := by decide +kernel
theorem tyX8_ok : ∀ k, k < 4 → parseFieldDescriptor (TX8 k).2.2.1 = some (tyX8 k) := by decide +kernel
def RX9 : String := "CordHouse"
def TX9 : u_T := fun k => match k with
  | 0 => ("CordHouse", "records", "[LCordHouse$KnotRecord;", true)
  | 1 => ("CordHouse", "rounds", "LCordHouse$Rounds;", true)
  | 2 => ("CordHouse", "latestCure", "LCordHouse$Cure;", true)
  | 3 => ("CordHouse", "latestFound", "LCordHouse$Groupings;", true)
  | 4 => ("CordHouse", "knotter", "LCordHouse$Knotter;", true)
  | _ => ("CordHouse", "row", "[I", true)
def tyX9 : Nat → FieldType := fun k => match k with
  | 0 => .array (.object "CordHouse$KnotRecord")
  | 1 => .object "CordHouse$Rounds"
  | 2 => .object "CordHouse$Cure"
  | 3 => .object "CordHouse$Groupings"
  | 4 => .object "CordHouse$Knotter"
  | _ => .array .int
theorem nmX9 : ∀ a, a < 6 → ∀ b, b < 6 → a ≠ b → (TX9 a).2.1 ≠ (TX9 b).2.1 := by decide +kernel
theorem tyX9_ok : ∀ k, k < 6 → parseFieldDescriptor (TX9 k).2.2.1 = some (tyX9 k) := by decide +kernel
def RX10 : String := "CordHouseModel"
def TX10 : u_T := fun k => match k with
  | 0 => ("CordHouseModel", "many", "[I", true)
  | 1 => ("CordHouseModel", "gap", "[I", true)
  | 2 => ("CordHouseModel", "group", "[I", true)
  | 3 => ("CordHouseModel", "on", "[I", true)
  | 4 => ("CordHouseModel", "colour", "[I", true)
  | 5 => ("CordHouseModel", "length", "[I", true)
  | 6 => ("CordHouseModel", "torn", "[I", true)
  | 7 => ("CordHouseModel", "knots", "[I", true)
  | 8 => ("CordHouseModel", "height", "[I", true)
  | 9 => ("CordHouseModel", "sort", "[I", true)
  | 10 => ("CordHouseModel", "turns", "[I", true)
  | 11 => ("CordHouseModel", "sums", "[I", true)
  | 12 => ("CordHouseModel", "whole", "[I", true)
  | 13 => ("CordHouseModel", "parts", "[I", true)
  | 14 => ("CordHouseModel", "partOf", "[I", true)
  | 15 => ("CordHouseModel", "settled", "[Z", true)
  | 16 => ("CordHouseModel", "cPlace", "[I", true)
  | 17 => ("CordHouseModel", "cSort", "[I", true)
  | 18 => ("CordHouseModel", "cWorth", "[I", true)
  | 19 => ("CordHouseModel", "clusters", "I", false)
  | 20 => ("CordHouseModel", "placed", "[I", true)
  | 21 => ("CordHouseModel", "lFirst", "[I", true)
  | 22 => ("CordHouseModel", "lLast", "[I", true)
  | 23 => ("CordHouseModel", "lMany", "[I", true)
  | 24 => ("CordHouseModel", "levels", "I", false)
  | 25 => ("CordHouseModel", "hasUnits", "Z", false)
  | 26 => ("CordHouseModel", "isRead", "Z", false)
  | 27 => ("CordHouseModel", "fault", "I", false)
  | 28 => ("CordHouseModel", "value", "I", false)
  | 29 => ("CordHouseModel", "lost", "I", false)
  | 30 => ("CordHouseModel", "numbers", "[I", true)
  | 31 => ("CordHouseModel", "others", "[I", true)
  | 32 => ("CordHouseModel", "keptHeight", "[I", true)
  | 33 => ("CordHouseModel", "keptSort", "[I", true)
  | 34 => ("CordHouseModel", "keptTurns", "[I", true)
  | 35 => ("CordHouseModel", "ownLow", "[I", true)
  | 36 => ("CordHouseModel", "ownHigh", "[I", true)
  | 37 => ("CordHouseModel", "low", "[I", true)
  | 38 => ("CordHouseModel", "high", "[I", true)
  | 39 => ("CordHouseModel", "newLow", "[I", true)
  | 40 => ("CordHouseModel", "newHigh", "[I", true)
  | 41 => ("CordHouseModel", "keptLow", "[I", true)
  | 42 => ("CordHouseModel", "keptHigh", "[I", true)
  | 43 => ("CordHouseModel", "cured", "[I", true)
  | 44 => ("CordHouseModel", "cures", "I", false)
  | 45 => ("CordHouseModel", "inGroup", "[I", true)
  | 46 => ("CordHouseModel", "grouped", "[I", true)
  | 47 => ("CordHouseModel", "sure", "[Z", true)
  | 48 => ("CordHouseModel", "foundOf", "[I", true)
  | 49 => ("CordHouseModel", "foundSet", "[I", true)
  | 50 => ("CordHouseModel", "finds", "I", false)
  | 51 => ("CordHouseModel", "row", "[I", true)
  | _ => ("CordHouseModel", "sureHere", "[Z", true)
def tyX10 : Nat → FieldType := fun k => match k with
  | 0 => .array .int
  | 1 => .array .int
  | 2 => .array .int
  | 3 => .array .int
  | 4 => .array .int
  | 5 => .array .int
  | 6 => .array .int
  | 7 => .array .int
  | 8 => .array .int
  | 9 => .array .int
  | 10 => .array .int
  | 11 => .array .int
  | 12 => .array .int
  | 13 => .array .int
  | 14 => .array .int
  | 15 => .array .boolean
  | 16 => .array .int
  | 17 => .array .int
  | 18 => .array .int
  | 19 => .int
  | 20 => .array .int
  | 21 => .array .int
  | 22 => .array .int
  | 23 => .array .int
  | 24 => .int
  | 25 => .boolean
  | 26 => .boolean
  | 27 => .int
  | 28 => .int
  | 29 => .int
  | 30 => .array .int
  | 31 => .array .int
  | 32 => .array .int
  | 33 => .array .int
  | 34 => .array .int
  | 35 => .array .int
  | 36 => .array .int
  | 37 => .array .int
  | 38 => .array .int
  | 39 => .array .int
  | 40 => .array .int
  | 41 => .array .int
  | 42 => .array .int
  | 43 => .array .int
  | 44 => .int
  | 45 => .array .int
  | 46 => .array .int
  | 47 => .array .boolean
  | 48 => .array .int
  | 49 => .array .int
  | 50 => .int
  | 51 => .array .int
  | _ => .array .boolean
theorem nmX10 : ∀ a, a < 53 → ∀ b, b < 53 → a ≠ b → (TX10 a).2.1 ≠ (TX10 b).2.1 := by decide +kernel
theorem tyX10_ok : ∀ k, k < 53 → parseFieldDescriptor (TX10 k).2.2.1 = some (tyX10 k) := by decide +kernel
def clT : List vw_C := [(RX0, TX0, 4), (RX1, TX1, 8), (RX2, TX2, 4), (RX3, TX3, 6), (RX4, TX4, 8), (RX5, TX5, 4), (RX6, TX6, 13), (RX7, TX7, 6), (RX8, TX8, 4), (RX9, TX9, 6), (RX10, TX10, 53)]
def cnm (o : Nat) : String := [RX0, RX1, RX2, RX3, RX4, RX5, RX6, RX7, RX8, RX9, RX10, "CordHouseLaw", "java/lang/Integer", "java/lang/Math", "java/util/Arrays"].getD o ""
def mtN : List MethodName := [⟨"CordHouseLaw", "law", "([I)Z"⟩,
  ⟨RX9, "<init>", "()V"⟩,
  ⟨RX7, "<init>", "()V"⟩,
  ⟨RX2, "<init>", "()V"⟩,
  ⟨RX3, "<init>", "()V"⟩,
  ⟨RX5, "<init>", "()V"⟩,
  ⟨RX4, "<init>", "()V"⟩,
  ⟨RX1, "<init>", "()V"⟩,
  ⟨RX8, "<init>", "()V"⟩,
  ⟨RX6, "<init>", "()V"⟩,
  ⟨RX0, "<init>", "()V"⟩,
  ⟨RX9, "cord", "(IIII)I"⟩,
  ⟨RX9, "recordOf", "(I)LCordHouse$KnotRecord;"⟩,
  ⟨RX9, "canBeCord", "(II)Z"⟩,
  ⟨RX4, "addCord", "(IIII)I"⟩,
  ⟨RX4, "changed", "()V"⟩,
  ⟨RX9, "hang", "(IIII)I"⟩,
  ⟨RX1, "has", "(I)Z"⟩,
  ⟨RX1, "aboveOneOn", "(I)I"⟩,
  ⟨RX9, "knot", "(IIIII)I"⟩,
  ⟨RX9, "canBeKnot", "(II)Z"⟩,
  ⟨RX1, "isFree", "(II)Z"⟩,
  ⟨RX1, "isWhole", "(II)Z"⟩,
  ⟨RX9, "isAt", "([IIII)Z"⟩,
  ⟨RX9, "countAbove", "([IIII)I"⟩,
  ⟨RX9, "heightOf", "(I)I"⟩,
  ⟨RX9, "pack", "(III)I"⟩,
  ⟨RX1, "insert", "(II)V"⟩,
  ⟨RX9, "insertInto", "([IIII)V"⟩,
  ⟨RX9, "untie", "(III)I"⟩,
  ⟨RX1, "remove", "(II)Z"⟩,
  ⟨RX9, "tear", "(III)I"⟩,
  ⟨RX1, "cutAt", "(II)V"⟩,
  ⟨RX9, "tie", "(III)I"⟩,
  ⟨RX9, "readOf", "(I)LCordHouse$KnotRecord;"⟩,
  ⟨RX4, "readNow", "()LCordHouse$Reading;"⟩,
  ⟨RX6, "read", "(LCordHouse$Cords;I)V"⟩,
  ⟨RX6, "countPlaces", "(LCordHouse$Cords;)V"⟩,
  ⟨"java/util/Arrays", "fill", "([II)V"⟩,
  ⟨RX0, "begin", "()V"⟩,
  ⟨RX0, "endsAt", "(LCordHouse$Cords;II)Z"⟩,
  ⟨RX9, "sortOf", "(I)I"⟩,
  ⟨RX9, "turnsOf", "(I)I"⟩,
  ⟨RX6, "findLevels", "(I)V"⟩,
  ⟨RX6, "mostLevels", "()I"⟩,
  ⟨RX6, "readWithoutLevels", "()V"⟩,
  ⟨RX6, "countLevels", "()V"⟩,
  ⟨RX6, "readCord", "(LCordHouse$Cords;I)V"⟩,
  ⟨RX6, "levelOf", "(I)I"⟩,
  ⟨RX6, "isLost", "(II)Z"⟩,
  ⟨RX6, "lostOf", "(I)I"⟩,
  ⟨RX5, "plan", "(LCordHouse$Reading;II)Z"⟩,
  ⟨RX5, "planDigit", "(IZII)Z"⟩,
  ⟨RX5, "planKnot", "(IIII)Z"⟩,
  ⟨RX5, "knotAsPlanned", "(LCordHouse$KnotRecord;II)Z"⟩,
  ⟨RX6, "told", "(I)I"⟩,
  ⟨RX5, "put", "(LCordHouse$KnotRecord;I[II)Z"⟩,
  ⟨RX4, "readAgain", "()V"⟩,
  ⟨RX5, "readsAsDue", "(LCordHouse$KnotRecord;)Z"⟩,
  ⟨RX9, "gap", "(II)I"⟩,
  ⟨RX9, "clear", "(I)I"⟩,
  ⟨RX4, "makeEmpty", "()V"⟩,
  ⟨RX9, "copy", "(II)I"⟩,
  ⟨RX4, "becomeLike", "(LCordHouse$KnotRecord;)V"⟩,
  ⟨RX1, "becomeLike", "(LCordHouse$Cords;)Z"⟩,
  ⟨RX9, "takeRow", "([I[III)Z"⟩,
  ⟨RX8, "becomeLike", "(LCordHouse$Sums;)Z"⟩,
  ⟨RX9, "about", "(III)I"⟩,
  ⟨RX1, "howManyOn", "(I)I"⟩,
  ⟨RX9, "knotAt", "(IIII)I"⟩,
  ⟨RX9, "levels", "(I)I"⟩,
  ⟨RX9, "level", "(III)I"⟩,
  ⟨RX9, "number", "(II)I"⟩,
  ⟨RX9, "under", "(II)I"⟩,
  ⟨RX4, "isSound", "(I)Z"⟩,
  ⟨RX9, "sum", "(II)I"⟩,
  ⟨RX8, "begin", "(I)V"⟩,
  ⟨RX9, "part", "(II)I"⟩,
  ⟨RX8, "holds", "(II)Z"⟩,
  ⟨RX8, "partOf", "(II)I"⟩,
  ⟨RX8, "addPart", "(II)V"⟩,
  ⟨RX9, "drop", "(I)I"⟩,
  ⟨RX9, "sumAt", "(III)I"⟩,
  ⟨RX4, "keepsSum", "(I)I"⟩,
  ⟨RX8, "counts", "(I)Z"⟩,
  ⟨RX9, "settle", "(I)I"⟩,
  ⟨RX7, "run", "(LCordHouse$KnotRecord;II)I"⟩,
  ⟨RX7, "takeOwnSpans", "(LCordHouse$KnotRecord;II)V"⟩,
  ⟨RX6, "ownLeast", "(I)I"⟩,
  ⟨RX6, "ownGreatest", "(I)I"⟩,
  ⟨RX7, "doRound", "(LCordHouse$KnotRecord;)Z"⟩,
  ⟨RX7, "narrow", "(LCordHouse$Sums;I)V"⟩,
  ⟨RX7, "keepWithin", "(III)V"⟩,
  ⟨RX7, "firstNone", "(I)I"⟩,
  ⟨RX4, "keepSpans", "(LCordHouse$Rounds;)V"⟩,
  ⟨RX9, "span", "(III)I"⟩,
  ⟨RX9, "cure", "(I)I"⟩,
  ⟨RX2, "seek", "(LCordHouse$KnotRecord;LCordHouse$Rounds;)I"⟩,
  ⟨RX2, "keep", "(III)I"⟩,
  ⟨RX2, "reachOfBreak", "(LCordHouse$KnotRecord;LCordHouse$Rounds;)J"⟩,
  ⟨RX2, "widen", "(LCordHouse$Sums;J)J"⟩,
  ⟨RX8, "asBits", "(I)J"⟩,
  ⟨RX2, "isIn", "(JI)Z"⟩,
  ⟨RX2, "seekPair", "(LCordHouse$KnotRecord;LCordHouse$Rounds;)I"⟩,
  ⟨RX9, "cured", "(I)I"⟩,
  ⟨RX2, "cordAt", "(I)I"⟩,
  ⟨RX9, "found", "(I)I"⟩,
  ⟨RX3, "seek", "(LCordHouse$KnotRecord;)I"⟩,
  ⟨RX3, "gather", "(LCordHouse$KnotRecord;)V"⟩,
  ⟨RX3, "canBeWhole", "(I)Z"⟩,
  ⟨RX3, "isUsable", "(I)Z"⟩,
  ⟨RX3, "seekSets", "(I)Z"⟩,
  ⟨RX3, "matesOf", "(I)I"⟩,
  ⟨"java/lang/Integer", "bitCount", "(I)I"⟩,
  ⟨RX3, "addsUp", "(II)Z"⟩,
  ⟨RX9, "grouping", "(II)I"⟩,
  ⟨RX9, "period", "(II)I"⟩,
  ⟨RX1, "coloursOfGroup", "(I[I)I"⟩,
  ⟨RX9, "repeats", "([III)Z"⟩,
  ⟨RX9, "likeness", "(II)I"⟩,
  ⟨RX9, "growLikeness", "(LCordHouse$KnotRecord;ILCordHouse$KnotRecord;)V"⟩,
  ⟨RX9, "areAlike", "(LCordHouse$KnotRecord;ILCordHouse$KnotRecord;I)Z"⟩,
  ⟨"java/lang/Math", "max", "(II)I"⟩,
  ⟨RX9, "count", "(II)I"⟩,
  ⟨RX1, "allKnots", "()I"⟩,
  ⟨RX1, "howManyTorn", "()I"⟩,
  ⟨RX6, "howManyFaults", "(I)I"⟩,
  ⟨RX10, "<init>", "()V"⟩,
  ⟨RX10, "cord", "(IIII)I"⟩,
  ⟨RX10, "isRecord", "(I)Z"⟩,
  ⟨RX10, "in", "(III)Z"⟩,
  ⟨RX10, "isKind", "(II)Z"⟩,
  ⟨RX10, "add", "(IIIII)I"⟩,
  ⟨RX10, "changes", "(I)V"⟩,
  ⟨RX10, "hang", "(IIII)I"⟩,
  ⟨RX10, "isCord", "(II)Z"⟩,
  ⟨RX10, "knot", "(IIIII)I"⟩,
  ⟨RX10, "find", "(II)I"⟩,
  ⟨RX10, "put", "(IIII)V"⟩,
  ⟨RX10, "untie", "(III)I"⟩,
  ⟨RX10, "tear", "(III)I"⟩,
  ⟨RX10, "gap", "(II)I"⟩,
  ⟨RX10, "clear", "(I)I"⟩,
  ⟨RX10, "copy", "(II)I"⟩,
  ⟨RX10, "copyKnots", "(II)V"⟩,
  ⟨RX10, "about", "(III)I"⟩,
  ⟨RX10, "cluster", "(I)V"⟩,
  ⟨RX10, "read", "(I)Z"⟩,
  ⟨RX10, "readCord", "(I)V"⟩,
  ⟨RX10, "levelOf", "(I)I"⟩,
  ⟨RX10, "isLost", "(II)Z"⟩,
  ⟨RX10, "counts", "(I)I"⟩,
  ⟨RX10, "knotAt", "(IIII)I"⟩,
  ⟨RX10, "levels", "(I)I"⟩,
  ⟨RX10, "level", "(III)I"⟩,
  ⟨RX10, "number", "(II)I"⟩,
  ⟨RX10, "under", "(II)I"⟩,
  ⟨RX10, "readAll", "(I[I)V"⟩,
  ⟨RX10, "isSure", "(II)Z"⟩,
  ⟨RX10, "tie", "(III)I"⟩,
  ⟨RX10, "ties", "(II)Z"⟩,
  ⟨RX10, "sum", "(II)I"⟩,
  ⟨RX10, "part", "(II)I"⟩,
  ⟨RX10, "drop", "(I)I"⟩,
  ⟨RX10, "sumAt", "(III)I"⟩,
  ⟨RX10, "settle", "(I)I"⟩,
  ⟨RX10, "own", "(I)V"⟩,
  ⟨RX10, "rounds", "(IIII)I"⟩,
  ⟨RX10, "round", "(I)Z"⟩,
  ⟨RX10, "greater", "(II)I"⟩,
  ⟨RX10, "less", "(II)I"⟩,
  ⟨RX10, "isBroken", "(I)Z"⟩,
  ⟨RX10, "span", "(III)I"⟩,
  ⟨RX10, "cure", "(I)I"⟩,
  ⟨RX10, "isCure", "(III)I"⟩,
  ⟨RX10, "cured", "(I)I"⟩,
  ⟨RX10, "found", "(I)I"⟩,
  ⟨RX10, "groups", "(I)V"⟩,
  ⟨RX10, "isGrouping", "(II)Z"⟩,
  ⟨RX10, "grouping", "(II)I"⟩,
  ⟨RX10, "period", "(II)I"⟩,
  ⟨RX10, "likeness", "(II)I"⟩,
  ⟨RX10, "count", "(II)I"⟩]
def mtC : List ByteArray := [code, prog_1_method_1_code, prog_9_method_1_code, prog_4_method_1_code, prog_5_method_1_code, prog_7_method_1_code, prog_6_method_1_code, prog_3_method_1_code, prog_10_method_1_code, prog_8_method_1_code, prog_2_method_1_code, prog_1_method_2_code, prog_1_method_30_code, prog_1_method_35_code, prog_6_method_6_code, prog_6_method_2_code, prog_1_method_3_code, prog_3_method_2_code, prog_3_method_3_code, prog_1_method_4_code, prog_1_method_36_code, prog_3_method_9_code, prog_3_method_8_code, prog_1_method_42_code, prog_1_method_41_code, prog_1_method_38_code, prog_1_method_37_code, prog_3_method_10_code, prog_1_method_43_code, prog_1_method_5_code, prog_3_method_11_code, prog_1_method_6_code, prog_3_method_12_code, prog_1_method_7_code, prog_1_method_31_code, prog_6_method_4_code, prog_8_method_2_code, prog_8_method_7_code, prog_16_method_103_code, prog_2_method_2_code, prog_2_method_3_code, prog_1_method_39_code, prog_1_method_40_code, prog_8_method_8_code, prog_8_method_9_code, prog_8_method_12_code, prog_8_method_10_code, prog_8_method_11_code, prog_8_method_15_code, prog_8_method_14_code, prog_8_method_13_code, prog_7_method_5_code, prog_7_method_6_code, prog_7_method_7_code, prog_7_method_2_code, prog_8_method_3_code, prog_7_method_3_code, prog_6_method_3_code, prog_7_method_4_code, prog_1_method_8_code, prog_1_method_9_code, prog_6_method_7_code, prog_1_method_10_code, prog_6_method_8_code, prog_3_method_13_code, prog_1_method_44_code, prog_10_method_8_code, prog_1_method_11_code, prog_3_method_4_code, prog_1_method_12_code, prog_1_method_13_code, prog_1_method_14_code, prog_1_method_15_code, prog_1_method_16_code, prog_6_method_5_code, prog_1_method_17_code, prog_10_method_2_code, prog_1_method_18_code, prog_10_method_4_code, prog_10_method_3_code, prog_10_method_5_code, prog_1_method_19_code, prog_1_method_20_code, prog_6_method_9_code, prog_10_method_6_code, prog_1_method_21_code, prog_9_method_2_code, prog_9_method_3_code, prog_8_method_4_code, prog_8_method_5_code, prog_9_method_4_code, prog_9_method_5_code, prog_9_method_6_code, prog_9_method_7_code, prog_6_method_10_code, prog_1_method_22_code, prog_1_method_23_code, prog_4_method_3_code, prog_4_method_5_code, prog_4_method_7_code, prog_4_method_8_code, prog_10_method_7_code, prog_4_method_6_code, prog_4_method_4_code, prog_1_method_24_code, prog_4_method_2_code, prog_1_method_25_code, prog_5_method_2_code, prog_5_method_3_code, prog_5_method_5_code, prog_5_method_4_code, prog_5_method_6_code, prog_5_method_7_code, prog_13_method_49_code, prog_5_method_8_code, prog_1_method_26_code, prog_1_method_27_code, prog_3_method_7_code, prog_1_method_34_code, prog_1_method_28_code, prog_1_method_32_code, prog_1_method_33_code, prog_14_method_65_code, prog_1_method_29_code, prog_3_method_6_code, prog_3_method_5_code, prog_8_method_6_code, prog_12_method_1_code, prog_12_method_8_code, prog_12_method_3_code, prog_12_method_2_code, prog_12_method_7_code, prog_12_method_6_code, prog_12_method_5_code, prog_12_method_9_code, prog_12_method_4_code, prog_12_method_12_code, prog_12_method_10_code, prog_12_method_11_code, prog_12_method_13_code, prog_12_method_14_code, prog_12_method_15_code, prog_12_method_16_code, prog_12_method_17_code, prog_12_method_18_code, prog_12_method_25_code, prog_12_method_19_code, prog_12_method_20_code, prog_12_method_23_code, prog_12_method_22_code, prog_12_method_24_code, prog_12_method_21_code, prog_12_method_26_code, prog_12_method_27_code, prog_12_method_28_code, prog_12_method_29_code, prog_12_method_32_code, prog_12_method_30_code, prog_12_method_31_code, prog_12_method_33_code, prog_12_method_34_code, prog_12_method_35_code, prog_12_method_36_code, prog_12_method_37_code, prog_12_method_38_code, prog_12_method_45_code, prog_12_method_39_code, prog_12_method_44_code, prog_12_method_42_code, prog_12_method_40_code, prog_12_method_41_code, prog_12_method_43_code, prog_12_method_46_code, prog_12_method_47_code, prog_12_method_48_code, prog_12_method_49_code, prog_12_method_52_code, prog_12_method_50_code, prog_12_method_51_code, prog_12_method_53_code, prog_12_method_54_code, prog_12_method_55_code, prog_12_method_56_code]
