/-! classes, by a program out of the printed names -/
def RX0 : String := "DoorsOnCogs$Cutter"
def TX0 : u_T := fun k => match k with
  | 0 => ("DoorsOnCogs$Cutter", "scene", "LDoorsOnCogs$Scene;", true)
  | 1 => ("DoorsOnCogs$Cutter", "rest", "LDoorsOnCogs$Gears;", true)
  | 2 => ("DoorsOnCogs$Cutter", "one", "I", false)
  | _ => ("DoorsOnCogs$Cutter", "other", "I", false)
def tyX0 : Nat → FieldType := fun k => match k with
  | 0 => .object "DoorsOnCogs$Scene"
  | 1 => .object "DoorsOnCogs$Gears"
  | 2 => .int
  | _ => .int
theorem nmX0 : ∀ a, a < 4 → ∀ b, b < 4 → a ≠ b → (TX0 a).2.1 ≠ (TX0 b).2.1 := by decide +kernel
theorem tyX0_ok : ∀ k, k < 4 → parseFieldDescriptor (TX0 k).2.2.1 = some (tyX0 k) := by decide +kernel
def RX1 : String := "DoorsOnCogs$Diary"
def TX1 : u_T := fun k => match k with
  | 0 => ("DoorsOnCogs$Diary", "gears", "LDoorsOnCogs$Gears;", true)
  | 1 => ("DoorsOnCogs$Diary", "book", "LDoorsOnCogs$RuleBook;", true)
  | 2 => ("DoorsOnCogs$Diary", "passes", "I", false)
  | 3 => ("DoorsOnCogs$Diary", "pushed", "I", false)
  | 4 => ("DoorsOnCogs$Diary", "refused", "I", false)
  | _ => ("DoorsOnCogs$Diary", "wear", "[J", true)
def tyX1 : Nat → FieldType := fun k => match k with
  | 0 => .object "DoorsOnCogs$Gears"
  | 1 => .object "DoorsOnCogs$RuleBook"
  | 2 => .int
  | 3 => .int
  | 4 => .int
  | _ => .array .long
theorem nmX1 : ∀ a, a < 6 → ∀ b, b < 6 → a ≠ b → (TX1 a).2.1 ≠ (TX1 b).2.1 := by decide +kernel
theorem tyX1_ok : ∀ k, k < 6 → parseFieldDescriptor (TX1 k).2.2.1 = some (tyX1 k) := by decide +kernel
def RX2 : String := "DoorsOnCogs$Gears"
def TX2 : u_T := fun k => match k with
  | 0 => ("DoorsOnCogs$Gears", "scene", "LDoorsOnCogs$Scene;", true)
  | 1 => ("DoorsOnCogs$Gears", "least", "[I", true)
  | 2 => ("DoorsOnCogs$Gears", "ratioAbove", "[J", true)
  | 3 => ("DoorsOnCogs$Gears", "ratioBelow", "[J", true)
  | 4 => ("DoorsOnCogs$Gears", "below", "[J", true)
  | 5 => ("DoorsOnCogs$Gears", "step", "[J", true)
  | 6 => ("DoorsOnCogs$Gears", "keptSpots", "[J", true)
  | 7 => ("DoorsOnCogs$Gears", "locked", "I", false)
  | _ => ("DoorsOnCogs$Gears", "sets", "I", false)
def tyX2 : Nat → FieldType := fun k => match k with
  | 0 => .object "DoorsOnCogs$Scene"
  | 1 => .array .int
  | 2 => .array .long
  | 3 => .array .long
  | 4 => .array .long
  | 5 => .array .long
  | 6 => .array .long
  | 7 => .int
  | _ => .int
theorem nmX2 : ∀ a, a < 9 → ∀ b, b < 9 → a ≠ b → (TX2 a).2.1 ≠ (TX2 b).2.1 := by decide +kernel
theorem tyX2_ok : ∀ k, k < 9 → parseFieldDescriptor (TX2 k).2.2.1 = some (tyX2 k) := by decide +kernel
def RX3 : String := "DoorsOnCogs$Planner"
def TX3 : u_T := fun k => match k with
  | 0 => ("DoorsOnCogs$Planner", "scene", "LDoorsOnCogs$Scene;", true)
  | 1 => ("DoorsOnCogs$Planner", "gears", "LDoorsOnCogs$Gears;", true)
  | 2 => ("DoorsOnCogs$Planner", "turn", "[J", true)
  | 3 => ("DoorsOnCogs$Planner", "parent", "[I", true)
  | 4 => ("DoorsOnCogs$Planner", "pushCode", "[I", true)
  | 5 => ("DoorsOnCogs$Planner", "table", "[I", true)
  | 6 => ("DoorsOnCogs$Planner", "states", "I", false)
  | 7 => ("DoorsOnCogs$Planner", "freeSlot", "I", false)
  | 8 => ("DoorsOnCogs$Planner", "askedPush", "I", false)
  | 9 => ("DoorsOnCogs$Planner", "first", "I", false)
  | 10 => ("DoorsOnCogs$Planner", "wantedOpen", "I", false)
  | 11 => ("DoorsOnCogs$Planner", "wantedShut", "I", false)
  | 12 => ("DoorsOnCogs$Planner", "pushers", "I", false)
  | 13 => ("DoorsOnCogs$Planner", "watchers", "I", false)
  | 14 => ("DoorsOnCogs$Planner", "lowTurn", "J", false)
  | _ => ("DoorsOnCogs$Planner", "highTurn", "J", false)
def tyX3 : Nat → FieldType := fun k => match k with
  | 0 => .object "DoorsOnCogs$Scene"
  | 1 => .object "DoorsOnCogs$Gears"
  | 2 => .array .long
  | 3 => .array .int
  | 4 => .array .int
  | 5 => .array .int
  | 6 => .int
  | 7 => .int
  | 8 => .int
  | 9 => .int
  | 10 => .int
  | 11 => .int
  | 12 => .int
  | 13 => .int
  | 14 => .long
  | _ => .long
theorem nmX3 : ∀ a, a < 16 → ∀ b, b < 16 → a ≠ b → (TX3 a).2.1 ≠ (TX3 b).2.1 := by decide +kernel
theorem tyX3_ok : ∀ k, k < 16 → parseFieldDescriptor (TX3 k).2.2.1 = some (tyX3 k) := by decide +kernel
def RX4 : String := "DoorsOnCogs$RuleBook"
def TX4 : u_T := fun k => match k with
  | 0 => ("DoorsOnCogs$RuleBook", "gears", "LDoorsOnCogs$Gears;", true)
  | 1 => ("DoorsOnCogs$RuleBook", "rules", "I", false)
  | 2 => ("DoorsOnCogs$RuleBook", "code", "[I", true)
  | 3 => ("DoorsOnCogs$RuleBook", "length", "[I", true)
  | 4 => ("DoorsOnCogs$RuleBook", "stack", "[J", true)
  | _ => ("DoorsOnCogs$RuleBook", "height", "I", false)
def tyX4 : Nat → FieldType := fun k => match k with
  | 0 => .object "DoorsOnCogs$Gears"
  | 1 => .int
  | 2 => .array .int
  | 3 => .array .int
  | 4 => .array .long
  | _ => .int
theorem nmX4 : ∀ a, a < 6 → ∀ b, b < 6 → a ≠ b → (TX4 a).2.1 ≠ (TX4 b).2.1 := by decide +kernel
theorem tyX4_ok : ∀ k, k < 6 → parseFieldDescriptor (TX4 k).2.2.1 = some (tyX4 k) := by decide +kernel
def RX5 : String := "DoorsOnCogs$RuleReader"
def TX5 : u_T := fun k => match k with
  | 0 => ("DoorsOnCogs$RuleReader", "script", "LDoorsOnCogs$Script;", true)
  | 1 => ("DoorsOnCogs$RuleReader", "book", "LDoorsOnCogs$RuleBook;", true)
  | 2 => ("DoorsOnCogs$RuleReader", "waiting", "[I", true)
  | 3 => ("DoorsOnCogs$RuleReader", "waits", "I", false)
  | 4 => ("DoorsOnCogs$RuleReader", "depth", "I", false)
  | 5 => ("DoorsOnCogs$RuleReader", "brackets", "I", false)
  | 6 => ("DoorsOnCogs$RuleReader", "clauses", "I", false)
  | 7 => ("DoorsOnCogs$RuleReader", "values", "I", false)
  | _ => ("DoorsOnCogs$RuleReader", "next", "I", false)
def tyX5 : Nat → FieldType := fun k => match k with
  | 0 => .object "DoorsOnCogs$Script"
  | 1 => .object "DoorsOnCogs$RuleBook"
  | 2 => .array .int
  | 3 => .int
  | 4 => .int
  | 5 => .int
  | 6 => .int
  | 7 => .int
  | _ => .int
theorem nmX5 : ∀ a, a < 9 → ∀ b, b < 9 → a ≠ b → (TX5 a).2.1 ≠ (TX5 b).2.1 := by decide +kernel
theorem tyX5_ok : ∀ k, k < 9 → parseFieldDescriptor (TX5 k).2.2.1 = some (tyX5 k) := by decide +kernel
def RX6 : String := "DoorsOnCogs$Scene"
def TX6 : u_T := fun k => match k with
  | 0 => ("DoorsOnCogs$Scene", "doors", "I", false)
  | 1 => ("DoorsOnCogs$Scene", "teeth", "[I", true)
  | 2 => ("DoorsOnCogs$Scene", "span", "[I", true)
  | 3 => ("DoorsOnCogs$Scene", "fixed", "I", false)
  | 4 => ("DoorsOnCogs$Scene", "joins", "I", false)
  | 5 => ("DoorsOnCogs$Scene", "axles", "I", false)
  | 6 => ("DoorsOnCogs$Scene", "joinOne", "[I", true)
  | 7 => ("DoorsOnCogs$Scene", "joinOther", "[I", true)
  | 8 => ("DoorsOnCogs$Scene", "joinKind", "[I", true)
  | 9 => ("DoorsOnCogs$Scene", "spot", "[J", true)
  | 10 => ("DoorsOnCogs$Scene", "wantedOpen", "I", false)
  | 11 => ("DoorsOnCogs$Scene", "wantedShut", "I", false)
  | 12 => ("DoorsOnCogs$Scene", "seenSet", "I", false)
  | 13 => ("DoorsOnCogs$Scene", "seenTeeth", "[I", true)
  | 14 => ("DoorsOnCogs$Scene", "comings", "I", false)
  | 15 => ("DoorsOnCogs$Scene", "comingDoor", "[I", true)
  | _ => ("DoorsOnCogs$Scene", "x", "I", false)
def tyX6 : Nat → FieldType := fun k => match k with
  | 0 => .int
  | 1 => .array .int
  | 2 => .array .int
  | 3 => .int
  | 4 => .int
  | 5 => .int
  | 6 => .array .int
  | 7 => .array .int
  | 8 => .array .int
  | 9 => .array .long
  | 10 => .int
  | 11 => .int
  | 12 => .int
  | 13 => .array .int
  | 14 => .int
  | 15 => .array .int
  | _ => .int
theorem nmX6 : ∀ a, a < 17 → ∀ b, b < 17 → a ≠ b → (TX6 a).2.1 ≠ (TX6 b).2.1 := by decide +kernel
theorem tyX6_ok : ∀ k, k < 17 → parseFieldDescriptor (TX6 k).2.2.1 = some (tyX6 k) := by decide +kernel
def RX7 : String := "DoorsOnCogs$Script"
def TX7 : u_T := fun k => match k with
  | 0 => ("DoorsOnCogs$Script", "bytes", "[I", true)
  | 1 => ("DoorsOnCogs$Script", "length", "I", false)
  | 2 => ("DoorsOnCogs$Script", "at", "I", false)
  | _ => ("DoorsOnCogs$Script", "fault", "I", false)
def tyX7 : Nat → FieldType := fun k => match k with
  | 0 => .array .int
  | 1 => .int
  | 2 => .int
  | _ => .int
theorem nmX7 : ∀ a, a < 4 → ∀ b, b < 4 → a ≠ b → (TX7 a).2.1 ≠ (TX7 b).2.1 := by decide +kernel
theorem tyX7_ok : ∀ k, k < 4 → parseFieldDescriptor (TX7 k).2.2.1 = some (tyX7 k) := by decide +kernel
def RX8 : String := "DoorsOnCogs$StreetReader"
def TX8 : u_T := fun k => match k with
  | 0 => ("DoorsOnCogs$StreetReader", "script", "LDoorsOnCogs$Script;", true)
  | _ => ("DoorsOnCogs$StreetReader", "draft", "LDoorsOnCogs$Scene;", true)
def tyX8 : Nat → FieldType := fun k => match k with
  | 0 => .object "DoorsOnCogs$Script"
  | _ => .object "DoorsOnCogs$Scene"
theorem nmX8 : ∀ a, a < 2 → ∀ b, b < 2 → a ≠ b → (TX8 a).2.1 ≠ (TX8 b).2.1 := by decide +kernel
theorem tyX8_ok : ∀ k, k < 2 → parseFieldDescriptor (TX8 k).2.2.1 = some (tyX8 k) := by decide +kernel
def RX9 : String := "DoorsOnCogs"
def TX9 : u_T := fun k => match k with
  | 0 => ("DoorsOnCogs", "tape", "[I", true)
  | 1 => ("DoorsOnCogs", "tapeLength", "I", false)
  | 2 => ("DoorsOnCogs", "script", "LDoorsOnCogs$Script;", true)
  | 3 => ("DoorsOnCogs", "scene", "LDoorsOnCogs$Scene;", true)
  | 4 => ("DoorsOnCogs", "draft", "LDoorsOnCogs$Scene;", true)
  | 5 => ("DoorsOnCogs", "images", "[LDoorsOnCogs$Scene;", true)
  | 6 => ("DoorsOnCogs", "isMade", "[Z", true)
  | 7 => ("DoorsOnCogs", "gears", "LDoorsOnCogs$Gears;", true)
  | 8 => ("DoorsOnCogs", "cutter", "LDoorsOnCogs$Cutter;", true)
  | 9 => ("DoorsOnCogs", "planner", "LDoorsOnCogs$Planner;", true)
  | 10 => ("DoorsOnCogs", "book", "LDoorsOnCogs$RuleBook;", true)
  | 11 => ("DoorsOnCogs", "streetReader", "LDoorsOnCogs$StreetReader;", true)
  | 12 => ("DoorsOnCogs", "ruleReader", "LDoorsOnCogs$RuleReader;", true)
  | 13 => ("DoorsOnCogs", "diary", "LDoorsOnCogs$Diary;", true)
  | _ => ("DoorsOnCogs", "drawnComings", "[I", true)
def tyX9 : Nat → FieldType := fun k => match k with
  | 0 => .array .int
  | 1 => .int
  | 2 => .object "DoorsOnCogs$Script"
  | 3 => .object "DoorsOnCogs$Scene"
  | 4 => .object "DoorsOnCogs$Scene"
  | 5 => .array (.object "DoorsOnCogs$Scene")
  | 6 => .array .boolean
  | 7 => .object "DoorsOnCogs$Gears"
  | 8 => .object "DoorsOnCogs$Cutter"
  | 9 => .object "DoorsOnCogs$Planner"
  | 10 => .object "DoorsOnCogs$RuleBook"
  | 11 => .object "DoorsOnCogs$StreetReader"
  | 12 => .object "DoorsOnCogs$RuleReader"
  | 13 => .object "DoorsOnCogs$Diary"
  | _ => .array .int
theorem nmX9 : ∀ a, a < 15 → ∀ b, b < 15 → a ≠ b → (TX9 a).2.1 ≠ (TX9 b).2.1 := by decide +kernel
theorem tyX9_ok : ∀ k, k < 15 → parseFieldDescriptor (TX9 k).2.2.1 = some (tyX9 k) := by decide +kernel
def RX10 : String := "DoorsOnCogsModel"
def TX10 : u_T := fun k => match k with
  | 0 => ("DoorsOnCogsModel", "tape", "[B", true)
  | 1 => ("DoorsOnCogsModel", "taped", "I", false)
  | 2 => ("DoorsOnCogsModel", "rules", "I", false)
  | 3 => ("DoorsOnCogsModel", "sign", "[I", true)
  | 4 => ("DoorsOnCogsModel", "length", "[I", true)
  | 5 => ("DoorsOnCogsModel", "clause", "[I", true)
  | 6 => ("DoorsOnCogsModel", "clauses", "[I", true)
  | 7 => ("DoorsOnCogsModel", "doorsRead", "I", false)
  | 8 => ("DoorsOnCogsModel", "joinsRead", "I", false)
  | 9 => ("DoorsOnCogsModel", "axlesRead", "I", false)
  | 10 => ("DoorsOnCogsModel", "fixedRead", "I", false)
  | 11 => ("DoorsOnCogsModel", "doorRead", "[I", true)
  | 12 => ("DoorsOnCogsModel", "joinRead", "[I", true)
  | 13 => ("DoorsOnCogsModel", "next", "I", false)
  | 14 => ("DoorsOnCogsModel", "wrong", "I", false)
  | 15 => ("DoorsOnCogsModel", "number", "I", false)
  | 16 => ("DoorsOnCogsModel", "text", "I", false)
  | 17 => ("DoorsOnCogsModel", "made", "I", false)
  | 18 => ("DoorsOnCogsModel", "deep", "I", false)
  | 19 => ("DoorsOnCogsModel", "lines", "I", false)
  | 20 => ("DoorsOnCogsModel", "open", "[I", true)
  | 21 => ("DoorsOnCogsModel", "opened", "I", false)
  | 22 => ("DoorsOnCogsModel", "stack", "[J", true)
  | 23 => ("DoorsOnCogsModel", "top", "I", false)
  | 24 => ("DoorsOnCogsModel", "word", "[J", true)
  | 25 => ("DoorsOnCogsModel", "said", "[I", true)
  | 26 => ("DoorsOnCogsModel", "places", "[J", true)
  | 27 => ("DoorsOnCogsModel", "keptPlaces", "[J", true)
  | 28 => ("DoorsOnCogsModel", "leastOf", "[I", true)
  | 29 => ("DoorsOnCogsModel", "ratioUp", "[J", true)
  | 30 => ("DoorsOnCogsModel", "ratioDown", "[J", true)
  | 31 => ("DoorsOnCogsModel", "isLocked", "[Z", true)
  | 32 => ("DoorsOnCogsModel", "parts", "J", false)
  | 33 => ("DoorsOnCogsModel", "further", "[J", true)
  | 34 => ("DoorsOnCogsModel", "cameFrom", "[I", true)
  | 35 => ("DoorsOnCogsModel", "cameBy", "[I", true)
  | 36 => ("DoorsOnCogsModel", "states", "I", false)
  | 37 => ("DoorsOnCogsModel", "slot", "[I", true)
  | 38 => ("DoorsOnCogsModel", "rowed", "[I", true)
  | 39 => ("DoorsOnCogsModel", "rowMany", "I", false)
  | 40 => ("DoorsOnCogsModel", "passed", "I", false)
  | 41 => ("DoorsOnCogsModel", "pushed", "I", false)
  | 42 => ("DoorsOnCogsModel", "refused", "I", false)
  | 43 => ("DoorsOnCogsModel", "wears", "[J", true)
  | 44 => ("DoorsOnCogsModel", "images", "[I", true)
  | 45 => ("DoorsOnCogsModel", "imagePlaces", "[J", true)
  | _ => ("DoorsOnCogsModel", "isMade", "[Z", true)
def tyX10 : Nat → FieldType := fun k => match k with
  | 0 => .array .byte
  | 1 => .int
  | 2 => .int
  | 3 => .array .int
  | 4 => .array .int
  | 5 => .array .int
  | 6 => .array .int
  | 7 => .int
  | 8 => .int
  | 9 => .int
  | 10 => .int
  | 11 => .array .int
  | 12 => .array .int
  | 13 => .int
  | 14 => .int
  | 15 => .int
  | 16 => .int
  | 17 => .int
  | 18 => .int
  | 19 => .int
  | 20 => .array .int
  | 21 => .int
  | 22 => .array .long
  | 23 => .int
  | 24 => .array .long
  | 25 => .array .int
  | 26 => .array .long
  | 27 => .array .long
  | 28 => .array .int
  | 29 => .array .long
  | 30 => .array .long
  | 31 => .array .boolean
  | 32 => .long
  | 33 => .array .long
  | 34 => .array .int
  | 35 => .array .int
  | 36 => .int
  | 37 => .array .int
  | 38 => .array .int
  | 39 => .int
  | 40 => .int
  | 41 => .int
  | 42 => .int
  | 43 => .array .long
  | 44 => .array .int
  | 45 => .array .long
  | _ => .array .boolean
theorem nmX10 : ∀ a, a < 47 → ∀ b, b < 47 → a ≠ b → (TX10 a).2.1 ≠ (TX10 b).2.1 := by decide +kernel
theorem tyX10_ok : ∀ k, k < 47 → parseFieldDescriptor (TX10 k).2.2.1 = some (tyX10 k) := by decide +kernel
abbrev classes : List vw_C := [(RX0, TX0, 4), (RX1, TX1, 6), (RX2, TX2, 9), (RX3, TX3, 16), (RX4, TX4, 6), (RX5, TX5, 9), (RX6, TX6, 17), (RX7, TX7, 4), (RX8, TX8, 2), (RX9, TX9, 15), (RX10, TX10, 47)]
set_option maxRecDepth 20000 in
theorem inX0 : ∀ w ∈ u_ws RX0 TX0 4, w ∈ lw_tbl := by
  intro w hw
  rw [show u_ws RX0 TX0 4 = ([296, 298, 300, 302] : List Nat).filterMap (fun i => lw_tbl[i]?) by decide +kernel] at hw
  obtain ⟨i, -, hi⟩ := List.mem_filterMap.mp hw
  exact List.mem_of_getElem? hi
set_option maxRecDepth 20000 in
theorem inX1 : ∀ w ∈ u_ws RX1 TX1 6, w ∈ lw_tbl := by
  intro w hw
  rw [show u_ws RX1 TX1 6 = ([448, 450, 452, 454, 456, 458] : List Nat).filterMap (fun i => lw_tbl[i]?) by decide +kernel] at hw
  obtain ⟨i, -, hi⟩ := List.mem_filterMap.mp hw
  exact List.mem_of_getElem? hi
set_option maxRecDepth 20000 in
theorem inX2 : ∀ w ∈ u_ws RX2 TX2 9, w ∈ lw_tbl := by
  intro w hw
  rw [show u_ws RX2 TX2 9 = ([264, 266, 268, 270, 272, 274, 276, 278, 280] : List Nat).filterMap (fun i => lw_tbl[i]?) by decide +kernel] at hw
  obtain ⟨i, -, hi⟩ := List.mem_filterMap.mp hw
  exact List.mem_of_getElem? hi
set_option maxRecDepth 20000 in
theorem inX3 : ∀ w ∈ u_ws RX3 TX3 16, w ∈ lw_tbl := by
  intro w hw
  rw [show u_ws RX3 TX3 16 = ([328, 330, 332, 334, 336, 338, 340, 342, 344, 346, 348, 350, 352, 354, 356, 358] : List Nat).filterMap (fun i => lw_tbl[i]?) by decide +kernel] at hw
  obtain ⟨i, -, hi⟩ := List.mem_filterMap.mp hw
  exact List.mem_of_getElem? hi
set_option maxRecDepth 20000 in
theorem inX4 : ∀ w ∈ u_ws RX4 TX4 6, w ∈ lw_tbl := by
  intro w hw
  rw [show u_ws RX4 TX4 6 = ([374, 376, 378, 380, 382, 384] : List Nat).filterMap (fun i => lw_tbl[i]?) by decide +kernel] at hw
  obtain ⟨i, -, hi⟩ := List.mem_filterMap.mp hw
  exact List.mem_of_getElem? hi
set_option maxRecDepth 20000 in
theorem inX5 : ∀ w ∈ u_ws RX5 TX5 9, w ∈ lw_tbl := by
  intro w hw
  rw [show u_ws RX5 TX5 9 = ([415, 417, 419, 421, 423, 425, 427, 429, 431] : List Nat).filterMap (fun i => lw_tbl[i]?) by decide +kernel] at hw
  obtain ⟨i, -, hi⟩ := List.mem_filterMap.mp hw
  exact List.mem_of_getElem? hi
set_option maxRecDepth 20000 in
theorem inX6 : ∀ w ∈ u_ws RX6 TX6 17, w ∈ lw_tbl := by
  intro w hw
  rw [show u_ws RX6 TX6 17 = ([197, 199, 201, 203, 205, 207, 209, 211, 213, 215, 217, 219, 221, 223, 225, 227, 229] : List Nat).filterMap (fun i => lw_tbl[i]?) by decide +kernel] at hw
  obtain ⟨i, -, hi⟩ := List.mem_filterMap.mp hw
  exact List.mem_of_getElem? hi
set_option maxRecDepth 20000 in
theorem inX7 : ∀ w ∈ u_ws RX7 TX7 4, w ∈ lw_tbl := by
  intro w hw
  rw [show u_ws RX7 TX7 4 = ([125, 127, 129, 131] : List Nat).filterMap (fun i => lw_tbl[i]?) by decide +kernel] at hw
  obtain ⟨i, -, hi⟩ := List.mem_filterMap.mp hw
  exact List.mem_of_getElem? hi
set_option maxRecDepth 20000 in
theorem inX8 : ∀ w ∈ u_ws RX8 TX8 2, w ∈ lw_tbl := by
  intro w hw
  rw [show u_ws RX8 TX8 2 = ([395, 397] : List Nat).filterMap (fun i => lw_tbl[i]?) by decide +kernel] at hw
  obtain ⟨i, -, hi⟩ := List.mem_filterMap.mp hw
  exact List.mem_of_getElem? hi
set_option maxRecDepth 20000 in
theorem inX9 : ∀ w ∈ u_ws RX9 TX9 15, w ∈ lw_tbl := by
  intro w hw
  rw [show u_ws RX9 TX9 15 = ([476, 478, 480, 482, 484, 486, 488, 490, 492, 494, 496, 498, 500, 502, 504] : List Nat).filterMap (fun i => lw_tbl[i]?) by decide +kernel] at hw
  obtain ⟨i, -, hi⟩ := List.mem_filterMap.mp hw
  exact List.mem_of_getElem? hi
set_option maxRecDepth 20000 in
theorem inX10 : ∀ w ∈ u_ws RX10 TX10 47, w ∈ lw_tbl := by
  intro w hw
  rw [show u_ws RX10 TX10 47 = ([1224, 1226, 1228, 1230, 1232, 1234, 1236, 1238, 1240, 1242, 1244, 1246, 1248, 1250, 1252, 1254, 1256, 1258, 1260, 1262, 1264, 1266, 1268, 1270, 1272, 1274, 1276, 1278, 1280, 1282, 1284, 1286, 1288, 1290, 1292, 1294, 1296, 1298, 1300, 1302, 1304, 1306, 1308, 1310, 1312, 1314, 1316] : List Nat).filterMap (fun i => lw_tbl[i]?) by decide +kernel] at hw
  obtain ⟨i, -, hi⟩ := List.mem_filterMap.mp hw
  exact List.mem_of_getElem? hi
