def RX0 : String := "NameRolls$Bridge"
def TX0 : u_T := fun k => match k with
  | 0 => ("NameRolls$Bridge", "minutesOf", "[[I", true)
  | 1 => ("NameRolls$Bridge", "sizes", "[I", true)
  | 2 => ("NameRolls$Bridge", "over", "[[I", true)
  | 3 => ("NameRolls$Bridge", "rests", "[[I", true)
  | 4 => ("NameRolls$Bridge", "total", "[I", true)
  | 5 => ("NameRolls$Bridge", "least", "[I", true)
  | 6 => ("NameRolls$Bridge", "walks", "[I", true)
  | 7 => ("NameRolls$Bridge", "starts", "[I", true)
  | _ => ("NameRolls$Bridge", "length", "I", false)
def tyX0 : Nat → FieldType := fun k => match k with
  | 0 => (.array (.array .int))
  | 1 => (.array .int)
  | 2 => (.array (.array .int))
  | 3 => (.array (.array .int))
  | 4 => (.array .int)
  | 5 => (.array .int)
  | 6 => (.array .int)
  | 7 => (.array .int)
  | _ => .int
theorem nmX0 : ∀ a, a < 9 → ∀ b, b < 9 → a ≠ b → (TX0 a).2.1 ≠ (TX0 b).2.1 := by decide +kernel
theorem tyX0_ok : ∀ k, k < 9 → parseFieldDescriptor (TX0 k).2.2.1 = some (tyX0 k) := by decide +kernel
def RX1 : String := "NameRolls$Crowd"
def TX1 : u_T := fun k => match k with
  | 0 => ("NameRolls$Crowd", "people", "[LNameRolls$Person;", true)
  | 1 => ("NameRolls$Crowd", "size", "I", false)
  | 2 => ("NameRolls$Crowd", "day", "I", false)
  | 3 => ("NameRolls$Crowd", "stays", "I", false)
  | 4 => ("NameRolls$Crowd", "land", "LNameRolls$Land;", true)
  | 5 => ("NameRolls$Crowd", "rises", "[I", true)
  | 6 => ("NameRolls$Crowd", "stayOwner", "[I", true)
  | 7 => ("NameRolls$Crowd", "stayCamp", "[I", true)
  | 8 => ("NameRolls$Crowd", "stayFrom", "[I", true)
  | 9 => ("NameRolls$Crowd", "stayTo", "[I", true)
  | 10 => ("NameRolls$Crowd", "soughtCamp", "[I", true)
  | 11 => ("NameRolls$Crowd", "soughtFrom", "[I", true)
  | 12 => ("NameRolls$Crowd", "soughtTo", "[I", true)
  | 13 => ("NameRolls$Crowd", "soughtSize", "I", false)
  | 14 => ("NameRolls$Crowd", "foundOnes", "[I", true)
  | 15 => ("NameRolls$Crowd", "foundSize", "I", false)
  | 16 => ("NameRolls$Crowd", "bodiesRun", "[I", true)
  | _ => ("NameRolls$Crowd", "bodiesKept", "I", false)
def tyX1 : Nat → FieldType := fun k => match k with
  | 0 => (.array (.object "NameRolls$Person"))
  | 1 => .int
  | 2 => .int
  | 3 => .int
  | 4 => (.object "NameRolls$Land")
  | 5 => (.array .int)
  | 6 => (.array .int)
  | 7 => (.array .int)
  | 8 => (.array .int)
  | 9 => (.array .int)
  | 10 => (.array .int)
  | 11 => (.array .int)
  | 12 => (.array .int)
  | 13 => .int
  | 14 => (.array .int)
  | 15 => .int
  | 16 => (.array .int)
  | _ => .int
theorem nmX1 : ∀ a, a < 18 → ∀ b, b < 18 → a ≠ b → (TX1 a).2.1 ≠ (TX1 b).2.1 := by decide +kernel
theorem tyX1_ok : ∀ k, k < 18 → parseFieldDescriptor (TX1 k).2.2.1 = some (tyX1 k) := by decide +kernel
def RX2 : String := "NameRolls$Land"
def TX2 : u_T := fun k => match k with
  | 0 => ("NameRolls$Land", "sides", "[I", true)
  | 1 => ("NameRolls$Land", "beds", "[I", true)
  | 2 => ("NameRolls$Land", "camps", "I", false)
  | 3 => ("NameRolls$Land", "roads", "[I", true)
  | 4 => ("NameRolls$Land", "distance", "[I", true)
  | _ => ("NameRolls$Land", "settled", "[Z", true)
def tyX2 : Nat → FieldType := fun k => match k with
  | 0 => (.array .int)
  | 1 => (.array .int)
  | 2 => .int
  | 3 => (.array .int)
  | 4 => (.array .int)
  | _ => (.array .boolean)
theorem nmX2 : ∀ a, a < 6 → ∀ b, b < 6 → a ≠ b → (TX2 a).2.1 ≠ (TX2 b).2.1 := by decide +kernel
theorem tyX2_ok : ∀ k, k < 6 → parseFieldDescriptor (TX2 k).2.2.1 = some (tyX2 k) := by decide +kernel
def RX3 : String := "NameRolls$Person"
def TX3 : u_T := fun k => match k with
  | 0 => ("NameRolls$Person", "number", "I", true)
  | 1 => ("NameRolls$Person", "kind", "I", true)
  | 2 => ("NameRolls$Person", "side", "I", true)
  | 3 => ("NameRolls$Person", "age", "I", true)
  | 4 => ("NameRolls$Person", "with", "I", true)
  | 5 => ("NameRolls$Person", "came", "I", true)
  | 6 => ("NameRolls$Person", "grade", "I", false)
  | 7 => ("NameRolls$Person", "gradeDay", "I", false)
  | 8 => ("NameRolls$Person", "state", "I", false)
  | 9 => ("NameRolls$Person", "stateDay", "I", false)
  | 10 => ("NameRolls$Person", "place", "I", false)
  | _ => ("NameRolls$Person", "there", "I", false)
def tyX3 : Nat → FieldType := fun k => match k with
  | 0 => .int
  | 1 => .int
  | 2 => .int
  | 3 => .int
  | 4 => .int
  | 5 => .int
  | 6 => .int
  | 7 => .int
  | 8 => .int
  | 9 => .int
  | 10 => .int
  | _ => .int
theorem nmX3 : ∀ a, a < 12 → ∀ b, b < 12 → a ≠ b → (TX3 a).2.1 ≠ (TX3 b).2.1 := by decide +kernel
theorem tyX3_ok : ∀ k, k < 12 → parseFieldDescriptor (TX3 k).2.2.1 = some (tyX3 k) := by decide +kernel
def RX4 : String := "NameRolls$Reader"
def TX4 : u_T := fun k => match k with
  | 0 => ("NameRolls$Reader", "values", "[I", true)
  | 1 => ("NameRolls$Reader", "fault", "I", false)
  | 2 => ("NameRolls$Reader", "line", "I", false)
  | 3 => ("NameRolls$Reader", "bytes", "[B", false)
  | 4 => ("NameRolls$Reader", "end", "I", false)
  | _ => ("NameRolls$Reader", "at", "I", false)
def tyX4 : Nat → FieldType := fun k => match k with
  | 0 => (.array .int)
  | 1 => .int
  | 2 => .int
  | 3 => (.array .byte)
  | 4 => .int
  | _ => .int
theorem nmX4 : ∀ a, a < 6 → ∀ b, b < 6 → a ≠ b → (TX4 a).2.1 ≠ (TX4 b).2.1 := by decide +kernel
theorem tyX4_ok : ∀ k, k < 6 → parseFieldDescriptor (TX4 k).2.2.1 = some (tyX4 k) := by decide +kernel
def RX5 : String := "NameRolls$Rolls"
def TX5 : u_T := fun k => match k with
  | 0 => ("NameRolls$Rolls", "size", "I", false)
  | 1 => ("NameRolls$Rolls", "sideOf", "[I", true)
  | 2 => ("NameRolls$Rolls", "letters", "[[I", true)
  | 3 => ("NameRolls$Rolls", "length", "[I", true)
  | 4 => ("NameRolls$Rolls", "ageOf", "[I", true)
  | 5 => ("NameRolls$Rolls", "unitOf", "[I", true)
  | 6 => ("NameRolls$Rolls", "alike", "[Z", true)
  | 7 => ("NameRolls$Rolls", "groupOf", "[I", true)
  | 8 => ("NameRolls$Rolls", "reached", "[I", true)
  | 9 => ("NameRolls$Rolls", "items", "[[S", true)
  | 10 => ("NameRolls$Rolls", "tableSort", "[I", true)
  | 11 => ("NameRolls$Rolls", "tableSize", "[I", true)
  | _ => ("NameRolls$Rolls", "blankMark", "I", false)
def tyX5 : Nat → FieldType := fun k => match k with
  | 0 => .int
  | 1 => (.array .int)
  | 2 => (.array (.array .int))
  | 3 => (.array .int)
  | 4 => (.array .int)
  | 5 => (.array .int)
  | 6 => (.array .boolean)
  | 7 => (.array .int)
  | 8 => (.array .int)
  | 9 => (.array (.array .short))
  | 10 => (.array .int)
  | 11 => (.array .int)
  | _ => .int
theorem nmX5 : ∀ a, a < 13 → ∀ b, b < 13 → a ≠ b → (TX5 a).2.1 ≠ (TX5 b).2.1 := by decide +kernel
theorem tyX5_ok : ∀ k, k < 13 → parseFieldDescriptor (TX5 k).2.2.1 = some (tyX5 k) := by decide +kernel
def RX6 : String := "NameRolls$Rounds"
def TX6 : u_T := fun k => match k with
  | 0 => ("NameRolls$Rounds", "goes", "[I", true)
  | 1 => ("NameRolls$Rounds", "comes", "[I", true)
  | 2 => ("NameRolls$Rounds", "size", "I", false)
  | 3 => ("NameRolls$Rounds", "aims", "[I", true)
  | 4 => ("NameRolls$Rounds", "aimSize", "I", false)
  | 5 => ("NameRolls$Rounds", "trial", "[I", true)
  | 6 => ("NameRolls$Rounds", "most", "I", false)
  | 7 => ("NameRolls$Rounds", "bestOrder", "[I", true)
  | _ => ("NameRolls$Rounds", "orderSize", "I", false)
def tyX6 : Nat → FieldType := fun k => match k with
  | 0 => (.array .int)
  | 1 => (.array .int)
  | 2 => .int
  | 3 => (.array .int)
  | 4 => .int
  | 5 => (.array .int)
  | 6 => .int
  | 7 => (.array .int)
  | _ => .int
theorem nmX6 : ∀ a, a < 9 → ∀ b, b < 9 → a ≠ b → (TX6 a).2.1 ≠ (TX6 b).2.1 := by decide +kernel
theorem tyX6_ok : ∀ k, k < 9 → parseFieldDescriptor (TX6 k).2.2.1 = some (tyX6 k) := by decide +kernel
def RX7 : String := "NameRolls$Ship"
def TX7 : u_T := fun k => match k with
  | 0 => ("NameRolls$Ship", "land", "LNameRolls$Land;", true)
  | 1 => ("NameRolls$Ship", "crowd", "LNameRolls$Crowd;", true)
  | 2 => ("NameRolls$Ship", "told", "I", false)
  | 3 => ("NameRolls$Ship", "camps", "[I", true)
  | 4 => ("NameRolls$Ship", "stretchersOf", "[I", true)
  | 5 => ("NameRolls$Ship", "feetOf", "[I", true)
  | 6 => ("NameRolls$Ship", "readyOf", "[I", true)
  | 7 => ("NameRolls$Ship", "fits", "[Z", true)
  | 8 => ("NameRolls$Ship", "people", "[I", true)
  | 9 => ("NameRolls$Ship", "ready", "[I", true)
  | 10 => ("NameRolls$Ship", "turnDays", "I", false)
  | 11 => ("NameRolls$Ship", "trialSets", "[I", true)
  | 12 => ("NameRolls$Ship", "trialDays", "[I", true)
  | 13 => ("NameRolls$Ship", "leastSum", "I", false)
  | 14 => ("NameRolls$Ship", "bestSets", "[I", true)
  | 15 => ("NameRolls$Ship", "bestDays", "[I", true)
  | _ => ("NameRolls$Ship", "voyages", "I", false)
def tyX7 : Nat → FieldType := fun k => match k with
  | 0 => (.object "NameRolls$Land")
  | 1 => (.object "NameRolls$Crowd")
  | 2 => .int
  | 3 => (.array .int)
  | 4 => (.array .int)
  | 5 => (.array .int)
  | 6 => (.array .int)
  | 7 => (.array .boolean)
  | 8 => (.array .int)
  | 9 => (.array .int)
  | 10 => .int
  | 11 => (.array .int)
  | 12 => (.array .int)
  | 13 => .int
  | 14 => (.array .int)
  | 15 => (.array .int)
  | _ => .int
theorem nmX7 : ∀ a, a < 17 → ∀ b, b < 17 → a ≠ b → (TX7 a).2.1 ≠ (TX7 b).2.1 := by decide +kernel
theorem tyX7_ok : ∀ k, k < 17 → parseFieldDescriptor (TX7 k).2.2.1 = some (tyX7 k) := by decide +kernel
def RX8 : String := "NameRolls$Texts"
def TX8 : u_T := fun k => match k with
  | 0 => ("NameRolls$Texts", "size", "I", false)
  | 1 => ("NameRolls$Texts", "tapeSize", "I", false)
  | 2 => ("NameRolls$Texts", "crowd", "LNameRolls$Crowd;", true)
  | 3 => ("NameRolls$Texts", "tidings", "LNameRolls$Tidings;", true)
  | 4 => ("NameRolls$Texts", "reader", "LNameRolls$Reader;", true)
  | 5 => ("NameRolls$Texts", "tape", "[B", true)
  | 6 => ("NameRolls$Texts", "bodies", "[[B", true)
  | 7 => ("NameRolls$Texts", "bodySize", "[I", true)
  | 8 => ("NameRolls$Texts", "purpose", "[I", true)
  | 9 => ("NameRolls$Texts", "madeOn", "[I", true)
  | _ => ("NameRolls$Texts", "forceFrom", "[I", true)
def tyX8 : Nat → FieldType := fun k => match k with
  | 0 => .int
  | 1 => .int
  | 2 => (.object "NameRolls$Crowd")
  | 3 => (.object "NameRolls$Tidings")
  | 4 => (.object "NameRolls$Reader")
  | 5 => (.array .byte)
  | 6 => (.array (.array .byte))
  | 7 => (.array .int)
  | 8 => (.array .int)
  | 9 => (.array .int)
  | _ => (.array .int)
theorem nmX8 : ∀ a, a < 11 → ∀ b, b < 11 → a ≠ b → (TX8 a).2.1 ≠ (TX8 b).2.1 := by decide +kernel
theorem tyX8_ok : ∀ k, k < 11 → parseFieldDescriptor (TX8 k).2.2.1 = some (tyX8 k) := by decide +kernel
def RX9 : String := "NameRolls$Tidings"
def TX9 : u_T := fun k => match k with
  | 0 => ("NameRolls$Tidings", "facts", "I", false)
  | 1 => ("NameRolls$Tidings", "letters", "I", false)
  | 2 => ("NameRolls$Tidings", "promises", "I", false)
  | 3 => ("NameRolls$Tidings", "crowd", "LNameRolls$Crowd;", true)
  | 4 => ("NameRolls$Tidings", "factPerson", "[I", true)
  | 5 => ("NameRolls$Tidings", "factSort", "[I", true)
  | 6 => ("NameRolls$Tidings", "factValue", "[I", true)
  | 7 => ("NameRolls$Tidings", "factDay", "[I", true)
  | 8 => ("NameRolls$Tidings", "factComes", "[I", true)
  | 9 => ("NameRolls$Tidings", "latestLetter", "I", false)
  | 10 => ("NameRolls$Tidings", "promiseSide", "[I", true)
  | 11 => ("NameRolls$Tidings", "promiseNumber", "[I", true)
  | 12 => ("NameRolls$Tidings", "promiseFrom", "[I", true)
  | _ => ("NameRolls$Tidings", "promiseTo", "[I", true)
def tyX9 : Nat → FieldType := fun k => match k with
  | 0 => .int
  | 1 => .int
  | 2 => .int
  | 3 => (.object "NameRolls$Crowd")
  | 4 => (.array .int)
  | 5 => (.array .int)
  | 6 => (.array .int)
  | 7 => (.array .int)
  | 8 => (.array .int)
  | 9 => .int
  | 10 => (.array .int)
  | 11 => (.array .int)
  | 12 => (.array .int)
  | _ => (.array .int)
theorem nmX9 : ∀ a, a < 14 → ∀ b, b < 14 → a ≠ b → (TX9 a).2.1 ≠ (TX9 b).2.1 := by decide +kernel
theorem tyX9_ok : ∀ k, k < 14 → parseFieldDescriptor (TX9 k).2.2.1 = some (tyX9 k) := by decide +kernel
def RX10 : String := "NameRolls$Trade"
def TX10 : u_T := fun k => match k with
  | 0 => ("NameRolls$Trade", "crowd", "LNameRolls$Crowd;", true)
  | 1 => ("NameRolls$Trade", "texts", "LNameRolls$Texts;", true)
  | 2 => ("NameRolls$Trade", "lists", "[[I", true)
  | 3 => ("NameRolls$Trade", "sizes", "[I", true)
  | 4 => ("NameRolls$Trade", "bestSets", "[I", true)
  | 5 => ("NameRolls$Trade", "ratioTold", "I", false)
  | 6 => ("NameRolls$Trade", "bars", "[[I", true)
  | 7 => ("NameRolls$Trade", "worths", "[[I", true)
  | 8 => ("NameRolls$Trade", "graded", "[I", true)
  | 9 => ("NameRolls$Trade", "doctors", "[I", true)
  | 10 => ("NameRolls$Trade", "sums", "[[I", true)
  | _ => ("NameRolls$Trade", "mayGo", "[[I", true)
def tyX10 : Nat → FieldType := fun k => match k with
  | 0 => (.object "NameRolls$Crowd")
  | 1 => (.object "NameRolls$Texts")
  | 2 => (.array (.array .int))
  | 3 => (.array .int)
  | 4 => (.array .int)
  | 5 => .int
  | 6 => (.array (.array .int))
  | 7 => (.array (.array .int))
  | 8 => (.array .int)
  | 9 => (.array .int)
  | 10 => (.array (.array .int))
  | _ => (.array (.array .int))
theorem nmX10 : ∀ a, a < 12 → ∀ b, b < 12 → a ≠ b → (TX10 a).2.1 ≠ (TX10 b).2.1 := by decide +kernel
theorem tyX10_ok : ∀ k, k < 12 → parseFieldDescriptor (TX10 k).2.2.1 = some (tyX10 k) := by decide +kernel
def RX11 : String := "NameRolls"
def TX11 : u_T := fun k => match k with
  | 0 => ("NameRolls", "land", "LNameRolls$Land;", true)
  | 1 => ("NameRolls", "crowd", "LNameRolls$Crowd;", true)
  | 2 => ("NameRolls", "tidings", "LNameRolls$Tidings;", true)
  | 3 => ("NameRolls", "texts", "LNameRolls$Texts;", true)
  | 4 => ("NameRolls", "rolls", "LNameRolls$Rolls;", true)
  | 5 => ("NameRolls", "trade", "LNameRolls$Trade;", true)
  | 6 => ("NameRolls", "ship", "LNameRolls$Ship;", true)
  | 7 => ("NameRolls", "crossing", "LNameRolls$Bridge;", true)
  | _ => ("NameRolls", "rounds", "LNameRolls$Rounds;", true)
def tyX11 : Nat → FieldType := fun k => match k with
  | 0 => (.object "NameRolls$Land")
  | 1 => (.object "NameRolls$Crowd")
  | 2 => (.object "NameRolls$Tidings")
  | 3 => (.object "NameRolls$Texts")
  | 4 => (.object "NameRolls$Rolls")
  | 5 => (.object "NameRolls$Trade")
  | 6 => (.object "NameRolls$Ship")
  | 7 => (.object "NameRolls$Bridge")
  | _ => (.object "NameRolls$Rounds")
theorem nmX11 : ∀ a, a < 9 → ∀ b, b < 9 → a ≠ b → (TX11 a).2.1 ≠ (TX11 b).2.1 := by decide +kernel
theorem tyX11_ok : ∀ k, k < 9 → parseFieldDescriptor (TX11 k).2.2.1 = some (tyX11 k) := by decide +kernel
def RX12 : String := "NameRollsModel"
def TX12 : u_T := fun k => match k with
  | 0 => ("NameRollsModel", "day", "I", false)
  | 1 => ("NameRollsModel", "campSide", "[I", true)
  | 2 => ("NameRollsModel", "beds", "[I", true)
  | 3 => ("NameRollsModel", "camps", "I", false)
  | 4 => ("NameRollsModel", "road", "[I", true)
  | 5 => ("NameRollsModel", "rise", "[I", true)
  | 6 => ("NameRollsModel", "kind", "[I", true)
  | 7 => ("NameRollsModel", "holder", "[I", true)
  | 8 => ("NameRollsModel", "state", "[I", true)
  | 9 => ("NameRollsModel", "place", "[I", true)
  | 10 => ("NameRollsModel", "age", "[I", true)
  | 11 => ("NameRollsModel", "with", "[I", true)
  | 12 => ("NameRollsModel", "grade", "[I", true)
  | 13 => ("NameRollsModel", "gradeSince", "[I", true)
  | 14 => ("NameRollsModel", "came", "[I", true)
  | 15 => ("NameRollsModel", "since", "[I", true)
  | 16 => ("NameRollsModel", "till", "[I", true)
  | 17 => ("NameRollsModel", "persons", "I", false)
  | 18 => ("NameRollsModel", "stayOf", "[I", true)
  | 19 => ("NameRollsModel", "stayCamp", "[I", true)
  | 20 => ("NameRollsModel", "stayFrom", "[I", true)
  | 21 => ("NameRollsModel", "stayTo", "[I", true)
  | 22 => ("NameRollsModel", "stays", "I", false)
  | 23 => ("NameRollsModel", "factOf", "[I", true)
  | 24 => ("NameRollsModel", "factSort", "[I", true)
  | 25 => ("NameRollsModel", "factValue", "[I", true)
  | 26 => ("NameRollsModel", "factTold", "[I", true)
  | 27 => ("NameRollsModel", "facts", "I", false)
  | 28 => ("NameRollsModel", "sent", "[I", true)
  | 29 => ("NameRollsModel", "letters", "I", false)
  | 30 => ("NameRollsModel", "promiseSide", "[I", true)
  | 31 => ("NameRollsModel", "promiseMany", "[I", true)
  | 32 => ("NameRollsModel", "promiseFrom", "[I", true)
  | 33 => ("NameRollsModel", "promiseTo", "[I", true)
  | 34 => ("NameRollsModel", "promises", "I", false)
  | 35 => ("NameRollsModel", "tape", "[I", true)
  | 36 => ("NameRollsModel", "tapeMany", "I", false)
  | 37 => ("NameRollsModel", "text", "[I", true)
  | 38 => ("NameRollsModel", "textMany", "[I", true)
  | 39 => ("NameRollsModel", "textWhat", "[I", true)
  | 40 => ("NameRollsModel", "textMade", "[I", true)
  | 41 => ("NameRollsModel", "textFrom", "[I", true)
  | 42 => ("NameRollsModel", "texts", "I", false)
  | 43 => ("NameRollsModel", "apart", "[I", true)
  | 44 => ("NameRollsModel", "base", "I", false)
  | 45 => ("NameRollsModel", "at", "I", false)
  | 46 => ("NameRollsModel", "ends", "I", false)
  | 47 => ("NameRollsModel", "fault", "I", false)
  | 48 => ("NameRollsModel", "open", "I", false)
  | 49 => ("NameRollsModel", "names", "[I", true)
  | 50 => ("NameRollsModel", "byLine", "I", false)
  | 51 => ("NameRollsModel", "rowSide", "[I", true)
  | 52 => ("NameRollsModel", "rowWord", "[I", true)
  | 53 => ("NameRollsModel", "rowAge", "[I", true)
  | 54 => ("NameRollsModel", "rowUnit", "[I", true)
  | 55 => ("NameRollsModel", "rows", "I", false)
  | 56 => ("NameRollsModel", "canBe", "[Z", true)
  | 57 => ("NameRollsModel", "blank", "I", false)
  | 58 => ("NameRollsModel", "isRead", "Z", false)
  | 59 => ("NameRollsModel", "isJoined", "[Z", true)
  | 60 => ("NameRollsModel", "offered", "[I", true)
  | 61 => ("NameRollsModel", "offers", "[I", true)
  | 62 => ("NameRollsModel", "ratio", "I", false)
  | 63 => ("NameRollsModel", "lastBest", "I", false)
  | 64 => ("NameRollsModel", "bestSet", "[I", true)
  | 65 => ("NameRollsModel", "mayStay", "[Z", true)
  | 66 => ("NameRollsModel", "worth", "[I", true)
  | 67 => ("NameRollsModel", "goes", "[Z", true)
  | 68 => ("NameRollsModel", "loadCamp", "[I", true)
  | 69 => ("NameRollsModel", "loadStretchers", "[I", true)
  | 70 => ("NameRollsModel", "loadFeet", "[I", true)
  | 71 => ("NameRollsModel", "loads", "I", false)
  | 72 => ("NameRollsModel", "ready", "[I", true)
  | 73 => ("NameRollsModel", "trying", "[I", true)
  | 74 => ("NameRollsModel", "tryingDay", "[I", true)
  | 75 => ("NameRollsModel", "bestVoyage", "[I", true)
  | 76 => ("NameRollsModel", "bestDay", "[I", true)
  | 77 => ("NameRollsModel", "bestVoyages", "I", false)
  | 78 => ("NameRollsModel", "soonest", "I", false)
  | 79 => ("NameRollsModel", "shipStretchers", "I", false)
  | 80 => ("NameRollsModel", "shipFeet", "I", false)
  | 81 => ("NameRollsModel", "shipTurn", "I", false)
  | 82 => ("NameRollsModel", "walker", "[I", true)
  | 83 => ("NameRollsModel", "walkers", "[I", true)
  | 84 => ("NameRollsModel", "memo", "[I", true)
  | 85 => ("NameRollsModel", "ahead", "I", false)
  | 86 => ("NameRollsModel", "began", "[I", true)
  | 87 => ("NameRollsModel", "beganMany", "I", false)
  | 88 => ("NameRollsModel", "soughtCamp", "[I", true)
  | 89 => ("NameRollsModel", "soughtFrom", "[I", true)
  | 90 => ("NameRollsModel", "soughtTo", "[I", true)
  | 91 => ("NameRollsModel", "soughtMany", "I", false)
  | 92 => ("NameRollsModel", "found", "[I", true)
  | 93 => ("NameRollsModel", "foundMany", "I", false)
  | 94 => ("NameRollsModel", "listGo", "[I", true)
  | 95 => ("NameRollsModel", "listCome", "[I", true)
  | 96 => ("NameRollsModel", "lists", "I", false)
  | 97 => ("NameRollsModel", "aims", "[I", true)
  | 98 => ("NameRollsModel", "aimMany", "I", false)
  | 99 => ("NameRollsModel", "row0", "[I", true)
  | 100 => ("NameRollsModel", "bestRow", "[I", true)
  | 101 => ("NameRollsModel", "bestRowMany", "I", false)
  | 102 => ("NameRollsModel", "bestLeast", "I", false)
  | 103 => ("NameRollsModel", "trace", "[I", true)
  | 104 => ("NameRollsModel", "ran", "I", false)
  | 105 => ("NameRollsModel", "runs", "I", false)
  | 106 => ("NameRollsModel", "tableSort", "[I", true)
  | 107 => ("NameRollsModel", "tableMany", "[I", true)
  | _ => ("NameRollsModel", "items", "[I", true)
def tyX12 : Nat → FieldType := fun k => match k with
  | 0 => .int
  | 1 => (.array .int)
  | 2 => (.array .int)
  | 3 => .int
  | 4 => (.array .int)
  | 5 => (.array .int)
  | 6 => (.array .int)
  | 7 => (.array .int)
  | 8 => (.array .int)
  | 9 => (.array .int)
  | 10 => (.array .int)
  | 11 => (.array .int)
  | 12 => (.array .int)
  | 13 => (.array .int)
  | 14 => (.array .int)
  | 15 => (.array .int)
  | 16 => (.array .int)
  | 17 => .int
  | 18 => (.array .int)
  | 19 => (.array .int)
  | 20 => (.array .int)
  | 21 => (.array .int)
  | 22 => .int
  | 23 => (.array .int)
  | 24 => (.array .int)
  | 25 => (.array .int)
  | 26 => (.array .int)
  | 27 => .int
  | 28 => (.array .int)
  | 29 => .int
  | 30 => (.array .int)
  | 31 => (.array .int)
  | 32 => (.array .int)
  | 33 => (.array .int)
  | 34 => .int
  | 35 => (.array .int)
  | 36 => .int
  | 37 => (.array .int)
  | 38 => (.array .int)
  | 39 => (.array .int)
  | 40 => (.array .int)
  | 41 => (.array .int)
  | 42 => .int
  | 43 => (.array .int)
  | 44 => .int
  | 45 => .int
  | 46 => .int
  | 47 => .int
  | 48 => .int
  | 49 => (.array .int)
  | 50 => .int
  | 51 => (.array .int)
  | 52 => (.array .int)
  | 53 => (.array .int)
  | 54 => (.array .int)
  | 55 => .int
  | 56 => (.array .boolean)
  | 57 => .int
  | 58 => .boolean
  | 59 => (.array .boolean)
  | 60 => (.array .int)
  | 61 => (.array .int)
  | 62 => .int
  | 63 => .int
  | 64 => (.array .int)
  | 65 => (.array .boolean)
  | 66 => (.array .int)
  | 67 => (.array .boolean)
  | 68 => (.array .int)
  | 69 => (.array .int)
  | 70 => (.array .int)
  | 71 => .int
  | 72 => (.array .int)
  | 73 => (.array .int)
  | 74 => (.array .int)
  | 75 => (.array .int)
  | 76 => (.array .int)
  | 77 => .int
  | 78 => .int
  | 79 => .int
  | 80 => .int
  | 81 => .int
  | 82 => (.array .int)
  | 83 => (.array .int)
  | 84 => (.array .int)
  | 85 => .int
  | 86 => (.array .int)
  | 87 => .int
  | 88 => (.array .int)
  | 89 => (.array .int)
  | 90 => (.array .int)
  | 91 => .int
  | 92 => (.array .int)
  | 93 => .int
  | 94 => (.array .int)
  | 95 => (.array .int)
  | 96 => .int
  | 97 => (.array .int)
  | 98 => .int
  | 99 => (.array .int)
  | 100 => (.array .int)
  | 101 => .int
  | 102 => .int
  | 103 => (.array .int)
  | 104 => .int
  | 105 => .int
  | 106 => (.array .int)
  | 107 => (.array .int)
  | _ => (.array .int)
theorem nmX12 : ∀ a, a < 109 → ∀ b, b < 109 → a ≠ b → (TX12 a).2.1 ≠ (TX12 b).2.1 := by decide +kernel
theorem tyX12_ok : ∀ k, k < 109 → parseFieldDescriptor (TX12 k).2.2.1 = some (tyX12 k) := by decide +kernel
def classes : List vw_C := [(RX0, TX0, 9), (RX1, TX1, 18), (RX2, TX2, 6), (RX3, TX3, 12), (RX4, TX4, 6), (RX5, TX5, 13), (RX6, TX6, 9), (RX7, TX7, 17), (RX8, TX8, 11), (RX9, TX9, 14), (RX10, TX10, 12), (RX11, TX11, 9), (RX12, TX12, 109)]
def tyC (ci : Nat) : Nat → FieldType := match ci with
  | 0 => tyX0
  | 1 => tyX1
  | 2 => tyX2
  | 3 => tyX3
  | 4 => tyX4
  | 5 => tyX5
  | 6 => tyX6
  | 7 => tyX7
  | 8 => tyX8
  | 9 => tyX9
  | 10 => tyX10
  | 11 => tyX11
  | _ => tyX12
def aty (t : Nat) : FieldType := match t with
  | 0 => .int
  | 1 => .byte
  | 2 => .boolean
  | 3 => .short
  | 4 => .array .int
  | 5 => .array .byte
  | 6 => .array .short
  | _ => .object "NameRolls$Person"
def shp (c : Nat) : Nat × Nat × Nat := match c with
  | 0 => (0, 9, 0)
  | 1 => (0, 18, 1)
  | 2 => (0, 6, 2)
  | 3 => (0, 12, 3)
  | 4 => (0, 6, 4)
  | 5 => (0, 13, 5)
  | 6 => (0, 9, 6)
  | 7 => (0, 17, 7)
  | 8 => (0, 11, 8)
  | 9 => (0, 14, 9)
  | 10 => (0, 12, 10)
  | 11 => (0, 9, 11)
  | 12 => (0, 109, 12)
  | 20 => (1, 2, 4)
  | 21 => (1, 10, 0)
  | 22 => (1, 2, 0)
  | 23 => (1, 2, 4)
  | 24 => (1, 91, 0)
  | 25 => (1, 2, 4)
  | 26 => (1, 91, 0)
  | 27 => (1, 2, 0)
  | 28 => (1, 182, 0)
  | 29 => (1, 180, 0)
  | 30 => (1, 150, 7)
  | 31 => (1, 10, 0)
  | 32 => (1, 400, 0)
  | 33 => (1, 400, 0)
  | 34 => (1, 400, 0)
  | 35 => (1, 400, 0)
  | 36 => (1, 5, 0)
  | 37 => (1, 5, 0)
  | 38 => (1, 5, 0)
  | 39 => (1, 150, 0)
  | 40 => (1, 24, 0)
  | 41 => (1, 16, 0)
  | 42 => (1, 16, 0)
  | 43 => (1, 324, 0)
  | 44 => (1, 18, 0)
  | 45 => (1, 18, 2)
  | 46 => (1, 9, 0)
  | 47 => (1, 100, 0)
  | 48 => (1, 100, 4)
  | 49 => (1, 5, 0)
  | 50 => (1, 100, 0)
  | 51 => (1, 100, 0)
  | 52 => (1, 100, 0)
  | 53 => (1, 784, 2)
  | 54 => (1, 100, 0)
  | 55 => (1, 100, 0)
  | 56 => (1, 4, 6)
  | 57 => (1, 60, 3)
  | 58 => (1, 4, 0)
  | 59 => (1, 4, 0)
  | 60 => (1, 6, 0)
  | 61 => (1, 6, 0)
  | 62 => (1, 4, 0)
  | 63 => (1, 6, 0)
  | 64 => (1, 6, 0)
  | 65 => (1, 6, 0)
  | 66 => (1, 6, 0)
  | 67 => (1, 6, 0)
  | 68 => (1, 6, 0)
  | 69 => (1, 64, 2)
  | 70 => (1, 64, 0)
  | 71 => (1, 64, 0)
  | 72 => (1, 6, 0)
  | 73 => (1, 6, 0)
  | 74 => (1, 6, 0)
  | 75 => (1, 6, 0)
  | 76 => (1, 160, 1)
  | 77 => (1, 20, 5)
  | 78 => (1, 160, 1)
  | 79 => (1, 20, 0)
  | 80 => (1, 20, 0)
  | 81 => (1, 20, 0)
  | 82 => (1, 20, 0)
  | 83 => (1, 300, 0)
  | 84 => (1, 300, 0)
  | 85 => (1, 300, 0)
  | 86 => (1, 300, 0)
  | 87 => (1, 300, 0)
  | 88 => (1, 40, 0)
  | 89 => (1, 40, 0)
  | 90 => (1, 40, 0)
  | 91 => (1, 40, 0)
  | 92 => (1, 2, 4)
  | 93 => (1, 7, 0)
  | 94 => (1, 2, 0)
  | 95 => (1, 2, 0)
  | 96 => (1, 2, 4)
  | 97 => (1, 7, 0)
  | 98 => (1, 4, 4)
  | 99 => (1, 7, 0)
  | 100 => (1, 16, 0)
  | 101 => (1, 16, 0)
  | 102 => (1, 4, 4)
  | 103 => (1, 128, 0)
  | 104 => (1, 2, 4)
  | 105 => (1, 128, 0)
  | 106 => (1, 0, 1)
  | 107 => (1, 518, 0)
  | 190 => (2, 8, 0)
  | 191 => (2, 24, 0)
  | 200 => (1, 16, 0)
  | 201 => (1, 16, 0)
  | 202 => (1, 324, 0)
  | 203 => (1, 10, 0)
  | 204 => (1, 150, 0)
  | 205 => (1, 150, 0)
  | 206 => (1, 150, 0)
  | 207 => (1, 150, 0)
  | 208 => (1, 150, 0)
  | 209 => (1, 150, 0)
  | 210 => (1, 150, 0)
  | 211 => (1, 150, 0)
  | 212 => (1, 150, 0)
  | 213 => (1, 150, 0)
  | 214 => (1, 150, 0)
  | 215 => (1, 400, 0)
  | 216 => (1, 400, 0)
  | 217 => (1, 400, 0)
  | 218 => (1, 400, 0)
  | 219 => (1, 300, 0)
  | 220 => (1, 300, 0)
  | 221 => (1, 300, 0)
  | 222 => (1, 300, 0)
  | 223 => (1, 60, 0)
  | 224 => (1, 40, 0)
  | 225 => (1, 40, 0)
  | 226 => (1, 40, 0)
  | 227 => (1, 40, 0)
  | 228 => (1, 160, 0)
  | 229 => (1, 3200, 0)
  | 230 => (1, 20, 0)
  | 231 => (1, 20, 0)
  | 232 => (1, 20, 0)
  | 233 => (1, 20, 0)
  | 234 => (1, 18, 0)
  | 235 => (1, 9, 0)
  | 236 => (1, 100, 0)
  | 237 => (1, 100, 0)
  | 238 => (1, 100, 0)
  | 239 => (1, 100, 0)
  | 240 => (1, 729, 2)
  | 241 => (1, 100, 2)
  | 242 => (1, 14, 0)
  | 243 => (1, 2, 0)
  | 244 => (1, 2, 0)
  | 245 => (1, 14, 2)
  | 246 => (1, 28, 0)
  | 247 => (1, 150, 2)
  | 248 => (1, 6, 0)
  | 249 => (1, 6, 0)
  | 250 => (1, 6, 0)
  | 251 => (1, 6, 0)
  | 252 => (1, 6, 0)
  | 253 => (1, 6, 0)
  | 254 => (1, 6, 0)
  | 255 => (1, 6, 0)
  | 256 => (1, 20, 0)
  | 257 => (1, 2, 0)
  | 258 => (1, 12100, 0)
  | 259 => (1, 200, 0)
  | 260 => (1, 5, 0)
  | 261 => (1, 5, 0)
  | 262 => (1, 5, 0)
  | 263 => (1, 150, 0)
  | 264 => (1, 6, 0)
  | 265 => (1, 6, 0)
  | 266 => (1, 4, 0)
  | 267 => (1, 6, 0)
  | 268 => (1, 6, 0)
  | 269 => (1, 24, 0)
  | 270 => (1, 4, 0)
  | 271 => (1, 4, 0)
  | 272 => (1, 240, 0)
  | _ => (9, 0, 0)
def rwsT (c : Nat) : Nat := match c with
  | 0 => 1
  | 1 => 1
  | 2 => 1
  | 4 => 1
  | 5 => 1
  | 6 => 1
  | 7 => 1
  | 8 => 1
  | 9 => 1
  | 10 => 1
  | 11 => 1
  | 12 => 1
  | 20 => 1
  | 21 => 2
  | 22 => 1
  | 23 => 1
  | 24 => 2
  | 25 => 1
  | 26 => 2
  | 27 => 1
  | 28 => 1
  | 29 => 1
  | 30 => 1
  | 31 => 1
  | 32 => 1
  | 33 => 1
  | 34 => 1
  | 35 => 1
  | 36 => 1
  | 37 => 1
  | 38 => 1
  | 39 => 1
  | 40 => 1
  | 41 => 1
  | 42 => 1
  | 43 => 1
  | 44 => 1
  | 45 => 1
  | 46 => 1
  | 47 => 1
  | 48 => 1
  | 49 => 100
  | 50 => 1
  | 51 => 1
  | 52 => 1
  | 53 => 1
  | 54 => 1
  | 55 => 1
  | 56 => 1
  | 57 => 4
  | 58 => 1
  | 59 => 1
  | 60 => 1
  | 61 => 1
  | 62 => 1
  | 63 => 1
  | 64 => 1
  | 65 => 1
  | 66 => 1
  | 67 => 1
  | 68 => 1
  | 69 => 1
  | 70 => 1
  | 71 => 1
  | 72 => 1
  | 73 => 1
  | 74 => 1
  | 75 => 1
  | 76 => 1
  | 77 => 1
  | 78 => 20
  | 79 => 1
  | 80 => 1
  | 81 => 1
  | 82 => 1
  | 83 => 1
  | 84 => 1
  | 85 => 1
  | 86 => 1
  | 87 => 1
  | 88 => 1
  | 89 => 1
  | 90 => 1
  | 91 => 1
  | 92 => 1
  | 93 => 2
  | 94 => 1
  | 95 => 1
  | 96 => 1
  | 97 => 2
  | 98 => 1
  | 99 => 4
  | 100 => 1
  | 101 => 1
  | 102 => 1
  | 103 => 4
  | 104 => 1
  | 105 => 2
  | 106 => 1
  | 107 => 1
  | 200 => 1
  | 201 => 1
  | 202 => 1
  | 203 => 1
  | 204 => 1
  | 205 => 1
  | 206 => 1
  | 207 => 1
  | 208 => 1
  | 209 => 1
  | 210 => 1
  | 211 => 1
  | 212 => 1
  | 213 => 1
  | 214 => 1
  | 215 => 1
  | 216 => 1
  | 217 => 1
  | 218 => 1
  | 219 => 1
  | 220 => 1
  | 221 => 1
  | 222 => 1
  | 223 => 1
  | 224 => 1
  | 225 => 1
  | 226 => 1
  | 227 => 1
  | 228 => 1
  | 229 => 1
  | 230 => 1
  | 231 => 1
  | 232 => 1
  | 233 => 1
  | 234 => 1
  | 235 => 1
  | 236 => 1
  | 237 => 1
  | 238 => 1
  | 239 => 1
  | 240 => 1
  | 241 => 1
  | 242 => 1
  | 243 => 1
  | 244 => 1
  | 245 => 1
  | 246 => 1
  | 247 => 1
  | 248 => 1
  | 249 => 1
  | 250 => 1
  | 251 => 1
  | 252 => 1
  | 253 => 1
  | 254 => 1
  | 255 => 1
  | 256 => 1
  | 257 => 1
  | 258 => 1
  | 259 => 1
  | 260 => 1
  | 261 => 1
  | 262 => 1
  | 263 => 1
  | 264 => 1
  | 265 => 1
  | 266 => 1
  | 267 => 1
  | 268 => 1
  | 269 => 1
  | 270 => 1
  | 271 => 1
  | 272 => 1
  | _ => 0
def aSt (c : Nat) : Option Nat := match c with
  | 20 => some 21
  | 23 => some 24
  | 25 => some 26
  | 48 => some 49
  | 56 => some 57
  | 77 => some 78
  | 92 => some 93
  | 96 => some 97
  | 98 => some 99
  | 102 => some 103
  | 104 => some 105
  | _ => none
def fS0 (c : Nat) : Option Nat := match c with
  | 0 => some 20
  | 1 => some 22
  | 2 => some 23
  | 3 => some 25
  | 4 => some 27
  | 5 => some 28
  | 6 => some 107
  | 7 => some 29
  | _ => none
def fS1 (c : Nat) : Option Nat := match c with
  | 0 => some 30
  | 4 => some 2
  | 5 => some 31
  | 6 => some 32
  | 7 => some 33
  | 8 => some 34
  | 9 => some 35
  | 10 => some 36
  | 11 => some 37
  | 12 => some 38
  | 14 => some 39
  | 16 => some 40
  | _ => none
def fS2 (c : Nat) : Option Nat := match c with
  | 0 => some 41
  | 1 => some 42
  | 3 => some 43
  | 4 => some 44
  | 5 => some 45
  | _ => none
def fS3 (c : Nat) : Option Nat := match c with
  | _ => none
def fS4 (c : Nat) : Option Nat := match c with
  | 0 => some 46
  | _ => none
def fS5 (c : Nat) : Option Nat := match c with
  | 1 => some 47
  | 2 => some 48
  | 3 => some 50
  | 4 => some 51
  | 5 => some 52
  | 6 => some 53
  | 7 => some 54
  | 8 => some 55
  | 9 => some 56
  | 10 => some 58
  | 11 => some 59
  | _ => none
def fS6 (c : Nat) : Option Nat := match c with
  | 0 => some 60
  | 1 => some 61
  | 3 => some 62
  | 5 => some 63
  | 7 => some 64
  | _ => none
def fS7 (c : Nat) : Option Nat := match c with
  | 0 => some 2
  | 1 => some 1
  | 3 => some 65
  | 4 => some 66
  | 5 => some 67
  | 6 => some 68
  | 7 => some 69
  | 8 => some 70
  | 9 => some 71
  | 11 => some 72
  | 12 => some 73
  | 14 => some 74
  | 15 => some 75
  | _ => none
def fS8 (c : Nat) : Option Nat := match c with
  | 2 => some 1
  | 3 => some 9
  | 4 => some 4
  | 5 => some 76
  | 6 => some 77
  | 7 => some 79
  | 8 => some 80
  | 9 => some 81
  | 10 => some 82
  | _ => none
def fS9 (c : Nat) : Option Nat := match c with
  | 3 => some 1
  | 4 => some 83
  | 5 => some 84
  | 6 => some 85
  | 7 => some 86
  | 8 => some 87
  | 10 => some 88
  | 11 => some 89
  | 12 => some 90
  | 13 => some 91
  | _ => none
def fS10 (c : Nat) : Option Nat := match c with
  | 0 => some 1
  | 1 => some 8
  | 2 => some 92
  | 3 => some 94
  | 4 => some 95
  | 6 => some 96
  | 7 => some 98
  | 8 => some 100
  | 9 => some 101
  | 10 => some 102
  | 11 => some 104
  | _ => none
def fS11 (c : Nat) : Option Nat := match c with
  | 0 => some 2
  | 1 => some 1
  | 2 => some 9
  | 3 => some 8
  | 4 => some 5
  | 5 => some 10
  | 6 => some 7
  | 7 => some 0
  | 8 => some 6
  | _ => none
def fS12 (c : Nat) : Option Nat := match c with
  | 1 => some 200
  | 2 => some 201
  | 4 => some 202
  | 5 => some 203
  | 6 => some 204
  | 7 => some 205
  | 8 => some 206
  | 9 => some 207
  | 10 => some 208
  | 11 => some 209
  | 12 => some 210
  | 13 => some 211
  | 14 => some 212
  | 15 => some 213
  | 16 => some 214
  | 18 => some 215
  | 19 => some 216
  | 20 => some 217
  | 21 => some 218
  | 23 => some 219
  | 24 => some 220
  | 25 => some 221
  | 26 => some 222
  | 28 => some 223
  | 30 => some 224
  | 31 => some 225
  | 32 => some 226
  | 33 => some 227
  | 35 => some 228
  | 37 => some 229
  | 38 => some 230
  | 39 => some 231
  | 40 => some 232
  | 41 => some 233
  | 43 => some 234
  | 49 => some 235
  | 51 => some 236
  | 52 => some 237
  | 53 => some 238
  | 54 => some 239
  | 56 => some 240
  | 59 => some 241
  | 60 => some 242
  | 61 => some 243
  | 64 => some 244
  | 65 => some 245
  | 66 => some 246
  | 67 => some 247
  | 68 => some 248
  | 69 => some 249
  | 70 => some 250
  | 72 => some 251
  | 73 => some 252
  | 74 => some 253
  | 75 => some 254
  | 76 => some 255
  | 82 => some 256
  | 83 => some 257
  | 84 => some 258
  | 86 => some 259
  | 88 => some 260
  | 89 => some 261
  | 90 => some 262
  | 92 => some 263
  | 94 => some 264
  | 95 => some 265
  | 97 => some 266
  | 99 => some 267
  | 100 => some 268
  | 103 => some 269
  | 106 => some 270
  | 107 => some 271
  | 108 => some 272
  | _ => none
def fSt (c k : Nat) : Option Nat := match c with
  | 0 => fS0 k
  | 1 => fS1 k
  | 2 => fS2 k
  | 3 => fS3 k
  | 4 => fS4 k
  | 5 => fS5 k
  | 6 => fS6 k
  | 7 => fS7 k
  | 8 => fS8 k
  | 9 => fS9 k
  | 10 => fS10 k
  | 11 => fS11 k
  | 12 => fS12 k
  | _ => none
def nKind : Nat := 273
def rws (c : Nat) : Nat := if c < nKind then rwsT c else 0
def kPeople : Nat := 30
theorem sh0 : shp 0 = (0, 9, 0) := by decide +kernel
theorem sh1 : shp 1 = (0, 18, 1) := by decide +kernel
theorem sh2 : shp 2 = (0, 6, 2) := by decide +kernel
theorem sh3 : shp 3 = (0, 12, 3) := by decide +kernel
theorem sh4 : shp 4 = (0, 6, 4) := by decide +kernel
theorem sh5 : shp 5 = (0, 13, 5) := by decide +kernel
theorem sh6 : shp 6 = (0, 9, 6) := by decide +kernel
theorem sh7 : shp 7 = (0, 17, 7) := by decide +kernel
theorem sh8 : shp 8 = (0, 11, 8) := by decide +kernel
theorem sh9 : shp 9 = (0, 14, 9) := by decide +kernel
theorem sh10 : shp 10 = (0, 12, 10) := by decide +kernel
theorem sh11 : shp 11 = (0, 9, 11) := by decide +kernel
theorem sh12 : shp 12 = (0, 109, 12) := by decide +kernel
theorem sh20 : shp 20 = (1, 2, 4) := by decide +kernel
theorem sh21 : shp 21 = (1, 10, 0) := by decide +kernel
theorem sh22 : shp 22 = (1, 2, 0) := by decide +kernel
theorem sh23 : shp 23 = (1, 2, 4) := by decide +kernel
theorem sh24 : shp 24 = (1, 91, 0) := by decide +kernel
theorem sh25 : shp 25 = (1, 2, 4) := by decide +kernel
theorem sh26 : shp 26 = (1, 91, 0) := by decide +kernel
theorem sh27 : shp 27 = (1, 2, 0) := by decide +kernel
theorem sh28 : shp 28 = (1, 182, 0) := by decide +kernel
theorem sh29 : shp 29 = (1, 180, 0) := by decide +kernel
theorem sh30 : shp 30 = (1, 150, 7) := by decide +kernel
theorem sh31 : shp 31 = (1, 10, 0) := by decide +kernel
theorem sh32 : shp 32 = (1, 400, 0) := by decide +kernel
theorem sh33 : shp 33 = (1, 400, 0) := by decide +kernel
theorem sh34 : shp 34 = (1, 400, 0) := by decide +kernel
theorem sh35 : shp 35 = (1, 400, 0) := by decide +kernel
theorem sh36 : shp 36 = (1, 5, 0) := by decide +kernel
theorem sh37 : shp 37 = (1, 5, 0) := by decide +kernel
theorem sh38 : shp 38 = (1, 5, 0) := by decide +kernel
theorem sh39 : shp 39 = (1, 150, 0) := by decide +kernel
theorem sh40 : shp 40 = (1, 24, 0) := by decide +kernel
theorem sh41 : shp 41 = (1, 16, 0) := by decide +kernel
theorem sh42 : shp 42 = (1, 16, 0) := by decide +kernel
theorem sh43 : shp 43 = (1, 324, 0) := by decide +kernel
theorem sh44 : shp 44 = (1, 18, 0) := by decide +kernel
theorem sh45 : shp 45 = (1, 18, 2) := by decide +kernel
theorem sh46 : shp 46 = (1, 9, 0) := by decide +kernel
theorem sh47 : shp 47 = (1, 100, 0) := by decide +kernel
theorem sh48 : shp 48 = (1, 100, 4) := by decide +kernel
theorem sh49 : shp 49 = (1, 5, 0) := by decide +kernel
theorem sh50 : shp 50 = (1, 100, 0) := by decide +kernel
theorem sh51 : shp 51 = (1, 100, 0) := by decide +kernel
theorem sh52 : shp 52 = (1, 100, 0) := by decide +kernel
theorem sh53 : shp 53 = (1, 784, 2) := by decide +kernel
theorem sh54 : shp 54 = (1, 100, 0) := by decide +kernel
theorem sh55 : shp 55 = (1, 100, 0) := by decide +kernel
theorem sh56 : shp 56 = (1, 4, 6) := by decide +kernel
theorem sh57 : shp 57 = (1, 60, 3) := by decide +kernel
theorem sh58 : shp 58 = (1, 4, 0) := by decide +kernel
theorem sh59 : shp 59 = (1, 4, 0) := by decide +kernel
theorem sh60 : shp 60 = (1, 6, 0) := by decide +kernel
theorem sh61 : shp 61 = (1, 6, 0) := by decide +kernel
theorem sh62 : shp 62 = (1, 4, 0) := by decide +kernel
theorem sh63 : shp 63 = (1, 6, 0) := by decide +kernel
theorem sh64 : shp 64 = (1, 6, 0) := by decide +kernel
theorem sh65 : shp 65 = (1, 6, 0) := by decide +kernel
theorem sh66 : shp 66 = (1, 6, 0) := by decide +kernel
theorem sh67 : shp 67 = (1, 6, 0) := by decide +kernel
theorem sh68 : shp 68 = (1, 6, 0) := by decide +kernel
theorem sh69 : shp 69 = (1, 64, 2) := by decide +kernel
theorem sh70 : shp 70 = (1, 64, 0) := by decide +kernel
theorem sh71 : shp 71 = (1, 64, 0) := by decide +kernel
theorem sh72 : shp 72 = (1, 6, 0) := by decide +kernel
theorem sh73 : shp 73 = (1, 6, 0) := by decide +kernel
theorem sh74 : shp 74 = (1, 6, 0) := by decide +kernel
theorem sh75 : shp 75 = (1, 6, 0) := by decide +kernel
theorem sh76 : shp 76 = (1, 160, 1) := by decide +kernel
theorem sh77 : shp 77 = (1, 20, 5) := by decide +kernel
theorem sh78 : shp 78 = (1, 160, 1) := by decide +kernel
theorem sh79 : shp 79 = (1, 20, 0) := by decide +kernel
theorem sh80 : shp 80 = (1, 20, 0) := by decide +kernel
theorem sh81 : shp 81 = (1, 20, 0) := by decide +kernel
theorem sh82 : shp 82 = (1, 20, 0) := by decide +kernel
theorem sh83 : shp 83 = (1, 300, 0) := by decide +kernel
theorem sh84 : shp 84 = (1, 300, 0) := by decide +kernel
theorem sh85 : shp 85 = (1, 300, 0) := by decide +kernel
theorem sh86 : shp 86 = (1, 300, 0) := by decide +kernel
theorem sh87 : shp 87 = (1, 300, 0) := by decide +kernel
theorem sh88 : shp 88 = (1, 40, 0) := by decide +kernel
theorem sh89 : shp 89 = (1, 40, 0) := by decide +kernel
theorem sh90 : shp 90 = (1, 40, 0) := by decide +kernel
theorem sh91 : shp 91 = (1, 40, 0) := by decide +kernel
theorem sh92 : shp 92 = (1, 2, 4) := by decide +kernel
theorem sh93 : shp 93 = (1, 7, 0) := by decide +kernel
theorem sh94 : shp 94 = (1, 2, 0) := by decide +kernel
theorem sh95 : shp 95 = (1, 2, 0) := by decide +kernel
theorem sh96 : shp 96 = (1, 2, 4) := by decide +kernel
theorem sh97 : shp 97 = (1, 7, 0) := by decide +kernel
theorem sh98 : shp 98 = (1, 4, 4) := by decide +kernel
theorem sh99 : shp 99 = (1, 7, 0) := by decide +kernel
theorem sh100 : shp 100 = (1, 16, 0) := by decide +kernel
theorem sh101 : shp 101 = (1, 16, 0) := by decide +kernel
theorem sh102 : shp 102 = (1, 4, 4) := by decide +kernel
theorem sh103 : shp 103 = (1, 128, 0) := by decide +kernel
theorem sh104 : shp 104 = (1, 2, 4) := by decide +kernel
theorem sh105 : shp 105 = (1, 128, 0) := by decide +kernel
theorem sh106 : shp 106 = (1, 0, 1) := by decide +kernel
theorem sh107 : shp 107 = (1, 518, 0) := by decide +kernel
theorem sh190 : shp 190 = (2, 8, 0) := by decide +kernel
theorem sh191 : shp 191 = (2, 24, 0) := by decide +kernel
theorem sh200 : shp 200 = (1, 16, 0) := by decide +kernel
theorem sh201 : shp 201 = (1, 16, 0) := by decide +kernel
theorem sh202 : shp 202 = (1, 324, 0) := by decide +kernel
theorem sh203 : shp 203 = (1, 10, 0) := by decide +kernel
theorem sh204 : shp 204 = (1, 150, 0) := by decide +kernel
theorem sh205 : shp 205 = (1, 150, 0) := by decide +kernel
theorem sh206 : shp 206 = (1, 150, 0) := by decide +kernel
theorem sh207 : shp 207 = (1, 150, 0) := by decide +kernel
theorem sh208 : shp 208 = (1, 150, 0) := by decide +kernel
theorem sh209 : shp 209 = (1, 150, 0) := by decide +kernel
theorem sh210 : shp 210 = (1, 150, 0) := by decide +kernel
theorem sh211 : shp 211 = (1, 150, 0) := by decide +kernel
theorem sh212 : shp 212 = (1, 150, 0) := by decide +kernel
theorem sh213 : shp 213 = (1, 150, 0) := by decide +kernel
theorem sh214 : shp 214 = (1, 150, 0) := by decide +kernel
theorem sh215 : shp 215 = (1, 400, 0) := by decide +kernel
theorem sh216 : shp 216 = (1, 400, 0) := by decide +kernel
theorem sh217 : shp 217 = (1, 400, 0) := by decide +kernel
theorem sh218 : shp 218 = (1, 400, 0) := by decide +kernel
theorem sh219 : shp 219 = (1, 300, 0) := by decide +kernel
theorem sh220 : shp 220 = (1, 300, 0) := by decide +kernel
theorem sh221 : shp 221 = (1, 300, 0) := by decide +kernel
theorem sh222 : shp 222 = (1, 300, 0) := by decide +kernel
theorem sh223 : shp 223 = (1, 60, 0) := by decide +kernel
theorem sh224 : shp 224 = (1, 40, 0) := by decide +kernel
theorem sh225 : shp 225 = (1, 40, 0) := by decide +kernel
theorem sh226 : shp 226 = (1, 40, 0) := by decide +kernel
theorem sh227 : shp 227 = (1, 40, 0) := by decide +kernel
theorem sh228 : shp 228 = (1, 160, 0) := by decide +kernel
theorem sh229 : shp 229 = (1, 3200, 0) := by decide +kernel
theorem sh230 : shp 230 = (1, 20, 0) := by decide +kernel
theorem sh231 : shp 231 = (1, 20, 0) := by decide +kernel
theorem sh232 : shp 232 = (1, 20, 0) := by decide +kernel
theorem sh233 : shp 233 = (1, 20, 0) := by decide +kernel
theorem sh234 : shp 234 = (1, 18, 0) := by decide +kernel
theorem sh235 : shp 235 = (1, 9, 0) := by decide +kernel
theorem sh236 : shp 236 = (1, 100, 0) := by decide +kernel
theorem sh237 : shp 237 = (1, 100, 0) := by decide +kernel
theorem sh238 : shp 238 = (1, 100, 0) := by decide +kernel
theorem sh239 : shp 239 = (1, 100, 0) := by decide +kernel
theorem sh240 : shp 240 = (1, 729, 2) := by decide +kernel
theorem sh241 : shp 241 = (1, 100, 2) := by decide +kernel
theorem sh242 : shp 242 = (1, 14, 0) := by decide +kernel
theorem sh243 : shp 243 = (1, 2, 0) := by decide +kernel
theorem sh244 : shp 244 = (1, 2, 0) := by decide +kernel
theorem sh245 : shp 245 = (1, 14, 2) := by decide +kernel
theorem sh246 : shp 246 = (1, 28, 0) := by decide +kernel
theorem sh247 : shp 247 = (1, 150, 2) := by decide +kernel
theorem sh248 : shp 248 = (1, 6, 0) := by decide +kernel
theorem sh249 : shp 249 = (1, 6, 0) := by decide +kernel
theorem sh250 : shp 250 = (1, 6, 0) := by decide +kernel
theorem sh251 : shp 251 = (1, 6, 0) := by decide +kernel
theorem sh252 : shp 252 = (1, 6, 0) := by decide +kernel
theorem sh253 : shp 253 = (1, 6, 0) := by decide +kernel
theorem sh254 : shp 254 = (1, 6, 0) := by decide +kernel
theorem sh255 : shp 255 = (1, 6, 0) := by decide +kernel
theorem sh256 : shp 256 = (1, 20, 0) := by decide +kernel
theorem sh257 : shp 257 = (1, 2, 0) := by decide +kernel
theorem sh258 : shp 258 = (1, 12100, 0) := by decide +kernel
theorem sh259 : shp 259 = (1, 200, 0) := by decide +kernel
theorem sh260 : shp 260 = (1, 5, 0) := by decide +kernel
theorem sh261 : shp 261 = (1, 5, 0) := by decide +kernel
theorem sh262 : shp 262 = (1, 5, 0) := by decide +kernel
theorem sh263 : shp 263 = (1, 150, 0) := by decide +kernel
theorem sh264 : shp 264 = (1, 6, 0) := by decide +kernel
theorem sh265 : shp 265 = (1, 6, 0) := by decide +kernel
theorem sh266 : shp 266 = (1, 4, 0) := by decide +kernel
theorem sh267 : shp 267 = (1, 6, 0) := by decide +kernel
theorem sh268 : shp 268 = (1, 6, 0) := by decide +kernel
theorem sh269 : shp 269 = (1, 24, 0) := by decide +kernel
theorem sh270 : shp 270 = (1, 4, 0) := by decide +kernel
theorem sh271 : shp 271 = (1, 4, 0) := by decide +kernel
theorem sh272 : shp 272 = (1, 240, 0) := by decide +kernel
theorem rw0 : rws 0 = 1 := by decide +kernel
theorem rw1 : rws 1 = 1 := by decide +kernel
theorem rw2 : rws 2 = 1 := by decide +kernel
theorem rw3 : rws 3 = 0 := by decide +kernel
theorem rw4 : rws 4 = 1 := by decide +kernel
theorem rw5 : rws 5 = 1 := by decide +kernel
theorem rw6 : rws 6 = 1 := by decide +kernel
theorem rw7 : rws 7 = 1 := by decide +kernel
theorem rw8 : rws 8 = 1 := by decide +kernel
theorem rw9 : rws 9 = 1 := by decide +kernel
theorem rw10 : rws 10 = 1 := by decide +kernel
theorem rw11 : rws 11 = 1 := by decide +kernel
theorem rw12 : rws 12 = 1 := by decide +kernel
theorem rw20 : rws 20 = 1 := by decide +kernel
theorem rw21 : rws 21 = 2 := by decide +kernel
theorem rw22 : rws 22 = 1 := by decide +kernel
theorem rw23 : rws 23 = 1 := by decide +kernel
theorem rw24 : rws 24 = 2 := by decide +kernel
theorem rw25 : rws 25 = 1 := by decide +kernel
theorem rw26 : rws 26 = 2 := by decide +kernel
theorem rw27 : rws 27 = 1 := by decide +kernel
theorem rw28 : rws 28 = 1 := by decide +kernel
theorem rw29 : rws 29 = 1 := by decide +kernel
theorem rw30 : rws 30 = 1 := by decide +kernel
theorem rw31 : rws 31 = 1 := by decide +kernel
theorem rw32 : rws 32 = 1 := by decide +kernel
theorem rw33 : rws 33 = 1 := by decide +kernel
theorem rw34 : rws 34 = 1 := by decide +kernel
theorem rw35 : rws 35 = 1 := by decide +kernel
theorem rw36 : rws 36 = 1 := by decide +kernel
theorem rw37 : rws 37 = 1 := by decide +kernel
theorem rw38 : rws 38 = 1 := by decide +kernel
theorem rw39 : rws 39 = 1 := by decide +kernel
theorem rw40 : rws 40 = 1 := by decide +kernel
theorem rw41 : rws 41 = 1 := by decide +kernel
theorem rw42 : rws 42 = 1 := by decide +kernel
theorem rw43 : rws 43 = 1 := by decide +kernel
theorem rw44 : rws 44 = 1 := by decide +kernel
theorem rw45 : rws 45 = 1 := by decide +kernel
theorem rw46 : rws 46 = 1 := by decide +kernel
theorem rw47 : rws 47 = 1 := by decide +kernel
theorem rw48 : rws 48 = 1 := by decide +kernel
theorem rw49 : rws 49 = 100 := by decide +kernel
theorem rw50 : rws 50 = 1 := by decide +kernel
theorem rw51 : rws 51 = 1 := by decide +kernel
theorem rw52 : rws 52 = 1 := by decide +kernel
theorem rw53 : rws 53 = 1 := by decide +kernel
theorem rw54 : rws 54 = 1 := by decide +kernel
theorem rw55 : rws 55 = 1 := by decide +kernel
theorem rw56 : rws 56 = 1 := by decide +kernel
theorem rw57 : rws 57 = 4 := by decide +kernel
theorem rw58 : rws 58 = 1 := by decide +kernel
theorem rw59 : rws 59 = 1 := by decide +kernel
theorem rw60 : rws 60 = 1 := by decide +kernel
theorem rw61 : rws 61 = 1 := by decide +kernel
theorem rw62 : rws 62 = 1 := by decide +kernel
theorem rw63 : rws 63 = 1 := by decide +kernel
theorem rw64 : rws 64 = 1 := by decide +kernel
theorem rw65 : rws 65 = 1 := by decide +kernel
theorem rw66 : rws 66 = 1 := by decide +kernel
theorem rw67 : rws 67 = 1 := by decide +kernel
theorem rw68 : rws 68 = 1 := by decide +kernel
theorem rw69 : rws 69 = 1 := by decide +kernel
theorem rw70 : rws 70 = 1 := by decide +kernel
theorem rw71 : rws 71 = 1 := by decide +kernel
theorem rw72 : rws 72 = 1 := by decide +kernel
theorem rw73 : rws 73 = 1 := by decide +kernel
theorem rw74 : rws 74 = 1 := by decide +kernel
theorem rw75 : rws 75 = 1 := by decide +kernel
theorem rw76 : rws 76 = 1 := by decide +kernel
theorem rw77 : rws 77 = 1 := by decide +kernel
theorem rw78 : rws 78 = 20 := by decide +kernel
theorem rw79 : rws 79 = 1 := by decide +kernel
theorem rw80 : rws 80 = 1 := by decide +kernel
theorem rw81 : rws 81 = 1 := by decide +kernel
theorem rw82 : rws 82 = 1 := by decide +kernel
theorem rw83 : rws 83 = 1 := by decide +kernel
theorem rw84 : rws 84 = 1 := by decide +kernel
theorem rw85 : rws 85 = 1 := by decide +kernel
theorem rw86 : rws 86 = 1 := by decide +kernel
theorem rw87 : rws 87 = 1 := by decide +kernel
theorem rw88 : rws 88 = 1 := by decide +kernel
theorem rw89 : rws 89 = 1 := by decide +kernel
theorem rw90 : rws 90 = 1 := by decide +kernel
theorem rw91 : rws 91 = 1 := by decide +kernel
theorem rw92 : rws 92 = 1 := by decide +kernel
theorem rw93 : rws 93 = 2 := by decide +kernel
theorem rw94 : rws 94 = 1 := by decide +kernel
theorem rw95 : rws 95 = 1 := by decide +kernel
theorem rw96 : rws 96 = 1 := by decide +kernel
theorem rw97 : rws 97 = 2 := by decide +kernel
theorem rw98 : rws 98 = 1 := by decide +kernel
theorem rw99 : rws 99 = 4 := by decide +kernel
theorem rw100 : rws 100 = 1 := by decide +kernel
theorem rw101 : rws 101 = 1 := by decide +kernel
theorem rw102 : rws 102 = 1 := by decide +kernel
theorem rw103 : rws 103 = 4 := by decide +kernel
theorem rw104 : rws 104 = 1 := by decide +kernel
theorem rw105 : rws 105 = 2 := by decide +kernel
theorem rw106 : rws 106 = 1 := by decide +kernel
theorem rw107 : rws 107 = 1 := by decide +kernel
theorem rw190 : rws 190 = 0 := by decide +kernel
theorem rw191 : rws 191 = 0 := by decide +kernel
theorem rw200 : rws 200 = 1 := by decide +kernel
theorem rw201 : rws 201 = 1 := by decide +kernel
theorem rw202 : rws 202 = 1 := by decide +kernel
theorem rw203 : rws 203 = 1 := by decide +kernel
theorem rw204 : rws 204 = 1 := by decide +kernel
theorem rw205 : rws 205 = 1 := by decide +kernel
theorem rw206 : rws 206 = 1 := by decide +kernel
theorem rw207 : rws 207 = 1 := by decide +kernel
theorem rw208 : rws 208 = 1 := by decide +kernel
theorem rw209 : rws 209 = 1 := by decide +kernel
theorem rw210 : rws 210 = 1 := by decide +kernel
theorem rw211 : rws 211 = 1 := by decide +kernel
theorem rw212 : rws 212 = 1 := by decide +kernel
theorem rw213 : rws 213 = 1 := by decide +kernel
theorem rw214 : rws 214 = 1 := by decide +kernel
theorem rw215 : rws 215 = 1 := by decide +kernel
theorem rw216 : rws 216 = 1 := by decide +kernel
theorem rw217 : rws 217 = 1 := by decide +kernel
theorem rw218 : rws 218 = 1 := by decide +kernel
theorem rw219 : rws 219 = 1 := by decide +kernel
theorem rw220 : rws 220 = 1 := by decide +kernel
theorem rw221 : rws 221 = 1 := by decide +kernel
theorem rw222 : rws 222 = 1 := by decide +kernel
theorem rw223 : rws 223 = 1 := by decide +kernel
theorem rw224 : rws 224 = 1 := by decide +kernel
theorem rw225 : rws 225 = 1 := by decide +kernel
theorem rw226 : rws 226 = 1 := by decide +kernel
theorem rw227 : rws 227 = 1 := by decide +kernel
theorem rw228 : rws 228 = 1 := by decide +kernel
theorem rw229 : rws 229 = 1 := by decide +kernel
theorem rw230 : rws 230 = 1 := by decide +kernel
theorem rw231 : rws 231 = 1 := by decide +kernel
theorem rw232 : rws 232 = 1 := by decide +kernel
theorem rw233 : rws 233 = 1 := by decide +kernel
theorem rw234 : rws 234 = 1 := by decide +kernel
theorem rw235 : rws 235 = 1 := by decide +kernel
theorem rw236 : rws 236 = 1 := by decide +kernel
theorem rw237 : rws 237 = 1 := by decide +kernel
theorem rw238 : rws 238 = 1 := by decide +kernel
theorem rw239 : rws 239 = 1 := by decide +kernel
theorem rw240 : rws 240 = 1 := by decide +kernel
theorem rw241 : rws 241 = 1 := by decide +kernel
theorem rw242 : rws 242 = 1 := by decide +kernel
theorem rw243 : rws 243 = 1 := by decide +kernel
theorem rw244 : rws 244 = 1 := by decide +kernel
theorem rw245 : rws 245 = 1 := by decide +kernel
theorem rw246 : rws 246 = 1 := by decide +kernel
theorem rw247 : rws 247 = 1 := by decide +kernel
theorem rw248 : rws 248 = 1 := by decide +kernel
theorem rw249 : rws 249 = 1 := by decide +kernel
theorem rw250 : rws 250 = 1 := by decide +kernel
theorem rw251 : rws 251 = 1 := by decide +kernel
theorem rw252 : rws 252 = 1 := by decide +kernel
theorem rw253 : rws 253 = 1 := by decide +kernel
theorem rw254 : rws 254 = 1 := by decide +kernel
theorem rw255 : rws 255 = 1 := by decide +kernel
theorem rw256 : rws 256 = 1 := by decide +kernel
theorem rw257 : rws 257 = 1 := by decide +kernel
theorem rw258 : rws 258 = 1 := by decide +kernel
theorem rw259 : rws 259 = 1 := by decide +kernel
theorem rw260 : rws 260 = 1 := by decide +kernel
theorem rw261 : rws 261 = 1 := by decide +kernel
theorem rw262 : rws 262 = 1 := by decide +kernel
theorem rw263 : rws 263 = 1 := by decide +kernel
theorem rw264 : rws 264 = 1 := by decide +kernel
theorem rw265 : rws 265 = 1 := by decide +kernel
theorem rw266 : rws 266 = 1 := by decide +kernel
theorem rw267 : rws 267 = 1 := by decide +kernel
theorem rw268 : rws 268 = 1 := by decide +kernel
theorem rw269 : rws 269 = 1 := by decide +kernel
theorem rw270 : rws 270 = 1 := by decide +kernel
theorem rw271 : rws 271 = 1 := by decide +kernel
theorem rw272 : rws 272 = 1 := by decide +kernel
theorem aS20 : aSt 20 = some 21 := by decide +kernel
theorem aS23 : aSt 23 = some 24 := by decide +kernel
theorem aS25 : aSt 25 = some 26 := by decide +kernel
theorem aS48 : aSt 48 = some 49 := by decide +kernel
theorem aS56 : aSt 56 = some 57 := by decide +kernel
theorem aS77 : aSt 77 = some 78 := by decide +kernel
theorem aS92 : aSt 92 = some 93 := by decide +kernel
theorem aS96 : aSt 96 = some 97 := by decide +kernel
theorem aS98 : aSt 98 = some 99 := by decide +kernel
theorem aS102 : aSt 102 = some 103 := by decide +kernel
theorem aS104 : aSt 104 = some 105 := by decide +kernel
theorem fs_0_0 : fSt 0 0 = some 20 := by decide +kernel
theorem fs_0_1 : fSt 0 1 = some 22 := by decide +kernel
theorem fs_0_2 : fSt 0 2 = some 23 := by decide +kernel
theorem fs_0_3 : fSt 0 3 = some 25 := by decide +kernel
theorem fs_0_4 : fSt 0 4 = some 27 := by decide +kernel
theorem fs_0_5 : fSt 0 5 = some 28 := by decide +kernel
theorem fs_0_6 : fSt 0 6 = some 107 := by decide +kernel
theorem fs_0_7 : fSt 0 7 = some 29 := by decide +kernel
theorem fs_0_8 : fSt 0 8 = none := by decide +kernel
theorem fs_1_0 : fSt 1 0 = some 30 := by decide +kernel
theorem fs_1_1 : fSt 1 1 = none := by decide +kernel
theorem fs_1_2 : fSt 1 2 = none := by decide +kernel
theorem fs_1_3 : fSt 1 3 = none := by decide +kernel
theorem fs_1_4 : fSt 1 4 = some 2 := by decide +kernel
theorem fs_1_5 : fSt 1 5 = some 31 := by decide +kernel
theorem fs_1_6 : fSt 1 6 = some 32 := by decide +kernel
theorem fs_1_7 : fSt 1 7 = some 33 := by decide +kernel
theorem fs_1_8 : fSt 1 8 = some 34 := by decide +kernel
theorem fs_1_9 : fSt 1 9 = some 35 := by decide +kernel
theorem fs_1_10 : fSt 1 10 = some 36 := by decide +kernel
theorem fs_1_11 : fSt 1 11 = some 37 := by decide +kernel
theorem fs_1_12 : fSt 1 12 = some 38 := by decide +kernel
theorem fs_1_13 : fSt 1 13 = none := by decide +kernel
theorem fs_1_14 : fSt 1 14 = some 39 := by decide +kernel
theorem fs_1_15 : fSt 1 15 = none := by decide +kernel
theorem fs_1_16 : fSt 1 16 = some 40 := by decide +kernel
theorem fs_1_17 : fSt 1 17 = none := by decide +kernel
theorem fs_2_0 : fSt 2 0 = some 41 := by decide +kernel
theorem fs_2_1 : fSt 2 1 = some 42 := by decide +kernel
theorem fs_2_2 : fSt 2 2 = none := by decide +kernel
theorem fs_2_3 : fSt 2 3 = some 43 := by decide +kernel
theorem fs_2_4 : fSt 2 4 = some 44 := by decide +kernel
theorem fs_2_5 : fSt 2 5 = some 45 := by decide +kernel
theorem fs_3_0 : fSt 3 0 = none := by decide +kernel
theorem fs_3_1 : fSt 3 1 = none := by decide +kernel
theorem fs_3_2 : fSt 3 2 = none := by decide +kernel
theorem fs_3_3 : fSt 3 3 = none := by decide +kernel
theorem fs_3_4 : fSt 3 4 = none := by decide +kernel
theorem fs_3_5 : fSt 3 5 = none := by decide +kernel
theorem fs_3_6 : fSt 3 6 = none := by decide +kernel
theorem fs_3_7 : fSt 3 7 = none := by decide +kernel
theorem fs_3_8 : fSt 3 8 = none := by decide +kernel
theorem fs_3_9 : fSt 3 9 = none := by decide +kernel
theorem fs_3_10 : fSt 3 10 = none := by decide +kernel
theorem fs_3_11 : fSt 3 11 = none := by decide +kernel
theorem fs_4_0 : fSt 4 0 = some 46 := by decide +kernel
theorem fs_4_1 : fSt 4 1 = none := by decide +kernel
theorem fs_4_2 : fSt 4 2 = none := by decide +kernel
theorem fs_4_3 : fSt 4 3 = none := by decide +kernel
theorem fs_4_4 : fSt 4 4 = none := by decide +kernel
theorem fs_4_5 : fSt 4 5 = none := by decide +kernel
theorem fs_5_0 : fSt 5 0 = none := by decide +kernel
theorem fs_5_1 : fSt 5 1 = some 47 := by decide +kernel
theorem fs_5_2 : fSt 5 2 = some 48 := by decide +kernel
theorem fs_5_3 : fSt 5 3 = some 50 := by decide +kernel
theorem fs_5_4 : fSt 5 4 = some 51 := by decide +kernel
theorem fs_5_5 : fSt 5 5 = some 52 := by decide +kernel
theorem fs_5_6 : fSt 5 6 = some 53 := by decide +kernel
theorem fs_5_7 : fSt 5 7 = some 54 := by decide +kernel
theorem fs_5_8 : fSt 5 8 = some 55 := by decide +kernel
theorem fs_5_9 : fSt 5 9 = some 56 := by decide +kernel
theorem fs_5_10 : fSt 5 10 = some 58 := by decide +kernel
theorem fs_5_11 : fSt 5 11 = some 59 := by decide +kernel
theorem fs_5_12 : fSt 5 12 = none := by decide +kernel
theorem fs_6_0 : fSt 6 0 = some 60 := by decide +kernel
theorem fs_6_1 : fSt 6 1 = some 61 := by decide +kernel
theorem fs_6_2 : fSt 6 2 = none := by decide +kernel
theorem fs_6_3 : fSt 6 3 = some 62 := by decide +kernel
theorem fs_6_4 : fSt 6 4 = none := by decide +kernel
theorem fs_6_5 : fSt 6 5 = some 63 := by decide +kernel
theorem fs_6_6 : fSt 6 6 = none := by decide +kernel
theorem fs_6_7 : fSt 6 7 = some 64 := by decide +kernel
theorem fs_6_8 : fSt 6 8 = none := by decide +kernel
theorem fs_7_0 : fSt 7 0 = some 2 := by decide +kernel
theorem fs_7_1 : fSt 7 1 = some 1 := by decide +kernel
theorem fs_7_2 : fSt 7 2 = none := by decide +kernel
theorem fs_7_3 : fSt 7 3 = some 65 := by decide +kernel
theorem fs_7_4 : fSt 7 4 = some 66 := by decide +kernel
theorem fs_7_5 : fSt 7 5 = some 67 := by decide +kernel
theorem fs_7_6 : fSt 7 6 = some 68 := by decide +kernel
theorem fs_7_7 : fSt 7 7 = some 69 := by decide +kernel
theorem fs_7_8 : fSt 7 8 = some 70 := by decide +kernel
theorem fs_7_9 : fSt 7 9 = some 71 := by decide +kernel
theorem fs_7_10 : fSt 7 10 = none := by decide +kernel
theorem fs_7_11 : fSt 7 11 = some 72 := by decide +kernel
theorem fs_7_12 : fSt 7 12 = some 73 := by decide +kernel
theorem fs_7_13 : fSt 7 13 = none := by decide +kernel
theorem fs_7_14 : fSt 7 14 = some 74 := by decide +kernel
theorem fs_7_15 : fSt 7 15 = some 75 := by decide +kernel
theorem fs_7_16 : fSt 7 16 = none := by decide +kernel
theorem fs_8_0 : fSt 8 0 = none := by decide +kernel
theorem fs_8_1 : fSt 8 1 = none := by decide +kernel
theorem fs_8_2 : fSt 8 2 = some 1 := by decide +kernel
theorem fs_8_3 : fSt 8 3 = some 9 := by decide +kernel
theorem fs_8_4 : fSt 8 4 = some 4 := by decide +kernel
theorem fs_8_5 : fSt 8 5 = some 76 := by decide +kernel
theorem fs_8_6 : fSt 8 6 = some 77 := by decide +kernel
theorem fs_8_7 : fSt 8 7 = some 79 := by decide +kernel
theorem fs_8_8 : fSt 8 8 = some 80 := by decide +kernel
theorem fs_8_9 : fSt 8 9 = some 81 := by decide +kernel
theorem fs_8_10 : fSt 8 10 = some 82 := by decide +kernel
theorem fs_9_0 : fSt 9 0 = none := by decide +kernel
theorem fs_9_1 : fSt 9 1 = none := by decide +kernel
theorem fs_9_2 : fSt 9 2 = none := by decide +kernel
theorem fs_9_3 : fSt 9 3 = some 1 := by decide +kernel
theorem fs_9_4 : fSt 9 4 = some 83 := by decide +kernel
theorem fs_9_5 : fSt 9 5 = some 84 := by decide +kernel
theorem fs_9_6 : fSt 9 6 = some 85 := by decide +kernel
theorem fs_9_7 : fSt 9 7 = some 86 := by decide +kernel
theorem fs_9_8 : fSt 9 8 = some 87 := by decide +kernel
theorem fs_9_9 : fSt 9 9 = none := by decide +kernel
theorem fs_9_10 : fSt 9 10 = some 88 := by decide +kernel
theorem fs_9_11 : fSt 9 11 = some 89 := by decide +kernel
theorem fs_9_12 : fSt 9 12 = some 90 := by decide +kernel
theorem fs_9_13 : fSt 9 13 = some 91 := by decide +kernel
theorem fs_10_0 : fSt 10 0 = some 1 := by decide +kernel
theorem fs_10_1 : fSt 10 1 = some 8 := by decide +kernel
theorem fs_10_2 : fSt 10 2 = some 92 := by decide +kernel
theorem fs_10_3 : fSt 10 3 = some 94 := by decide +kernel
theorem fs_10_4 : fSt 10 4 = some 95 := by decide +kernel
theorem fs_10_5 : fSt 10 5 = none := by decide +kernel
theorem fs_10_6 : fSt 10 6 = some 96 := by decide +kernel
theorem fs_10_7 : fSt 10 7 = some 98 := by decide +kernel
theorem fs_10_8 : fSt 10 8 = some 100 := by decide +kernel
theorem fs_10_9 : fSt 10 9 = some 101 := by decide +kernel
theorem fs_10_10 : fSt 10 10 = some 102 := by decide +kernel
theorem fs_10_11 : fSt 10 11 = some 104 := by decide +kernel
theorem fs_11_0 : fSt 11 0 = some 2 := by decide +kernel
theorem fs_11_1 : fSt 11 1 = some 1 := by decide +kernel
theorem fs_11_2 : fSt 11 2 = some 9 := by decide +kernel
theorem fs_11_3 : fSt 11 3 = some 8 := by decide +kernel
theorem fs_11_4 : fSt 11 4 = some 5 := by decide +kernel
theorem fs_11_5 : fSt 11 5 = some 10 := by decide +kernel
theorem fs_11_6 : fSt 11 6 = some 7 := by decide +kernel
theorem fs_11_7 : fSt 11 7 = some 0 := by decide +kernel
theorem fs_11_8 : fSt 11 8 = some 6 := by decide +kernel
theorem fs_12_0 : fSt 12 0 = none := by decide +kernel
theorem fs_12_1 : fSt 12 1 = some 200 := by decide +kernel
theorem fs_12_2 : fSt 12 2 = some 201 := by decide +kernel
theorem fs_12_3 : fSt 12 3 = none := by decide +kernel
theorem fs_12_4 : fSt 12 4 = some 202 := by decide +kernel
theorem fs_12_5 : fSt 12 5 = some 203 := by decide +kernel
theorem fs_12_6 : fSt 12 6 = some 204 := by decide +kernel
theorem fs_12_7 : fSt 12 7 = some 205 := by decide +kernel
theorem fs_12_8 : fSt 12 8 = some 206 := by decide +kernel
theorem fs_12_9 : fSt 12 9 = some 207 := by decide +kernel
theorem fs_12_10 : fSt 12 10 = some 208 := by decide +kernel
theorem fs_12_11 : fSt 12 11 = some 209 := by decide +kernel
theorem fs_12_12 : fSt 12 12 = some 210 := by decide +kernel
theorem fs_12_13 : fSt 12 13 = some 211 := by decide +kernel
theorem fs_12_14 : fSt 12 14 = some 212 := by decide +kernel
theorem fs_12_15 : fSt 12 15 = some 213 := by decide +kernel
theorem fs_12_16 : fSt 12 16 = some 214 := by decide +kernel
theorem fs_12_17 : fSt 12 17 = none := by decide +kernel
theorem fs_12_18 : fSt 12 18 = some 215 := by decide +kernel
theorem fs_12_19 : fSt 12 19 = some 216 := by decide +kernel
theorem fs_12_20 : fSt 12 20 = some 217 := by decide +kernel
theorem fs_12_21 : fSt 12 21 = some 218 := by decide +kernel
theorem fs_12_22 : fSt 12 22 = none := by decide +kernel
theorem fs_12_23 : fSt 12 23 = some 219 := by decide +kernel
theorem fs_12_24 : fSt 12 24 = some 220 := by decide +kernel
theorem fs_12_25 : fSt 12 25 = some 221 := by decide +kernel
theorem fs_12_26 : fSt 12 26 = some 222 := by decide +kernel
theorem fs_12_27 : fSt 12 27 = none := by decide +kernel
theorem fs_12_28 : fSt 12 28 = some 223 := by decide +kernel
theorem fs_12_29 : fSt 12 29 = none := by decide +kernel
theorem fs_12_30 : fSt 12 30 = some 224 := by decide +kernel
theorem fs_12_31 : fSt 12 31 = some 225 := by decide +kernel
theorem fs_12_32 : fSt 12 32 = some 226 := by decide +kernel
theorem fs_12_33 : fSt 12 33 = some 227 := by decide +kernel
theorem fs_12_34 : fSt 12 34 = none := by decide +kernel
theorem fs_12_35 : fSt 12 35 = some 228 := by decide +kernel
theorem fs_12_36 : fSt 12 36 = none := by decide +kernel
theorem fs_12_37 : fSt 12 37 = some 229 := by decide +kernel
theorem fs_12_38 : fSt 12 38 = some 230 := by decide +kernel
theorem fs_12_39 : fSt 12 39 = some 231 := by decide +kernel
theorem fs_12_40 : fSt 12 40 = some 232 := by decide +kernel
theorem fs_12_41 : fSt 12 41 = some 233 := by decide +kernel
theorem fs_12_42 : fSt 12 42 = none := by decide +kernel
theorem fs_12_43 : fSt 12 43 = some 234 := by decide +kernel
theorem fs_12_44 : fSt 12 44 = none := by decide +kernel
theorem fs_12_45 : fSt 12 45 = none := by decide +kernel
theorem fs_12_46 : fSt 12 46 = none := by decide +kernel
theorem fs_12_47 : fSt 12 47 = none := by decide +kernel
theorem fs_12_48 : fSt 12 48 = none := by decide +kernel
theorem fs_12_49 : fSt 12 49 = some 235 := by decide +kernel
theorem fs_12_50 : fSt 12 50 = none := by decide +kernel
theorem fs_12_51 : fSt 12 51 = some 236 := by decide +kernel
theorem fs_12_52 : fSt 12 52 = some 237 := by decide +kernel
theorem fs_12_53 : fSt 12 53 = some 238 := by decide +kernel
theorem fs_12_54 : fSt 12 54 = some 239 := by decide +kernel
theorem fs_12_55 : fSt 12 55 = none := by decide +kernel
theorem fs_12_56 : fSt 12 56 = some 240 := by decide +kernel
theorem fs_12_57 : fSt 12 57 = none := by decide +kernel
theorem fs_12_58 : fSt 12 58 = none := by decide +kernel
theorem fs_12_59 : fSt 12 59 = some 241 := by decide +kernel
theorem fs_12_60 : fSt 12 60 = some 242 := by decide +kernel
theorem fs_12_61 : fSt 12 61 = some 243 := by decide +kernel
theorem fs_12_62 : fSt 12 62 = none := by decide +kernel
theorem fs_12_63 : fSt 12 63 = none := by decide +kernel
theorem fs_12_64 : fSt 12 64 = some 244 := by decide +kernel
theorem fs_12_65 : fSt 12 65 = some 245 := by decide +kernel
theorem fs_12_66 : fSt 12 66 = some 246 := by decide +kernel
theorem fs_12_67 : fSt 12 67 = some 247 := by decide +kernel
theorem fs_12_68 : fSt 12 68 = some 248 := by decide +kernel
theorem fs_12_69 : fSt 12 69 = some 249 := by decide +kernel
theorem fs_12_70 : fSt 12 70 = some 250 := by decide +kernel
theorem fs_12_71 : fSt 12 71 = none := by decide +kernel
theorem fs_12_72 : fSt 12 72 = some 251 := by decide +kernel
theorem fs_12_73 : fSt 12 73 = some 252 := by decide +kernel
theorem fs_12_74 : fSt 12 74 = some 253 := by decide +kernel
theorem fs_12_75 : fSt 12 75 = some 254 := by decide +kernel
theorem fs_12_76 : fSt 12 76 = some 255 := by decide +kernel
theorem fs_12_77 : fSt 12 77 = none := by decide +kernel
theorem fs_12_78 : fSt 12 78 = none := by decide +kernel
theorem fs_12_79 : fSt 12 79 = none := by decide +kernel
theorem fs_12_80 : fSt 12 80 = none := by decide +kernel
theorem fs_12_81 : fSt 12 81 = none := by decide +kernel
theorem fs_12_82 : fSt 12 82 = some 256 := by decide +kernel
theorem fs_12_83 : fSt 12 83 = some 257 := by decide +kernel
theorem fs_12_84 : fSt 12 84 = some 258 := by decide +kernel
theorem fs_12_85 : fSt 12 85 = none := by decide +kernel
theorem fs_12_86 : fSt 12 86 = some 259 := by decide +kernel
theorem fs_12_87 : fSt 12 87 = none := by decide +kernel
theorem fs_12_88 : fSt 12 88 = some 260 := by decide +kernel
theorem fs_12_89 : fSt 12 89 = some 261 := by decide +kernel
theorem fs_12_90 : fSt 12 90 = some 262 := by decide +kernel
theorem fs_12_91 : fSt 12 91 = none := by decide +kernel
theorem fs_12_92 : fSt 12 92 = some 263 := by decide +kernel
theorem fs_12_93 : fSt 12 93 = none := by decide +kernel
theorem fs_12_94 : fSt 12 94 = some 264 := by decide +kernel
theorem fs_12_95 : fSt 12 95 = some 265 := by decide +kernel
theorem fs_12_96 : fSt 12 96 = none := by decide +kernel
theorem fs_12_97 : fSt 12 97 = some 266 := by decide +kernel
theorem fs_12_98 : fSt 12 98 = none := by decide +kernel
theorem fs_12_99 : fSt 12 99 = some 267 := by decide +kernel
theorem fs_12_100 : fSt 12 100 = some 268 := by decide +kernel
theorem fs_12_101 : fSt 12 101 = none := by decide +kernel
theorem fs_12_102 : fSt 12 102 = none := by decide +kernel
theorem fs_12_103 : fSt 12 103 = some 269 := by decide +kernel
theorem fs_12_104 : fSt 12 104 = none := by decide +kernel
theorem fs_12_105 : fSt 12 105 = none := by decide +kernel
theorem fs_12_106 : fSt 12 106 = some 270 := by decide +kernel
theorem fs_12_107 : fSt 12 107 = some 271 := by decide +kernel
theorem fs_12_108 : fSt 12 108 = some 272 := by decide +kernel
