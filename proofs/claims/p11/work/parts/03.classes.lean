def RX0 : String := "RoundKeepers$Air"
def TX0 : u_T := fun k => match k with
  | 0 => ("RoundKeepers$Air", "ring", "[LRoundKeepers$Message;", true)
  | 1 => ("RoundKeepers$Air", "taken", "LRoundKeepers$Message;", false)
  | 2 => ("RoundKeepers$Air", "wasted", "LRoundKeepers$Message;", true)
  | 3 => ("RoundKeepers$Air", "head", "I", false)
  | 4 => ("RoundKeepers$Air", "size", "I", false)
  | 5 => ("RoundKeepers$Air", "lost", "I", false)
  | _ => ("RoundKeepers$Air", "sent", "I", false)
def tyX0 : Nat → FieldType := fun k => match k with
  | 0 => .array (.object "RoundKeepers$Message")
  | 1 => .object "RoundKeepers$Message"
  | 2 => .object "RoundKeepers$Message"
  | 3 => .int
  | 4 => .int
  | 5 => .int
  | _ => .int
theorem nmX0 : ∀ a, a < 7 → ∀ b, b < 7 → a ≠ b → (TX0 a).2.1 ≠ (TX0 b).2.1 := by decide +kernel
theorem tyX0_ok : ∀ k, k < 7 → parseFieldDescriptor (TX0 k).2.2.1 = some (tyX0 k) := by decide +kernel
def RX1 : String := "RoundKeepers$Collecting"
def TX1 : u_T := fun k => match k with
  | 0 => ("RoundKeepers$Collecting", "stage", "I", false)
  | 1 => ("RoundKeepers$Collecting", "firm", "I", false)
  | 2 => ("RoundKeepers$Collecting", "knowing", "I", false)
  | 3 => ("RoundKeepers$Collecting", "collected", "I", false)
  | 4 => ("RoundKeepers$Collecting", "releasing", "I", false)
  | _ => ("RoundKeepers$Collecting", "released", "I", false)
def tyX1 : Nat → FieldType := fun k => match k with
  | 0 => .int
  | 1 => .int
  | 2 => .int
  | 3 => .int
  | 4 => .int
  | _ => .int
theorem nmX1 : ∀ a, a < 6 → ∀ b, b < 6 → a ≠ b → (TX1 a).2.1 ≠ (TX1 b).2.1 := by decide +kernel
theorem tyX1_ok : ∀ k, k < 6 → parseFieldDescriptor (TX1 k).2.2.1 = some (tyX1 k) := by decide +kernel
def RX2 : String := "RoundKeepers$Copies"
def TX2 : u_T := fun k => match k with
  | 0 => ("RoundKeepers$Copies", "air", "LRoundKeepers$Air;", true)
  | 1 => ("RoundKeepers$Copies", "values", "[I", true)
  | _ => ("RoundKeepers$Copies", "clashes", "I", false)
def tyX2 : Nat → FieldType := fun k => match k with
  | 0 => .object "RoundKeepers$Air"
  | 1 => .array .int
  | _ => .int
theorem nmX2 : ∀ a, a < 3 → ∀ b, b < 3 → a ≠ b → (TX2 a).2.1 ≠ (TX2 b).2.1 := by decide +kernel
theorem tyX2_ok : ∀ k, k < 3 → parseFieldDescriptor (TX2 k).2.2.1 = some (tyX2 k) := by decide +kernel
def RX3 : String := "RoundKeepers$Keeper"
def TX3 : u_T := fun k => match k with
  | 0 => ("RoundKeepers$Keeper", "number", "I", true)
  | 1 => ("RoundKeepers$Keeper", "air", "LRoundKeepers$Air;", true)
  | 2 => ("RoundKeepers$Keeper", "groups", "[I", true)
  | 3 => ("RoundKeepers$Keeper", "state", "I", false)
  | 4 => ("RoundKeepers$Keeper", "generation", "I", false)
  | 5 => ("RoundKeepers$Keeper", "readySet", "I", false)
  | 6 => ("RoundKeepers$Keeper", "watermark", "I", false)
  | 7 => ("RoundKeepers$Keeper", "entries", "[I", true)
  | 8 => ("RoundKeepers$Keeper", "ballot", "I", false)
  | 9 => ("RoundKeepers$Keeper", "pickBallot", "I", false)
  | 10 => ("RoundKeepers$Keeper", "pickSet", "I", false)
  | _ => ("RoundKeepers$Keeper", "nextSet", "I", false)
def tyX3 : Nat → FieldType := fun k => match k with
  | 0 => .int
  | 1 => .object "RoundKeepers$Air"
  | 2 => .array .int
  | 3 => .int
  | 4 => .int
  | 5 => .int
  | 6 => .int
  | 7 => .array .int
  | 8 => .int
  | 9 => .int
  | 10 => .int
  | _ => .int
theorem nmX3 : ∀ a, a < 12 → ∀ b, b < 12 → a ≠ b → (TX3 a).2.1 ≠ (TX3 b).2.1 := by decide +kernel
theorem tyX3_ok : ∀ k, k < 12 → parseFieldDescriptor (TX3 k).2.2.1 = some (tyX3 k) := by decide +kernel
def RX4 : String := "RoundKeepers$Keeping"
def TX4 : u_T := fun k => match k with
  | 0 => ("RoundKeepers$Keeping", "number", "I", true)
  | 1 => ("RoundKeepers$Keeping", "air", "LRoundKeepers$Air;", true)
  | 2 => ("RoundKeepers$Keeping", "generation", "I", false)
  | 3 => ("RoundKeepers$Keeping", "set", "I", false)
  | 4 => ("RoundKeepers$Keeping", "step", "I", false)
  | 5 => ("RoundKeepers$Keeping", "ballot", "I", false)
  | 6 => ("RoundKeepers$Keeping", "wanted", "I", false)
  | 7 => ("RoundKeepers$Keeping", "noted", "I", false)
  | 8 => ("RoundKeepers$Keeping", "watermark", "I", false)
  | 9 => ("RoundKeepers$Keeping", "entries", "[I", true)
  | 10 => ("RoundKeepers$Keeping", "pickBallot", "I", false)
  | _ => ("RoundKeepers$Keeping", "pickSet", "I", false)
def tyX4 : Nat → FieldType := fun k => match k with
  | 0 => .int
  | 1 => .object "RoundKeepers$Air"
  | 2 => .int
  | 3 => .int
  | 4 => .int
  | 5 => .int
  | 6 => .int
  | 7 => .int
  | 8 => .int
  | 9 => .array .int
  | 10 => .int
  | _ => .int
theorem nmX4 : ∀ a, a < 12 → ∀ b, b < 12 → a ≠ b → (TX4 a).2.1 ≠ (TX4 b).2.1 := by decide +kernel
theorem tyX4_ok : ∀ k, k < 12 → parseFieldDescriptor (TX4 k).2.2.1 = some (tyX4 k) := by decide +kernel
def RX5 : String := "RoundKeepers$Leader"
def TX5 : u_T := fun k => match k with
  | 0 => ("RoundKeepers$Leader", "number", "I", true)
  | 1 => ("RoundKeepers$Leader", "air", "LRoundKeepers$Air;", true)
  | 2 => ("RoundKeepers$Leader", "groups", "[I", true)
  | 3 => ("RoundKeepers$Leader", "keeping", "LRoundKeepers$Keeping;", true)
  | 4 => ("RoundKeepers$Leader", "slots", "LRoundKeepers$Slots;", true)
  | 5 => ("RoundKeepers$Leader", "collecting", "LRoundKeepers$Collecting;", true)
  | 6 => ("RoundKeepers$Leader", "phase", "I", false)
  | 7 => ("RoundKeepers$Leader", "round", "I", false)
  | 8 => ("RoundKeepers$Leader", "group", "I", false)
  | 9 => ("RoundKeepers$Leader", "matched", "I", false)
  | 10 => ("RoundKeepers$Leader", "watermark", "I", false)
  | 11 => ("RoundKeepers$Leader", "history", "[I", true)
  | 12 => ("RoundKeepers$Leader", "asked", "I", false)
  | 13 => ("RoundKeepers$Leader", "known", "I", false)
  | 14 => ("RoundKeepers$Leader", "votes", "[I", true)
  | 15 => ("RoundKeepers$Leader", "base", "I", false)
  | _ => ("RoundKeepers$Leader", "next", "I", false)
def tyX5 : Nat → FieldType := fun k => match k with
  | 0 => .int
  | 1 => .object "RoundKeepers$Air"
  | 2 => .array .int
  | 3 => .object "RoundKeepers$Keeping"
  | 4 => .object "RoundKeepers$Slots"
  | 5 => .object "RoundKeepers$Collecting"
  | 6 => .int
  | 7 => .int
  | 8 => .int
  | 9 => .int
  | 10 => .int
  | 11 => .array .int
  | 12 => .int
  | 13 => .int
  | 14 => .array .int
  | 15 => .int
  | _ => .int
theorem nmX5 : ∀ a, a < 17 → ∀ b, b < 17 → a ≠ b → (TX5 a).2.1 ≠ (TX5 b).2.1 := by decide +kernel
theorem tyX5_ok : ∀ k, k < 17 → parseFieldDescriptor (TX5 k).2.2.1 = some (tyX5 k) := by decide +kernel
def RX6 : String := "RoundKeepers$Message"
def TX6 : u_T := fun k => match k with
  | 0 => ("RoundKeepers$Message", "kind", "I", false)
  | 1 => ("RoundKeepers$Message", "from", "I", false)
  | 2 => ("RoundKeepers$Message", "to", "I", false)
  | 3 => ("RoundKeepers$Message", "a", "I", false)
  | 4 => ("RoundKeepers$Message", "b", "I", false)
  | 5 => ("RoundKeepers$Message", "c", "I", false)
  | 6 => ("RoundKeepers$Message", "pickBallot", "I", false)
  | 7 => ("RoundKeepers$Message", "pickSet", "I", false)
  | _ => ("RoundKeepers$Message", "load", "[I", true)
def tyX6 : Nat → FieldType := fun k => match k with
  | 0 => .int
  | 1 => .int
  | 2 => .int
  | 3 => .int
  | 4 => .int
  | 5 => .int
  | 6 => .int
  | 7 => .int
  | _ => .array .int
theorem nmX6 : ∀ a, a < 9 → ∀ b, b < 9 → a ≠ b → (TX6 a).2.1 ≠ (TX6 b).2.1 := by decide +kernel
theorem tyX6_ok : ∀ k, k < 9 → parseFieldDescriptor (TX6 k).2.2.1 = some (tyX6 k) := by decide +kernel
def RX7 : String := "RoundKeepers$Rounds"
def TX7 : u_T := fun k => match k with
  | _ => ("", "", "", false)
def tyX7 : Nat → FieldType := fun k => match k with
  | _ => .int
theorem nmX7 : ∀ a, a < 0 → ∀ b, b < 0 → a ≠ b → (TX7 a).2.1 ≠ (TX7 b).2.1 := by decide +kernel
theorem tyX7_ok : ∀ k, k < 0 → parseFieldDescriptor (TX7 k).2.2.1 = some (tyX7 k) := by decide +kernel
def RX8 : String := "RoundKeepers$Slots"
def TX8 : u_T := fun k => match k with
  | 0 => ("RoundKeepers$Slots", "number", "I", true)
  | 1 => ("RoundKeepers$Slots", "air", "LRoundKeepers$Air;", true)
  | 2 => ("RoundKeepers$Slots", "states", "[I", true)
  | 3 => ("RoundKeepers$Slots", "values", "[I", true)
  | 4 => ("RoundKeepers$Slots", "voted", "[I", true)
  | _ => ("RoundKeepers$Slots", "told", "[I", true)
def tyX8 : Nat → FieldType := fun k => match k with
  | 0 => .int
  | 1 => .object "RoundKeepers$Air"
  | 2 => .array .int
  | 3 => .array .int
  | 4 => .array .int
  | _ => .array .int
theorem nmX8 : ∀ a, a < 6 → ∀ b, b < 6 → a ≠ b → (TX8 a).2.1 ≠ (TX8 b).2.1 := by decide +kernel
theorem tyX8_ok : ∀ k, k < 6 → parseFieldDescriptor (TX8 k).2.2.1 = some (tyX8 k) := by decide +kernel
def RX9 : String := "RoundKeepers$Tally"
def TX9 : u_T := fun k => match k with
  | 0 => ("RoundKeepers$Tally", "groups", "[I", true)
  | 1 => ("RoundKeepers$Tally", "voted", "[J", true)
  | 2 => ("RoundKeepers$Tally", "first", "[I", true)
  | 3 => ("RoundKeepers$Tally", "apart", "I", false)
  | _ => ("RoundKeepers$Tally", "breaches", "I", false)
def tyX9 : Nat → FieldType := fun k => match k with
  | 0 => .array .int
  | 1 => .array .long
  | 2 => .array .int
  | 3 => .int
  | _ => .int
theorem nmX9 : ∀ a, a < 5 → ∀ b, b < 5 → a ≠ b → (TX9 a).2.1 ≠ (TX9 b).2.1 := by decide +kernel
theorem tyX9_ok : ∀ k, k < 5 → parseFieldDescriptor (TX9 k).2.2.1 = some (tyX9 k) := by decide +kernel
def RX10 : String := "RoundKeepers$Voter"
def TX10 : u_T := fun k => match k with
  | 0 => ("RoundKeepers$Voter", "number", "I", true)
  | 1 => ("RoundKeepers$Voter", "air", "LRoundKeepers$Air;", true)
  | 2 => ("RoundKeepers$Voter", "tally", "LRoundKeepers$Tally;", true)
  | 3 => ("RoundKeepers$Voter", "promised", "I", false)
  | 4 => ("RoundKeepers$Voter", "knows", "I", false)
  | _ => ("RoundKeepers$Voter", "votes", "[I", true)
def tyX10 : Nat → FieldType := fun k => match k with
  | 0 => .int
  | 1 => .object "RoundKeepers$Air"
  | 2 => .object "RoundKeepers$Tally"
  | 3 => .int
  | 4 => .int
  | _ => .array .int
theorem nmX10 : ∀ a, a < 6 → ∀ b, b < 6 → a ≠ b → (TX10 a).2.1 ≠ (TX10 b).2.1 := by decide +kernel
theorem tyX10_ok : ∀ k, k < 6 → parseFieldDescriptor (TX10 k).2.2.1 = some (tyX10 k) := by decide +kernel
def RX11 : String := "RoundKeepers"
def TX11 : u_T := fun k => match k with
  | 0 => ("RoundKeepers", "air", "LRoundKeepers$Air;", true)
  | 1 => ("RoundKeepers", "groups", "[I", true)
  | 2 => ("RoundKeepers", "tally", "LRoundKeepers$Tally;", true)
  | 3 => ("RoundKeepers", "leaders", "[LRoundKeepers$Leader;", true)
  | 4 => ("RoundKeepers", "keepers", "[LRoundKeepers$Keeper;", true)
  | 5 => ("RoundKeepers", "voters", "[LRoundKeepers$Voter;", true)
  | 6 => ("RoundKeepers", "copies", "LRoundKeepers$Copies;", true)
  | 7 => ("RoundKeepers", "upBits", "[I", true)
  | 8 => ("RoundKeepers", "arrived", "I", false)
  | _ => ("RoundKeepers", "begun", "I", false)
def tyX11 : Nat → FieldType := fun k => match k with
  | 0 => .object "RoundKeepers$Air"
  | 1 => .array .int
  | 2 => .object "RoundKeepers$Tally"
  | 3 => .array (.object "RoundKeepers$Leader")
  | 4 => .array (.object "RoundKeepers$Keeper")
  | 5 => .array (.object "RoundKeepers$Voter")
  | 6 => .object "RoundKeepers$Copies"
  | 7 => .array .int
  | 8 => .int
  | _ => .int
theorem nmX11 : ∀ a, a < 10 → ∀ b, b < 10 → a ≠ b → (TX11 a).2.1 ≠ (TX11 b).2.1 := by decide +kernel
theorem tyX11_ok : ∀ k, k < 10 → parseFieldDescriptor (TX11 k).2.2.1 = some (tyX11 k) := by decide +kernel
def RX12 : String := "RoundKeepersModel"
def TX12 : u_T := fun k => match k with
  | 0 => ("RoundKeepersModel", "thrown", "I", false)
  | 1 => ("RoundKeepersModel", "down", "[Z", true)
  | 2 => ("RoundKeepersModel", "phase", "[I", true)
  | 3 => ("RoundKeepersModel", "round", "[I", true)
  | 4 => ("RoundKeepersModel", "group", "[I", true)
  | 5 => ("RoundKeepersModel", "gen", "[I", true)
  | 6 => ("RoundKeepersModel", "set", "[I", true)
  | 7 => ("RoundKeepersModel", "matchedBy", "[I", true)
  | 8 => ("RoundKeepersModel", "highMark", "[I", true)
  | 9 => ("RoundKeepersModel", "noted", "[I", true)
  | 10 => ("RoundKeepersModel", "askedBy", "[I", true)
  | 11 => ("RoundKeepersModel", "known", "[I", true)
  | 12 => ("RoundKeepersModel", "seenRound", "[I", true)
  | 13 => ("RoundKeepersModel", "seenValue", "[I", true)
  | 14 => ("RoundKeepersModel", "base", "[I", true)
  | 15 => ("RoundKeepersModel", "next", "[I", true)
  | 16 => ("RoundKeepersModel", "state", "[I", true)
  | 17 => ("RoundKeepersModel", "value", "[I", true)
  | 18 => ("RoundKeepersModel", "votedBy", "[I", true)
  | 19 => ("RoundKeepersModel", "toldBy", "[I", true)
  | 20 => ("RoundKeepersModel", "stage", "[I", true)
  | 21 => ("RoundKeepersModel", "firmTold", "[I", true)
  | 22 => ("RoundKeepersModel", "knownBy", "[I", true)
  | 23 => ("RoundKeepersModel", "collectedBy", "[I", true)
  | 24 => ("RoundKeepersModel", "releaseTo", "[I", true)
  | 25 => ("RoundKeepersModel", "releasedBy", "[I", true)
  | 26 => ("RoundKeepersModel", "step", "[I", true)
  | 27 => ("RoundKeepersModel", "wanted", "[I", true)
  | 28 => ("RoundKeepersModel", "ballot", "[I", true)
  | 29 => ("RoundKeepersModel", "reformedBy", "[I", true)
  | 30 => ("RoundKeepersModel", "reformMark", "[I", true)
  | 31 => ("RoundKeepersModel", "reformNoted", "[I", true)
  | 32 => ("RoundKeepersModel", "pickBallot", "[I", true)
  | 33 => ("RoundKeepersModel", "pickSet", "[I", true)
  | 34 => ("RoundKeepersModel", "mode", "[I", true)
  | 35 => ("RoundKeepersModel", "keeperGen", "[I", true)
  | 36 => ("RoundKeepersModel", "keeperSet", "[I", true)
  | 37 => ("RoundKeepersModel", "mark", "[I", true)
  | 38 => ("RoundKeepersModel", "entries", "[I", true)
  | 39 => ("RoundKeepersModel", "keeperBallot", "[I", true)
  | 40 => ("RoundKeepersModel", "keeperPick", "[I", true)
  | 41 => ("RoundKeepersModel", "keeperPickSet", "[I", true)
  | 42 => ("RoundKeepersModel", "nextSet", "[I", true)
  | 43 => ("RoundKeepersModel", "promised", "[I", true)
  | 44 => ("RoundKeepersModel", "knows", "[I", true)
  | 45 => ("RoundKeepersModel", "voteRound", "[I", true)
  | 46 => ("RoundKeepersModel", "voteValue", "[I", true)
  | 47 => ("RoundKeepersModel", "copyValue", "[I", true)
  | 48 => ("RoundKeepersModel", "air", "I", false)
  | 49 => ("RoundKeepersModel", "order", "[I", true)
  | 50 => ("RoundKeepersModel", "used", "[Z", true)
  | 51 => ("RoundKeepersModel", "kinds", "[I", true)
  | 52 => ("RoundKeepersModel", "froms", "[I", true)
  | 53 => ("RoundKeepersModel", "tos", "[I", true)
  | 54 => ("RoundKeepersModel", "fields", "[I", true)
  | 55 => ("RoundKeepersModel", "many", "[I", true)
  | 56 => ("RoundKeepersModel", "picks", "[I", true)
  | 57 => ("RoundKeepersModel", "payload", "[I", true)
  | 58 => ("RoundKeepersModel", "last", "I", false)
  | 59 => ("RoundKeepersModel", "begun", "[I", true)
  | 60 => ("RoundKeepersModel", "votersOf", "[I", true)
  | 61 => ("RoundKeepersModel", "agreedValue", "[I", true)
  | 62 => ("RoundKeepersModel", "lost", "I", false)
  | 63 => ("RoundKeepersModel", "came", "I", false)
  | 64 => ("RoundKeepersModel", "clashes", "I", false)
  | 65 => ("RoundKeepersModel", "breaches", "I", false)
  | _ => ("RoundKeepersModel", "rounds", "I", false)
def tyX12 : Nat → FieldType := fun k => match k with
  | 0 => .int
  | 1 => .array .boolean
  | 2 => .array .int
  | 3 => .array .int
  | 4 => .array .int
  | 5 => .array .int
  | 6 => .array .int
  | 7 => .array .int
  | 8 => .array .int
  | 9 => .array .int
  | 10 => .array .int
  | 11 => .array .int
  | 12 => .array .int
  | 13 => .array .int
  | 14 => .array .int
  | 15 => .array .int
  | 16 => .array .int
  | 17 => .array .int
  | 18 => .array .int
  | 19 => .array .int
  | 20 => .array .int
  | 21 => .array .int
  | 22 => .array .int
  | 23 => .array .int
  | 24 => .array .int
  | 25 => .array .int
  | 26 => .array .int
  | 27 => .array .int
  | 28 => .array .int
  | 29 => .array .int
  | 30 => .array .int
  | 31 => .array .int
  | 32 => .array .int
  | 33 => .array .int
  | 34 => .array .int
  | 35 => .array .int
  | 36 => .array .int
  | 37 => .array .int
  | 38 => .array .int
  | 39 => .array .int
  | 40 => .array .int
  | 41 => .array .int
  | 42 => .array .int
  | 43 => .array .int
  | 44 => .array .int
  | 45 => .array .int
  | 46 => .array .int
  | 47 => .array .int
  | 48 => .int
  | 49 => .array .int
  | 50 => .array .boolean
  | 51 => .array .int
  | 52 => .array .int
  | 53 => .array .int
  | 54 => .array .int
  | 55 => .array .int
  | 56 => .array .int
  | 57 => .array .int
  | 58 => .int
  | 59 => .array .int
  | 60 => .array .int
  | 61 => .array .int
  | 62 => .int
  | 63 => .int
  | 64 => .int
  | 65 => .int
  | _ => .int
theorem nmX12 : ∀ a, a < 67 → ∀ b, b < 67 → a ≠ b → (TX12 a).2.1 ≠ (TX12 b).2.1 := by decide +kernel
theorem tyX12_ok : ∀ k, k < 67 → parseFieldDescriptor (TX12 k).2.2.1 = some (tyX12 k) := by decide +kernel
