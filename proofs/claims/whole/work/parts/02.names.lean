def RX0 : String := "SpoonSet$Dining"
def TX0 : u_T := fun k => match k with
  | 0 => ("SpoonSet$Dining", "guests", "LSpoonSet$Guests;", true)
  | _ => ("SpoonSet$Dining", "laws", "LSpoonSet$Laws;", true)
def tyX0 : Nat → FieldType := fun k => match k with
  | 0 => .object "SpoonSet$Guests"
  | _ => .object "SpoonSet$Laws"
abbrev wsX00 : List Cond := u_ws RX0 TX0 2
theorem nmX0 : ∀ a, a < 2 → ∀ b, b < 2 → a ≠ b → (TX0 a).2.1 ≠ (TX0 b).2.1 := by decide +kernel
theorem tyX0_ok : ∀ k, k < 2 → parseFieldDescriptor (TX0 k).2.2.1 = some (tyX0 k) := by decide +kernel
def RX1 : String := "SpoonSet$Game"
def TX1 : u_T := fun k => match k with
  | _ => ("SpoonSet$Game", "more", "[I", true)
def tyX1 : Nat → FieldType := fun k => match k with
  | _ => .array .int
abbrev wsX10 : List Cond := u_ws RX1 TX1 1
theorem nmX1 : ∀ a, a < 1 → ∀ b, b < 1 → a ≠ b → (TX1 a).2.1 ≠ (TX1 b).2.1 := by decide +kernel
theorem tyX1_ok : ∀ k, k < 1 → parseFieldDescriptor (TX1 k).2.2.1 = some (tyX1 k) := by decide +kernel
def RX2 : String := "SpoonSet$Guests"
def TX2 : u_T := fun k => match k with
  | 0 => ("SpoonSet$Guests", "count", "I", false)
  | 1 => ("SpoonSet$Guests", "gives", "[I", true)
  | 2 => ("SpoonSet$Guests", "cards", "[I", true)
  | _ => ("SpoonSet$Guests", "feelings", "[I", true)
def tyX2 : Nat → FieldType := fun k => match k with
  | 0 => .int
  | 1 => .array .int
  | 2 => .array .int
  | _ => .array .int
abbrev wsX20 : List Cond := u_ws RX2 TX2 4
theorem nmX2 : ∀ a, a < 4 → ∀ b, b < 4 → a ≠ b → (TX2 a).2.1 ≠ (TX2 b).2.1 := by decide +kernel
theorem tyX2_ok : ∀ k, k < 4 → parseFieldDescriptor (TX2 k).2.2.1 = some (tyX2 k) := by decide +kernel
def RX3 : String := "SpoonSet$Laws"
def TX3 : u_T := fun k => match k with
  | 0 => ("SpoonSet$Laws", "guests", "LSpoonSet$Guests;", true)
  | 1 => ("SpoonSet$Laws", "names", "[I", true)
  | _ => ("SpoonSet$Laws", "stack", "[I", true)
def tyX3 : Nat → FieldType := fun k => match k with
  | 0 => .object "SpoonSet$Guests"
  | 1 => .array .int
  | _ => .array .int
abbrev wsX30 : List Cond := u_ws RX3 TX3 3
theorem nmX3 : ∀ a, a < 3 → ∀ b, b < 3 → a ≠ b → (TX3 a).2.1 ≠ (TX3 b).2.1 := by decide +kernel
theorem tyX3_ok : ∀ k, k < 3 → parseFieldDescriptor (TX3 k).2.2.1 = some (tyX3 k) := by decide +kernel
def RX4 : String := "SpoonSet$Laying"
def TX4 : u_T := fun k => match k with
  | 0 => ("SpoonSet$Laying", "felt", "[I", true)
  | 1 => ("SpoonSet$Laying", "most", "[I", true)
  | _ => ("SpoonSet$Laying", "ways", "[I", true)
def tyX4 : Nat → FieldType := fun k => match k with
  | 0 => .array .int
  | 1 => .array .int
  | _ => .array .int
abbrev wsX40 : List Cond := u_ws RX4 TX4 3
theorem nmX4 : ∀ a, a < 3 → ∀ b, b < 3 → a ≠ b → (TX4 a).2.1 ≠ (TX4 b).2.1 := by decide +kernel
theorem tyX4_ok : ∀ k, k < 3 → parseFieldDescriptor (TX4 k).2.2.1 = some (tyX4 k) := by decide +kernel
def RX5 : String := "SpoonSet$Notes"
def TX5 : u_T := fun k => match k with
  | 0 => ("SpoonSet$Notes", "most", "I", true)
  | 1 => ("SpoonSet$Notes", "cells", "[I", true)
  | _ => ("SpoonSet$Notes", "count", "I", false)
def tyX5 : Nat → FieldType := fun k => match k with
  | 0 => .int
  | 1 => .array .int
  | _ => .int
abbrev wsX50 : List Cond := u_ws RX5 TX5 3
theorem nmX5 : ∀ a, a < 3 → ∀ b, b < 3 → a ≠ b → (TX5 a).2.1 ≠ (TX5 b).2.1 := by decide +kernel
theorem tyX5_ok : ∀ k, k < 3 → parseFieldDescriptor (TX5 k).2.2.1 = some (tyX5 k) := by decide +kernel
def RX6 : String := "SpoonSet$Reader"
def TX6 : u_T := fun k => match k with
  | 0 => ("SpoonSet$Reader", "tape", "LSpoonSet$Tape;", true)
  | 1 => ("SpoonSet$Reader", "at", "I", false)
  | 2 => ("SpoonSet$Reader", "token", "I", false)
  | 3 => ("SpoonSet$Reader", "out", "LSpoonSet$Script;", false)
  | 4 => ("SpoonSet$Reader", "law", "I", false)
  | 5 => ("SpoonSet$Reader", "fault", "I", false)
  | _ => ("SpoonSet$Reader", "faultPlace", "I", false)
def tyX6 : Nat → FieldType := fun k => match k with
  | 0 => .object "SpoonSet$Tape"
  | 1 => .int
  | 2 => .int
  | 3 => .object "SpoonSet$Script"
  | 4 => .int
  | 5 => .int
  | _ => .int
abbrev wsX60 : List Cond := u_ws RX6 TX6 7
theorem nmX6 : ∀ a, a < 7 → ∀ b, b < 7 → a ≠ b → (TX6 a).2.1 ≠ (TX6 b).2.1 := by decide +kernel
theorem tyX6_ok : ∀ k, k < 7 → parseFieldDescriptor (TX6 k).2.2.1 = some (tyX6 k) := by decide +kernel
def RX7 : String := "SpoonSet$Script"
def TX7 : u_T := fun k => match k with
  | 0 => ("SpoonSet$Script", "code", "[I", true)
  | 1 => ("SpoonSet$Script", "size", "I", false)
  | 2 => ("SpoonSet$Script", "fadesFrom", "I", false)
  | 3 => ("SpoonSet$Script", "fadesTo", "I", false)
  | 4 => ("SpoonSet$Script", "feltFrom", "I", false)
  | 5 => ("SpoonSet$Script", "feltTo", "I", false)
  | 6 => ("SpoonSet$Script", "kinds", "[I", true)
  | 7 => ("SpoonSet$Script", "firsts", "[I", true)
  | 8 => ("SpoonSet$Script", "seconds", "[I", true)
  | _ => ("SpoonSet$Script", "clauses", "I", false)
def tyX7 : Nat → FieldType := fun k => match k with
  | 0 => .array .int
  | 1 => .int
  | 2 => .int
  | 3 => .int
  | 4 => .int
  | 5 => .int
  | 6 => .array .int
  | 7 => .array .int
  | 8 => .array .int
  | _ => .int
abbrev wsX70 : List Cond := u_ws RX7 TX7 10
theorem nmX7 : ∀ a, a < 10 → ∀ b, b < 10 → a ≠ b → (TX7 a).2.1 ≠ (TX7 b).2.1 := by decide +kernel
theorem tyX7_ok : ∀ k, k < 10 → parseFieldDescriptor (TX7 k).2.2.1 = some (tyX7 k) := by decide +kernel
def RX8 : String := "SpoonSet$Table"
def TX8 : u_T := fun k => match k with
  | 0 => ("SpoonSet$Table", "mouths", "[I", true)
  | 1 => ("SpoonSet$Table", "strongs", "[I", true)
  | 2 => ("SpoonSet$Table", "heights", "[I", true)
  | 3 => ("SpoonSet$Table", "lines", "[I", true)
  | 4 => ("SpoonSet$Table", "written", "I", false)
  | 5 => ("SpoonSet$Table", "mood", "I", false)
  | 6 => ("SpoonSet$Table", "dinner", "I", false)
  | _ => ("SpoonSet$Table", "x", "I", false)
def tyX8 : Nat → FieldType := fun k => match k with
  | 0 => .array .int
  | 1 => .array .int
  | 2 => .array .int
  | 3 => .array .int
  | 4 => .int
  | 5 => .int
  | 6 => .int
  | _ => .int
abbrev wsX80 : List Cond := u_ws RX8 TX8 8
theorem nmX8 : ∀ a, a < 8 → ∀ b, b < 8 → a ≠ b → (TX8 a).2.1 ≠ (TX8 b).2.1 := by decide +kernel
theorem tyX8_ok : ∀ k, k < 8 → parseFieldDescriptor (TX8 k).2.2.1 = some (tyX8 k) := by decide +kernel
def RX9 : String := "SpoonSet$Tape"
def TX9 : u_T := fun k => match k with
  | 0 => ("SpoonSet$Tape", "bytes", "[I", true)
  | 1 => ("SpoonSet$Tape", "length", "I", false)
  | 2 => ("SpoonSet$Tape", "next", "I", false)
  | 3 => ("SpoonSet$Tape", "kinds", "[I", true)
  | 4 => ("SpoonSet$Tape", "starts", "[I", true)
  | _ => ("SpoonSet$Tape", "numbers", "[I", true)
def tyX9 : Nat → FieldType := fun k => match k with
  | 0 => .array .int
  | 1 => .int
  | 2 => .int
  | 3 => .array .int
  | 4 => .array .int
  | _ => .array .int
abbrev wsX90 : List Cond := u_ws RX9 TX9 6
theorem nmX9 : ∀ a, a < 6 → ∀ b, b < 6 → a ≠ b → (TX9 a).2.1 ≠ (TX9 b).2.1 := by decide +kernel
theorem tyX9_ok : ∀ k, k < 6 → parseFieldDescriptor (TX9 k).2.2.1 = some (tyX9 k) := by decide +kernel
def RX10 : String := "SpoonSet$World"
def TX10 : u_T := fun k => match k with
  | 0 => ("SpoonSet$World", "table", "LSpoonSet$Table;", true)
  | 1 => ("SpoonSet$World", "past", "[LSpoonSet$Table;", true)
  | 2 => ("SpoonSet$World", "oldest", "I", false)
  | 3 => ("SpoonSet$World", "steps", "I", false)
  | 4 => ("SpoonSet$World", "guests", "LSpoonSet$Guests;", true)
  | 5 => ("SpoonSet$World", "texts", "I", false)
  | 6 => ("SpoonSet$World", "ruling", "I", false)
  | 7 => ("SpoonSet$World", "clues", "LSpoonSet$Notes;", true)
  | 8 => ("SpoonSet$World", "tests", "LSpoonSet$Notes;", true)
  | 9 => ("SpoonSet$World", "sayings", "LSpoonSet$Notes;", true)
  | 10 => ("SpoonSet$World", "nextHouse", "[I", true)
  | 11 => ("SpoonSet$World", "mine", "[I", true)
  | _ => ("SpoonSet$World", "yours", "[I", true)
def tyX10 : Nat → FieldType := fun k => match k with
  | 0 => .object "SpoonSet$Table"
  | 1 => .array (.object "SpoonSet$Table")
  | 2 => .int
  | 3 => .int
  | 4 => .object "SpoonSet$Guests"
  | 5 => .int
  | 6 => .int
  | 7 => .object "SpoonSet$Notes"
  | 8 => .object "SpoonSet$Notes"
  | 9 => .object "SpoonSet$Notes"
  | 10 => .array .int
  | 11 => .array .int
  | _ => .array .int
abbrev wsX100 : List Cond := u_ws RX10 TX10 13
theorem nmX10 : ∀ a, a < 13 → ∀ b, b < 13 → a ≠ b → (TX10 a).2.1 ≠ (TX10 b).2.1 := by decide +kernel
theorem tyX10_ok : ∀ k, k < 13 → parseFieldDescriptor (TX10 k).2.2.1 = some (tyX10 k) := by decide +kernel
def RX11 : String := "SpoonSet"
def TX11 : u_T := fun k => match k with
  | 0 => ("SpoonSet", "now", "LSpoonSet$World;", true)
  | 1 => ("SpoonSet", "kept", "LSpoonSet$World;", true)
  | 2 => ("SpoonSet", "ahead", "LSpoonSet$Table;", true)
  | 3 => ("SpoonSet", "tape", "LSpoonSet$Tape;", true)
  | 4 => ("SpoonSet", "scripts", "[LSpoonSet$Script;", true)
  | 5 => ("SpoonSet", "reader", "LSpoonSet$Reader;", true)
  | 6 => ("SpoonSet", "dining", "LSpoonSet$Dining;", true)
  | 7 => ("SpoonSet", "laying", "LSpoonSet$Laying;", true)
  | _ => ("SpoonSet", "hostesses", "LSpoonSet$Game;", true)
def tyX11 : Nat → FieldType := fun k => match k with
  | 0 => .object "SpoonSet$World"
  | 1 => .object "SpoonSet$World"
  | 2 => .object "SpoonSet$Table"
  | 3 => .object "SpoonSet$Tape"
  | 4 => .array (.object "SpoonSet$Script")
  | 5 => .object "SpoonSet$Reader"
  | 6 => .object "SpoonSet$Dining"
  | 7 => .object "SpoonSet$Laying"
  | _ => .object "SpoonSet$Game"
abbrev wsX110 : List Cond := u_ws RX11 TX11 9
theorem nmX11 : ∀ a, a < 9 → ∀ b, b < 9 → a ≠ b → (TX11 a).2.1 ≠ (TX11 b).2.1 := by decide +kernel
theorem tyX11_ok : ∀ k, k < 9 → parseFieldDescriptor (TX11 k).2.2.1 = some (tyX11 k) := by decide +kernel
def RX12 : String := "SpoonSetModel"
def TX12 : u_T := fun k => match k with
  | 0 => ("SpoonSetModel", "a", "[I", true)
  | 1 => ("SpoonSetModel", "image", "[I", true)
  | 2 => ("SpoonSetModel", "texts", "[I", true)
  | 3 => ("SpoonSetModel", "tape", "[I", true)
  | 4 => ("SpoonSetModel", "taped", "I", false)
  | 5 => ("SpoonSetModel", "fault", "I", false)
  | 6 => ("SpoonSetModel", "faultPlace", "I", false)
  | 7 => ("SpoonSetModel", "at", "I", false)
  | 8 => ("SpoonSetModel", "place", "I", false)
  | 9 => ("SpoonSetModel", "token", "I", false)
  | 10 => ("SpoonSetModel", "number", "I", false)
  | 11 => ("SpoonSetModel", "word", "J", false)
  | 12 => ("SpoonSetModel", "text0", "I", false)
  | 13 => ("SpoonSetModel", "written", "I", false)
  | 14 => ("SpoonSetModel", "sort0", "I", false)
  | 15 => ("SpoonSetModel", "pile", "[I", true)
  | 16 => ("SpoonSetModel", "piled", "I", false)
  | 17 => ("SpoonSetModel", "opens", "I", false)
  | 18 => ("SpoonSetModel", "isWhole", "Z", false)
  | 19 => ("SpoonSetModel", "once", "I", false)
  | 20 => ("SpoonSetModel", "named", "[I", true)
  | 21 => ("SpoonSetModel", "values", "[J", true)
  | 22 => ("SpoonSetModel", "truth", "[Z", true)
  | 23 => ("SpoonSetModel", "isWritten", "Z", false)
  | 24 => ("SpoonSetModel", "eaten", "I", false)
  | 25 => ("SpoonSetModel", "watchedSpoon", "I", false)
  | 26 => ("SpoonSetModel", "watchedAt", "I", false)
  | 27 => ("SpoonSetModel", "aside", "[I", true)
  | 28 => ("SpoonSetModel", "table", "[I", true)
  | 29 => ("SpoonSetModel", "lay", "[I", true)
  | 30 => ("SpoonSetModel", "bestLay", "[I", true)
  | 31 => ("SpoonSetModel", "bestFelt", "I", false)
  | 32 => ("SpoonSetModel", "worstFelt", "I", false)
  | 33 => ("SpoonSetModel", "asGood", "I", false)
  | _ => ("SpoonSetModel", "games", "[I", true)
def tyX12 : Nat → FieldType := fun k => match k with
  | 0 => .array .int
  | 1 => .array .int
  | 2 => .array .int
  | 3 => .array .int
  | 4 => .int
  | 5 => .int
  | 6 => .int
  | 7 => .int
  | 8 => .int
  | 9 => .int
  | 10 => .int
  | 11 => .long
  | 12 => .int
  | 13 => .int
  | 14 => .int
  | 15 => .array .int
  | 16 => .int
  | 17 => .int
  | 18 => .boolean
  | 19 => .int
  | 20 => .array .int
  | 21 => .array .long
  | 22 => .array .boolean
  | 23 => .boolean
  | 24 => .int
  | 25 => .int
  | 26 => .int
  | 27 => .array .int
  | 28 => .array .int
  | 29 => .array .int
  | 30 => .array .int
  | 31 => .int
  | 32 => .int
  | 33 => .int
  | _ => .array .int
abbrev wsX120 : List Cond := u_ws RX12 TX12 35
theorem nmX12 : ∀ a, a < 35 → ∀ b, b < 35 → a ≠ b → (TX12 a).2.1 ≠ (TX12 b).2.1 := by decide +kernel
theorem tyX12_ok : ∀ k, k < 35 → parseFieldDescriptor (TX12 k).2.2.1 = some (tyX12 k) := by decide +kernel
abbrev vwCl : List vw_C := [(RX0, TX0, 2), (RX1, TX1, 1), (RX2, TX2, 4), (RX3, TX3, 3), (RX4, TX4, 3), (RX5, TX5, 3), (RX6, TX6, 7), (RX7, TX7, 10), (RX8, TX8, 8), (RX9, TX9, 6), (RX10, TX10, 13), (RX11, TX11, 9), (RX12, TX12, 35)]
