def it_R0 : String := "IcedTooSoon$House"
def it_F0 : u_T := fun k => match k with
  | 0 => ("IcedTooSoon$House", "book", "LIcedTooSoon$Lawbook;", true)
  | 1 => ("IcedTooSoon$House", "guests", "I", false)
  | 2 => ("IcedTooSoon$House", "kind", "[I", true)
  | 3 => ("IcedTooSoon$House", "more", "[I", true)
  | 4 => ("IcedTooSoon$House", "mood", "[I", true)
  | 5 => ("IcedTooSoon$House", "cold", "[I", true)
  | 6 => ("IcedTooSoon$House", "whose", "[I", true)
  | 7 => ("IcedTooSoon$House", "weight", "[I", true)
  | 8 => ("IcedTooSoon$House", "ice", "[I", true)
  | 9 => ("IcedTooSoon$House", "date", "I", false)
  | _ => ("IcedTooSoon$House", "law", "I", false)
def it_t0 : Nat → FieldType := fun k => match k with
  | 0 => .object "IcedTooSoon$Lawbook"
  | 1 => .int
  | 2 => .array .int
  | 3 => .array .int
  | 4 => .array .int
  | 5 => .array .int
  | 6 => .array .int
  | 7 => .array .int
  | 8 => .array .int
  | 9 => .int
  | _ => .int
theorem it_n0 : ∀ a, a < 11 → ∀ b, b < 11 → a ≠ b → (it_F0 a).2.1 ≠ (it_F0 b).2.1 := by decide +kernel
theorem it_y0 : ∀ k, k < 11 → parseFieldDescriptor (it_F0 k).2.2.1 = some (it_t0 k) := by decide +kernel
theorem it_i0 : ∀ w ∈ u_ws it_R0 it_F0 11, w ∈ lw_tbl := by decide +kernel
def it_R1 : String := "IcedTooSoon$Lawbook"
def it_F1 : u_T := fun k => match k with
  | 0 => ("IcedTooSoon$Lawbook", "texts", "[LIcedTooSoon$Text;", true)
  | 1 => ("IcedTooSoon$Lawbook", "named", "[I", true)
  | 2 => ("IcedTooSoon$Lawbook", "pile", "[I", true)
  | _ => ("IcedTooSoon$Lawbook", "size", "I", false)
def it_t1 : Nat → FieldType := fun k => match k with
  | 0 => .array (.object "IcedTooSoon$Text")
  | 1 => .array .int
  | 2 => .array .int
  | _ => .int
theorem it_n1 : ∀ a, a < 4 → ∀ b, b < 4 → a ≠ b → (it_F1 a).2.1 ≠ (it_F1 b).2.1 := by decide +kernel
theorem it_y1 : ∀ k, k < 4 → parseFieldDescriptor (it_F1 k).2.2.1 = some (it_t1 k) := by decide +kernel
theorem it_i1 : ∀ w ∈ u_ws it_R1 it_F1 4, w ∈ lw_tbl := by decide +kernel
def it_R2 : String := "IcedTooSoon$Sheet"
def it_F2 : u_T := fun k => match k with
  | 0 => ("IcedTooSoon$Sheet", "sort", "I", false)
  | 1 => ("IcedTooSoon$Sheet", "size", "I", false)
  | _ => ("IcedTooSoon$Sheet", "cells", "[I", true)
def it_t2 : Nat → FieldType := fun k => match k with
  | 0 => .int
  | 1 => .int
  | _ => .array .int
theorem it_n2 : ∀ a, a < 3 → ∀ b, b < 3 → a ≠ b → (it_F2 a).2.1 ≠ (it_F2 b).2.1 := by decide +kernel
theorem it_y2 : ∀ k, k < 3 → parseFieldDescriptor (it_F2 k).2.2.1 = some (it_t2 k) := by decide +kernel
theorem it_i2 : ∀ w ∈ u_ws it_R2 it_F2 3, w ∈ lw_tbl := by decide +kernel
def it_R3 : String := "IcedTooSoon$Tape"
def it_F3 : u_T := fun k => match k with
  | 0 => ("IcedTooSoon$Tape", "bytes", "[I", true)
  | 1 => ("IcedTooSoon$Tape", "size", "I", false)
  | 2 => ("IcedTooSoon$Tape", "at", "I", false)
  | 3 => ("IcedTooSoon$Tape", "token", "I", false)
  | 4 => ("IcedTooSoon$Tape", "number", "I", false)
  | 5 => ("IcedTooSoon$Tape", "place", "I", false)
  | 6 => ("IcedTooSoon$Tape", "code", "[I", true)
  | 7 => ("IcedTooSoon$Tape", "codes", "I", false)
  | _ => ("IcedTooSoon$Tape", "ends", "[I", true)
def it_t3 : Nat → FieldType := fun k => match k with
  | 0 => .array .int
  | 1 => .int
  | 2 => .int
  | 3 => .int
  | 4 => .int
  | 5 => .int
  | 6 => .array .int
  | 7 => .int
  | _ => .array .int
theorem it_n3 : ∀ a, a < 9 → ∀ b, b < 9 → a ≠ b → (it_F3 a).2.1 ≠ (it_F3 b).2.1 := by decide +kernel
theorem it_y3 : ∀ k, k < 9 → parseFieldDescriptor (it_F3 k).2.2.1 = some (it_t3 k) := by decide +kernel
theorem it_i3 : ∀ w ∈ u_ws it_R3 it_F3 9, w ∈ lw_tbl := by decide +kernel
def it_R4 : String := "IcedTooSoon$Text"
def it_F4 : u_T := fun k => match k with
  | 0 => ("IcedTooSoon$Text", "code", "[I", true)
  | _ => ("IcedTooSoon$Text", "ends", "[I", true)
def it_t4 : Nat → FieldType := fun k => match k with
  | 0 => .array .int
  | _ => .array .int
theorem it_n4 : ∀ a, a < 2 → ∀ b, b < 2 → a ≠ b → (it_F4 a).2.1 ≠ (it_F4 b).2.1 := by decide +kernel
theorem it_y4 : ∀ k, k < 2 → parseFieldDescriptor (it_F4 k).2.2.1 = some (it_t4 k) := by decide +kernel
theorem it_i4 : ∀ w ∈ u_ws it_R4 it_F4 2, w ∈ lw_tbl := by decide +kernel
def it_R5 : String := "IcedTooSoon"
def it_F5 : u_T := fun k => match k with
  | 0 => ("IcedTooSoon", "book", "LIcedTooSoon$Lawbook;", true)
  | 1 => ("IcedTooSoon", "tape", "LIcedTooSoon$Tape;", true)
  | 2 => ("IcedTooSoon", "house", "LIcedTooSoon$House;", true)
  | 3 => ("IcedTooSoon", "thought", "LIcedTooSoon$House;", true)
  | 4 => ("IcedTooSoon", "kept", "LIcedTooSoon$House;", true)
  | 5 => ("IcedTooSoon", "isKept", "Z", false)
  | _ => ("IcedTooSoon", "sheets", "[LIcedTooSoon$Sheet;", true)
def it_t5 : Nat → FieldType := fun k => match k with
  | 0 => .object "IcedTooSoon$Lawbook"
  | 1 => .object "IcedTooSoon$Tape"
  | 2 => .object "IcedTooSoon$House"
  | 3 => .object "IcedTooSoon$House"
  | 4 => .object "IcedTooSoon$House"
  | 5 => .boolean
  | _ => .array (.object "IcedTooSoon$Sheet")
theorem it_n5 : ∀ a, a < 7 → ∀ b, b < 7 → a ≠ b → (it_F5 a).2.1 ≠ (it_F5 b).2.1 := by decide +kernel
theorem it_y5 : ∀ k, k < 7 → parseFieldDescriptor (it_F5 k).2.2.1 = some (it_t5 k) := by decide +kernel
theorem it_i5 : ∀ w ∈ u_ws it_R5 it_F5 7, w ∈ lw_tbl := by decide +kernel
def it_R6 : String := "IcedTooSoonModel"
def it_F6 : u_T := fun k => match k with
  | 0 => ("IcedTooSoonModel", "guests", "I", false)
  | 1 => ("IcedTooSoonModel", "kind", "[I", true)
  | 2 => ("IcedTooSoonModel", "moreOf", "[I", true)
  | 3 => ("IcedTooSoonModel", "rows", "[I", true)
  | 4 => ("IcedTooSoonModel", "glasses", "[I", true)
  | 5 => ("IcedTooSoonModel", "days", "I", false)
  | 6 => ("IcedTooSoonModel", "tape", "[I", true)
  | 7 => ("IcedTooSoonModel", "taped", "I", false)
  | 8 => ("IcedTooSoonModel", "codes", "[I", true)
  | 9 => ("IcedTooSoonModel", "starts", "[I", true)
  | 10 => ("IcedTooSoonModel", "texts", "I", false)
  | 11 => ("IcedTooSoonModel", "rule", "I", false)
  | 12 => ("IcedTooSoonModel", "hasImage", "Z", false)
  | 13 => ("IcedTooSoonModel", "imageRows", "[I", true)
  | 14 => ("IcedTooSoonModel", "imageHeld", "[I", true)
  | 15 => ("IcedTooSoonModel", "sheetSort", "[I", true)
  | 16 => ("IcedTooSoonModel", "sheetSize", "[I", true)
  | 17 => ("IcedTooSoonModel", "cells", "[I", true)
  | 18 => ("IcedTooSoonModel", "law", "[I", true)
  | 19 => ("IcedTooSoonModel", "at", "I", false)
  | 20 => ("IcedTooSoonModel", "begun", "I", false)
  | 21 => ("IcedTooSoonModel", "token", "I", false)
  | 22 => ("IcedTooSoonModel", "value", "I", false)
  | 23 => ("IcedTooSoonModel", "words", "[I", true)
  | 24 => ("IcedTooSoonModel", "held", "[I", true)
  | 25 => ("IcedTooSoonModel", "heldMany", "I", false)
  | 26 => ("IcedTooSoonModel", "opens", "I", false)
  | 27 => ("IcedTooSoonModel", "out", "I", false)
  | 28 => ("IcedTooSoonModel", "stack", "[I", true)
  | 29 => ("IcedTooSoonModel", "named", "[I", true)
  | 30 => ("IcedTooSoonModel", "kept", "[I", true)
  | 31 => ("IcedTooSoonModel", "roundSet", "I", false)
  | 32 => ("IcedTooSoonModel", "keptIce", "[I", true)
  | _ => ("IcedTooSoonModel", "manyThen", "I", false)
def it_t6 : Nat → FieldType := fun k => match k with
  | 0 => .int
  | 1 => .array .int
  | 2 => .array .int
  | 3 => .array .int
  | 4 => .array .int
  | 5 => .int
  | 6 => .array .int
  | 7 => .int
  | 8 => .array .int
  | 9 => .array .int
  | 10 => .int
  | 11 => .int
  | 12 => .boolean
  | 13 => .array .int
  | 14 => .array .int
  | 15 => .array .int
  | 16 => .array .int
  | 17 => .array .int
  | 18 => .array .int
  | 19 => .int
  | 20 => .int
  | 21 => .int
  | 22 => .int
  | 23 => .array .int
  | 24 => .array .int
  | 25 => .int
  | 26 => .int
  | 27 => .int
  | 28 => .array .int
  | 29 => .array .int
  | 30 => .array .int
  | 31 => .int
  | 32 => .array .int
  | _ => .int
theorem it_n6 : ∀ a, a < 34 → ∀ b, b < 34 → a ≠ b → (it_F6 a).2.1 ≠ (it_F6 b).2.1 := by decide +kernel
theorem it_y6 : ∀ k, k < 34 → parseFieldDescriptor (it_F6 k).2.2.1 = some (it_t6 k) := by decide +kernel
theorem it_i6 : ∀ w ∈ u_ws it_R6 it_F6 34, w ∈ lw_tbl := by decide +kernel
abbrev it_cl : List vw_C := [(it_R0, it_F0, 11), (it_R1, it_F1, 4), (it_R2, it_F2, 3), (it_R3, it_F3, 9), (it_R4, it_F4, 2), (it_R5, it_F5, 7), (it_R6, it_F6, 34)]
/-- which fields are references -/
def it_mask (ci : Nat) : List Bool := match ci with
  | 0 => [true, false, true, true, true, true, true, true, true, false, false]
  | 1 => [true, true, true, false]
  | 2 => [false, false, true]
  | 3 => [true, false, false, false, false, false, true, false, true]
  | 4 => [true, true]
  | 5 => [true, true, true, true, true, false, true]
  | _ => [false, true, true, true, true, false, true, false, true, true, false, false, false, true, true, true, true, true, true, false, false, false, false, true, true, false, false, false, true, true, true, false, true, false]
