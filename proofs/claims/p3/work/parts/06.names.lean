def T_0 : u_T := fun k => match k with
  | 0 => ("MacroHouse", "text", "LMacroHouse$Signs;", true)
  | _ => ("MacroHouse", "latest", "LMacroHouse$Expander;", true)
def ty_0 : Nat → FieldType := fun k => match k with
  | 0 => .object "MacroHouse$Signs"
  | _ => .object "MacroHouse$Expander"
theorem nm_0 : ∀ a, a < 2 → ∀ b, b < 2 → a ≠ b → (T_0 a).2.1 ≠ (T_0 b).2.1 := by decide +kernel
theorem tk_0 : ∀ k, k < 2 → parseFieldDescriptor (T_0 k).2.2.1 = some (ty_0 k) := by decide +kernel
theorem ii_0 : ∀ w ∈ u_ws "MacroHouse" T_0 2, w ∈ mz_tb := by decide +kernel
def T_1 : u_T := fun k => match k with
  | 0 => ("MacroHouse$Signs", "row", "[B", true)
  | 1 => ("MacroHouse$Signs", "starts", "[I", true)
  | 2 => ("MacroHouse$Signs", "stops", "[I", true)
  | 3 => ("MacroHouse$Signs", "length", "I", false)
  | _ => ("MacroHouse$Signs", "lines", "I", false)
def ty_1 : Nat → FieldType := fun k => match k with
  | 0 => .array .byte
  | 1 => .array .int
  | 2 => .array .int
  | 3 => .int
  | _ => .int
theorem nm_1 : ∀ a, a < 5 → ∀ b, b < 5 → a ≠ b → (T_1 a).2.1 ≠ (T_1 b).2.1 := by decide +kernel
theorem tk_1 : ∀ k, k < 5 → parseFieldDescriptor (T_1 k).2.2.1 = some (ty_1 k) := by decide +kernel
theorem ii_1 : ∀ w ∈ u_ws "MacroHouse$Signs" T_1 5, w ∈ mz_tb := by decide +kernel
def T_2 : u_T := fun k => match k with
  | 0 => ("MacroHouse$Expander", "signs", "LMacroHouse$Signs;", true)
  | 1 => ("MacroHouse$Expander", "reader", "LMacroHouse$Reader;", true)
  | 2 => ("MacroHouse$Expander", "conditions", "LMacroHouse$Conditions;", true)
  | 3 => ("MacroHouse$Expander", "constants", "LMacroHouse$Constants;", true)
  | 4 => ("MacroHouse$Expander", "macros", "LMacroHouse$Macros;", true)
  | 5 => ("MacroHouse$Expander", "stack", "LMacroHouse$Stack;", true)
  | 6 => ("MacroHouse$Expander", "output", "LMacroHouse$Output;", true)
  | 7 => ("MacroHouse$Expander", "fault", "I", false)
  | 8 => ("MacroHouse$Expander", "faultLine", "I", false)
  | 9 => ("MacroHouse$Expander", "looked", "I", false)
  | 10 => ("MacroHouse$Expander", "calls", "I", false)
  | 11 => ("MacroHouse$Expander", "current", "I", false)
  | 12 => ("MacroHouse$Expander", "from", "I", false)
  | 13 => ("MacroHouse$Expander", "to", "I", false)
  | _ => ("MacroHouse$Expander", "directive", "LMacroHouse$Directive;", false)
def ty_2 : Nat → FieldType := fun k => match k with
  | 0 => .object "MacroHouse$Signs"
  | 1 => .object "MacroHouse$Reader"
  | 2 => .object "MacroHouse$Conditions"
  | 3 => .object "MacroHouse$Constants"
  | 4 => .object "MacroHouse$Macros"
  | 5 => .object "MacroHouse$Stack"
  | 6 => .object "MacroHouse$Output"
  | 7 => .int
  | 8 => .int
  | 9 => .int
  | 10 => .int
  | 11 => .int
  | 12 => .int
  | 13 => .int
  | _ => .object "MacroHouse$Directive"
theorem nm_2 : ∀ a, a < 15 → ∀ b, b < 15 → a ≠ b → (T_2 a).2.1 ≠ (T_2 b).2.1 := by decide +kernel
theorem tk_2 : ∀ k, k < 15 → parseFieldDescriptor (T_2 k).2.2.1 = some (ty_2 k) := by decide +kernel
theorem ii_2 : ∀ w ∈ u_ws "MacroHouse$Expander" T_2 15, w ∈ mz_tb := by decide +kernel
def T_3 : u_T := fun k => match k with
  | 0 => ("MacroHouse$Reader", "signs", "LMacroHouse$Signs;", true)
  | 1 => ("MacroHouse$Reader", "constants", "LMacroHouse$Constants;", true)
  | 2 => ("MacroHouse$Reader", "at", "I", false)
  | 3 => ("MacroHouse$Reader", "stop", "I", false)
  | 4 => ("MacroHouse$Reader", "wordFrom", "I", false)
  | 5 => ("MacroHouse$Reader", "wordTo", "I", false)
  | 6 => ("MacroHouse$Reader", "wrong", "Z", false)
  | _ => ("MacroHouse$Reader", "met", "I", false)
def ty_3 : Nat → FieldType := fun k => match k with
  | 0 => .object "MacroHouse$Signs"
  | 1 => .object "MacroHouse$Constants"
  | 2 => .int
  | 3 => .int
  | 4 => .int
  | 5 => .int
  | 6 => .boolean
  | _ => .int
theorem nm_3 : ∀ a, a < 8 → ∀ b, b < 8 → a ≠ b → (T_3 a).2.1 ≠ (T_3 b).2.1 := by decide +kernel
theorem tk_3 : ∀ k, k < 8 → parseFieldDescriptor (T_3 k).2.2.1 = some (ty_3 k) := by decide +kernel
theorem ii_3 : ∀ w ∈ u_ws "MacroHouse$Reader" T_3 8, w ∈ mz_tb := by decide +kernel
def T_4 : u_T := fun k => match k with
  | 0 => ("MacroHouse$Conditions", "reached", "[Z", true)
  | 1 => ("MacroHouse$Conditions", "now", "[Z", true)
  | 2 => ("MacroHouse$Conditions", "came", "[Z", true)
  | 3 => ("MacroHouse$Conditions", "last", "[Z", true)
  | 4 => ("MacroHouse$Conditions", "lines", "[I", true)
  | _ => ("MacroHouse$Conditions", "count", "I", false)
def ty_4 : Nat → FieldType := fun k => match k with
  | 0 => .array .boolean
  | 1 => .array .boolean
  | 2 => .array .boolean
  | 3 => .array .boolean
  | 4 => .array .int
  | _ => .int
theorem nm_4 : ∀ a, a < 6 → ∀ b, b < 6 → a ≠ b → (T_4 a).2.1 ≠ (T_4 b).2.1 := by decide +kernel
theorem tk_4 : ∀ k, k < 6 → parseFieldDescriptor (T_4 k).2.2.1 = some (ty_4 k) := by decide +kernel
theorem ii_4 : ∀ w ∈ u_ws "MacroHouse$Conditions" T_4 6, w ∈ mz_tb := by decide +kernel
def T_5 : u_T := fun k => match k with
  | 0 => ("MacroHouse$Constants", "names", "LMacroHouse$Names;", true)
  | _ => ("MacroHouse$Constants", "numbers", "[I", true)
def ty_5 : Nat → FieldType := fun k => match k with
  | 0 => .object "MacroHouse$Names"
  | _ => .array .int
theorem nm_5 : ∀ a, a < 2 → ∀ b, b < 2 → a ≠ b → (T_5 a).2.1 ≠ (T_5 b).2.1 := by decide +kernel
theorem tk_5 : ∀ k, k < 2 → parseFieldDescriptor (T_5 k).2.2.1 = some (ty_5 k) := by decide +kernel
theorem ii_5 : ∀ w ∈ u_ws "MacroHouse$Constants" T_5 2, w ∈ mz_tb := by decide +kernel
def T_6 : u_T := fun k => match k with
  | 0 => ("MacroHouse$Names", "signs", "LMacroHouse$Signs;", true)
  | 1 => ("MacroHouse$Names", "most", "I", true)
  | 2 => ("MacroHouse$Names", "row", "[B", true)
  | 3 => ("MacroHouse$Names", "lengths", "[I", true)
  | _ => ("MacroHouse$Names", "count", "I", false)
def ty_6 : Nat → FieldType := fun k => match k with
  | 0 => .object "MacroHouse$Signs"
  | 1 => .int
  | 2 => .array .byte
  | 3 => .array .int
  | _ => .int
theorem nm_6 : ∀ a, a < 5 → ∀ b, b < 5 → a ≠ b → (T_6 a).2.1 ≠ (T_6 b).2.1 := by decide +kernel
theorem tk_6 : ∀ k, k < 5 → parseFieldDescriptor (T_6 k).2.2.1 = some (ty_6 k) := by decide +kernel
theorem ii_6 : ∀ w ∈ u_ws "MacroHouse$Names" T_6 5, w ∈ mz_tb := by decide +kernel
def T_7 : u_T := fun k => match k with
  | 0 => ("MacroHouse$Macros", "signs", "LMacroHouse$Signs;", true)
  | 1 => ("MacroHouse$Macros", "names", "LMacroHouse$Names;", true)
  | 2 => ("MacroHouse$Macros", "parameters", "[I", true)
  | 3 => ("MacroHouse$Macros", "bodies", "[I", true)
  | 4 => ("MacroHouse$Macros", "heads", "[I", true)
  | 5 => ("MacroHouse$Macros", "calls", "[I", true)
  | 6 => ("MacroHouse$Macros", "wordFrom", "[I", true)
  | 7 => ("MacroHouse$Macros", "wordTo", "[I", true)
  | 8 => ("MacroHouse$Macros", "defaultFrom", "[I", true)
  | 9 => ("MacroHouse$Macros", "defaultTo", "[I", true)
  | 10 => ("MacroHouse$Macros", "nameFrom", "I", false)
  | _ => ("MacroHouse$Macros", "nameTo", "I", false)
def ty_7 : Nat → FieldType := fun k => match k with
  | 0 => .object "MacroHouse$Signs"
  | 1 => .object "MacroHouse$Names"
  | 2 => .array .int
  | 3 => .array .int
  | 4 => .array .int
  | 5 => .array .int
  | 6 => .array .int
  | 7 => .array .int
  | 8 => .array .int
  | 9 => .array .int
  | 10 => .int
  | _ => .int
theorem nm_7 : ∀ a, a < 12 → ∀ b, b < 12 → a ≠ b → (T_7 a).2.1 ≠ (T_7 b).2.1 := by decide +kernel
theorem tk_7 : ∀ k, k < 12 → parseFieldDescriptor (T_7 k).2.2.1 = some (ty_7 k) := by decide +kernel
theorem ii_7 : ∀ w ∈ u_ws "MacroHouse$Macros" T_7 12, w ∈ mz_tb := by decide +kernel
def T_8 : u_T := fun k => match k with
  | 0 => ("MacroHouse$Stack", "signs", "LMacroHouse$Signs;", true)
  | 1 => ("MacroHouse$Stack", "macros", "LMacroHouse$Macros;", true)
  | 2 => ("MacroHouse$Stack", "whole", "LMacroHouse$Frame;", true)
  | 3 => ("MacroHouse$Stack", "frames", "[LMacroHouse$Frame;", true)
  | 4 => ("MacroHouse$Stack", "depth", "I", false)
  | 5 => ("MacroHouse$Stack", "deepest", "I", false)
  | 6 => ("MacroHouse$Stack", "origin", "I", false)
  | 7 => ("MacroHouse$Stack", "replacedFrom", "I", false)
  | 8 => ("MacroHouse$Stack", "replacedTo", "I", false)
  | 9 => ("MacroHouse$Stack", "wrong", "Z", false)
  | _ => ("MacroHouse$Stack", "around", "I", false)
def ty_8 : Nat → FieldType := fun k => match k with
  | 0 => .object "MacroHouse$Signs"
  | 1 => .object "MacroHouse$Macros"
  | 2 => .object "MacroHouse$Frame"
  | 3 => .array (.object "MacroHouse$Frame")
  | 4 => .int
  | 5 => .int
  | 6 => .int
  | 7 => .int
  | 8 => .int
  | 9 => .boolean
  | _ => .int
theorem nm_8 : ∀ a, a < 11 → ∀ b, b < 11 → a ≠ b → (T_8 a).2.1 ≠ (T_8 b).2.1 := by decide +kernel
theorem tk_8 : ∀ k, k < 11 → parseFieldDescriptor (T_8 k).2.2.1 = some (ty_8 k) := by decide +kernel
theorem ii_8 : ∀ w ∈ u_ws "MacroHouse$Stack" T_8 11, w ∈ mz_tb := by decide +kernel
def T_9 : u_T := fun k => match k with
  | 0 => ("MacroHouse$Output", "row", "[B", true)
  | 1 => ("MacroHouse$Output", "starts", "[I", true)
  | 2 => ("MacroHouse$Output", "stops", "[I", true)
  | 3 => ("MacroHouse$Output", "lines", "[I", true)
  | 4 => ("MacroHouse$Output", "depths", "[I", true)
  | 5 => ("MacroHouse$Output", "count", "I", false)
  | _ => ("MacroHouse$Output", "length", "I", false)
def ty_9 : Nat → FieldType := fun k => match k with
  | 0 => .array .byte
  | 1 => .array .int
  | 2 => .array .int
  | 3 => .array .int
  | 4 => .array .int
  | 5 => .int
  | _ => .int
theorem nm_9 : ∀ a, a < 7 → ∀ b, b < 7 → a ≠ b → (T_9 a).2.1 ≠ (T_9 b).2.1 := by decide +kernel
theorem tk_9 : ∀ k, k < 7 → parseFieldDescriptor (T_9 k).2.2.1 = some (ty_9 k) := by decide +kernel
theorem ii_9 : ∀ w ∈ u_ws "MacroHouse$Output" T_9 7, w ∈ mz_tb := by decide +kernel
def T_10 : u_T := fun k => match k with
  | 0 => ("MacroHouse$Frame", "kind", "LMacroHouse$Directive;", false)
  | 1 => ("MacroHouse$Frame", "from", "I", false)
  | 2 => ("MacroHouse$Frame", "to", "I", false)
  | 3 => ("MacroHouse$Frame", "next", "I", false)
  | 4 => ("MacroHouse$Frame", "times", "I", false)
  | 5 => ("MacroHouse$Frame", "turn", "I", false)
  | 6 => ("MacroHouse$Frame", "conditions", "I", false)
  | 7 => ("MacroHouse$Frame", "macro", "I", false)
  | 8 => ("MacroHouse$Frame", "number", "I", false)
  | 9 => ("MacroHouse$Frame", "wordFrom", "I", false)
  | 10 => ("MacroHouse$Frame", "wordTo", "I", false)
  | 11 => ("MacroHouse$Frame", "restFrom", "I", false)
  | 12 => ("MacroHouse$Frame", "restTo", "I", false)
  | 13 => ("MacroHouse$Frame", "argumentFrom", "[I", true)
  | _ => ("MacroHouse$Frame", "argumentTo", "[I", true)
def ty_10 : Nat → FieldType := fun k => match k with
  | 0 => .object "MacroHouse$Directive"
  | 1 => .int
  | 2 => .int
  | 3 => .int
  | 4 => .int
  | 5 => .int
  | 6 => .int
  | 7 => .int
  | 8 => .int
  | 9 => .int
  | 10 => .int
  | 11 => .int
  | 12 => .int
  | 13 => .array .int
  | _ => .array .int
theorem nm_10 : ∀ a, a < 15 → ∀ b, b < 15 → a ≠ b → (T_10 a).2.1 ≠ (T_10 b).2.1 := by decide +kernel
theorem tk_10 : ∀ k, k < 15 → parseFieldDescriptor (T_10 k).2.2.1 = some (ty_10 k) := by decide +kernel
theorem ii_10 : ∀ w ∈ u_ws "MacroHouse$Frame" T_10 15, w ∈ mz_tb := by decide +kernel
def T_11 : u_T := fun k => match k with
  | 0 => ("MacroHouseModel", "thrown", "I", false)
  | 1 => ("MacroHouseModel", "signs", "[I", true)
  | 2 => ("MacroHouseModel", "size", "I", false)
  | 3 => ("MacroHouseModel", "lines", "I", false)
  | 4 => ("MacroHouseModel", "lineFrom", "[I", true)
  | 5 => ("MacroHouseModel", "lineTo", "[I", true)
  | 6 => ("MacroHouseModel", "faultKind", "I", false)
  | 7 => ("MacroHouseModel", "faultLine", "I", false)
  | 8 => ("MacroHouseModel", "looked", "I", false)
  | 9 => ("MacroHouseModel", "called", "I", false)
  | 10 => ("MacroHouseModel", "deepest", "I", false)
  | 11 => ("MacroHouseModel", "went", "Z", false)
  | 12 => ("MacroHouseModel", "macros", "I", false)
  | 13 => ("MacroHouseModel", "macroA", "[J", true)
  | 14 => ("MacroHouseModel", "macroB", "[J", true)
  | 15 => ("MacroHouseModel", "macroFrom", "[I", true)
  | 16 => ("MacroHouseModel", "macroTo", "[I", true)
  | 17 => ("MacroHouseModel", "macroLine", "[I", true)
  | 18 => ("MacroHouseModel", "macroCalls", "[I", true)
  | 19 => ("MacroHouseModel", "macroMany", "[I", true)
  | 20 => ("MacroHouseModel", "paramA", "[J", true)
  | 21 => ("MacroHouseModel", "paramB", "[J", true)
  | 22 => ("MacroHouseModel", "defaultFrom", "[I", true)
  | 23 => ("MacroHouseModel", "defaultTo", "[I", true)
  | 24 => ("MacroHouseModel", "constants", "I", false)
  | 25 => ("MacroHouseModel", "constantA", "[J", true)
  | 26 => ("MacroHouseModel", "constantB", "[J", true)
  | 27 => ("MacroHouseModel", "constantValue", "[I", true)
  | 28 => ("MacroHouseModel", "outLines", "I", false)
  | 29 => ("MacroHouseModel", "outSigns", "I", false)
  | 30 => ("MacroHouseModel", "outFrom", "[I", true)
  | 31 => ("MacroHouseModel", "outOf", "[I", true)
  | 32 => ("MacroHouseModel", "outDeep", "[I", true)
  | 33 => ("MacroHouseModel", "out", "[I", true)
  | 34 => ("MacroHouseModel", "frames", "I", false)
  | 35 => ("MacroHouseModel", "frKind", "[I", true)
  | 36 => ("MacroHouseModel", "frFrom", "[I", true)
  | 37 => ("MacroHouseModel", "frTo", "[I", true)
  | 38 => ("MacroHouseModel", "frAt", "[I", true)
  | 39 => ("MacroHouseModel", "frLeft", "[I", true)
  | 40 => ("MacroHouseModel", "frGiven", "[I", true)
  | 41 => ("MacroHouseModel", "frMacro", "[I", true)
  | 42 => ("MacroHouseModel", "frCall", "[I", true)
  | 43 => ("MacroHouseModel", "frIfs", "[I", true)
  | 44 => ("MacroHouseModel", "frTexts", "[I", true)
  | 45 => ("MacroHouseModel", "frSigns", "[I", true)
  | 46 => ("MacroHouseModel", "frA", "[J", true)
  | 47 => ("MacroHouseModel", "frB", "[J", true)
  | 48 => ("MacroHouseModel", "texts", "I", false)
  | 49 => ("MacroHouseModel", "textFrom", "[I", true)
  | 50 => ("MacroHouseModel", "textTo", "[I", true)
  | 51 => ("MacroHouseModel", "held", "I", false)
  | 52 => ("MacroHouseModel", "heldSigns", "[I", true)
  | 53 => ("MacroHouseModel", "ifs", "I", false)
  | 54 => ("MacroHouseModel", "ifComes", "[Z", true)
  | 55 => ("MacroHouseModel", "ifDone", "[Z", true)
  | 56 => ("MacroHouseModel", "ifDead", "[Z", true)
  | 57 => ("MacroHouseModel", "ifElse", "[Z", true)
  | 58 => ("MacroHouseModel", "ifLine", "[I", true)
  | 59 => ("MacroHouseModel", "cur", "[I", true)
  | 60 => ("MacroHouseModel", "end", "I", false)
  | 61 => ("MacroHouseModel", "q", "I", false)
  | 62 => ("MacroHouseModel", "ok", "Z", false)
  | 63 => ("MacroHouseModel", "outer", "I", false)
  | 64 => ("MacroHouseModel", "valueFault", "I", false)
  | 65 => ("MacroHouseModel", "wordA", "J", false)
  | 66 => ("MacroHouseModel", "wordB", "J", false)
  | 67 => ("MacroHouseModel", "open", "I", false)
  | 68 => ("MacroHouseModel", "vKind", "[I", true)
  | 69 => ("MacroHouseModel", "vCompare", "[I", true)
  | 70 => ("MacroHouseModel", "vPlus", "[I", true)
  | 71 => ("MacroHouseModel", "vTimes", "[I", true)
  | 72 => ("MacroHouseModel", "vFirst", "[I", true)
  | 73 => ("MacroHouseModel", "vSum", "[I", true)
  | 74 => ("MacroHouseModel", "vProduct", "[I", true)
  | 75 => ("MacroHouseModel", "newMany", "I", false)
  | 76 => ("MacroHouseModel", "newA", "[J", true)
  | 77 => ("MacroHouseModel", "newB", "[J", true)
  | 78 => ("MacroHouseModel", "newFrom", "[I", true)
  | _ => ("MacroHouseModel", "newTo", "[I", true)
def ty_11 : Nat → FieldType := fun k => match k with
  | 0 => .int
  | 1 => .array .int
  | 2 => .int
  | 3 => .int
  | 4 => .array .int
  | 5 => .array .int
  | 6 => .int
  | 7 => .int
  | 8 => .int
  | 9 => .int
  | 10 => .int
  | 11 => .boolean
  | 12 => .int
  | 13 => .array .long
  | 14 => .array .long
  | 15 => .array .int
  | 16 => .array .int
  | 17 => .array .int
  | 18 => .array .int
  | 19 => .array .int
  | 20 => .array .long
  | 21 => .array .long
  | 22 => .array .int
  | 23 => .array .int
  | 24 => .int
  | 25 => .array .long
  | 26 => .array .long
  | 27 => .array .int
  | 28 => .int
  | 29 => .int
  | 30 => .array .int
  | 31 => .array .int
  | 32 => .array .int
  | 33 => .array .int
  | 34 => .int
  | 35 => .array .int
  | 36 => .array .int
  | 37 => .array .int
  | 38 => .array .int
  | 39 => .array .int
  | 40 => .array .int
  | 41 => .array .int
  | 42 => .array .int
  | 43 => .array .int
  | 44 => .array .int
  | 45 => .array .int
  | 46 => .array .long
  | 47 => .array .long
  | 48 => .int
  | 49 => .array .int
  | 50 => .array .int
  | 51 => .int
  | 52 => .array .int
  | 53 => .int
  | 54 => .array .boolean
  | 55 => .array .boolean
  | 56 => .array .boolean
  | 57 => .array .boolean
  | 58 => .array .int
  | 59 => .array .int
  | 60 => .int
  | 61 => .int
  | 62 => .boolean
  | 63 => .int
  | 64 => .int
  | 65 => .long
  | 66 => .long
  | 67 => .int
  | 68 => .array .int
  | 69 => .array .int
  | 70 => .array .int
  | 71 => .array .int
  | 72 => .array .int
  | 73 => .array .int
  | 74 => .array .int
  | 75 => .int
  | 76 => .array .long
  | 77 => .array .long
  | 78 => .array .int
  | _ => .array .int
theorem nm_11 : ∀ a, a < 80 → ∀ b, b < 80 → a ≠ b → (T_11 a).2.1 ≠ (T_11 b).2.1 := by decide +kernel
theorem tk_11 : ∀ k, k < 80 → parseFieldDescriptor (T_11 k).2.2.1 = some (ty_11 k) := by decide +kernel
theorem ii_11 : ∀ w ∈ u_ws "MacroHouseModel" T_11 80, w ∈ mz_tb := by decide +kernel
abbrev mz_cl : List vw_C := [("MacroHouse", T_0, 2), ("MacroHouse$Signs", T_1, 5), ("MacroHouse$Expander", T_2, 15), ("MacroHouse$Reader", T_3, 8), ("MacroHouse$Conditions", T_4, 6), ("MacroHouse$Constants", T_5, 2), ("MacroHouse$Names", T_6, 5), ("MacroHouse$Macros", T_7, 12), ("MacroHouse$Stack", T_8, 11), ("MacroHouse$Output", T_9, 7), ("MacroHouse$Frame", T_10, 15), ("MacroHouseModel", T_11, 80)]
def mz_fk (k : Nat) : List (Nat × Nat) := [(3, 0), (0, 0), (0, 0), (0, 0), (0, 0), (0, 0), (0, 0), (0, 0), (0, 0), (0, 0), (0, 0), (0, 0), (0, 0), (2, k + 14), (2, k + 28)]
def mz_tC : mz_Tab := fun k => match k with
  | 0 => .inl (0, [(2, 1), (2, 5)])
  | 1 => .inl (1, [(2, 2), (2, 3), (2, 4), (0, 0), (0, 0)])
  | 2 => .inr (1, 6600, 0)
  | 3 => .inr (0, 3001, 0)
  | 4 => .inr (0, 3001, 0)
  | 5 => .inl (2, [(2, 1), (2, 6), (2, 7), (2, 13), (2, 18), (2, 30), (2, 32), (0, 0), (0, 0), (0, 0), (0, 0), (0, 0), (0, 0), (0, 0), (3, 0)])
  | 6 => .inl (3, [(2, 1), (2, 13), (0, 0), (0, 0), (0, 0), (0, 0), (0, 0), (0, 0)])
  | 7 => .inl (4, [(2, 8), (2, 9), (2, 10), (2, 11), (2, 12), (0, 0)])
  | 8 => .inr (2, 8, 0)
  | 9 => .inr (2, 8, 0)
  | 10 => .inr (2, 8, 0)
  | 11 => .inr (2, 8, 0)
  | 12 => .inr (0, 8, 0)
  | 13 => .inl (5, [(2, 15), (2, 14)])
  | 14 => .inr (0, 64, 0)
  | 15 => .inl (6, [(2, 1), (0, 0), (2, 16), (2, 17), (0, 0)])
  | 16 => .inr (1, 768, 0)
  | 17 => .inr (0, 64, 0)
  | 18 => .inl (7, [(2, 1), (2, 27), (2, 19), (2, 20), (2, 21), (2, 22), (2, 23), (2, 24), (2, 25), (2, 26), (0, 0), (0, 0)])
  | 19 => .inr (0, 17, 0)
  | 20 => .inr (0, 17, 0)
  | 21 => .inr (0, 17, 0)
  | 22 => .inr (0, 17, 0)
  | 23 => .inr (0, 102, 0)
  | 24 => .inr (0, 102, 0)
  | 25 => .inr (0, 102, 0)
  | 26 => .inr (0, 102, 0)
  | 27 => .inl (6, [(2, 1), (0, 0), (2, 28), (2, 29), (0, 0)])
  | 28 => .inr (1, 192, 0)
  | 29 => .inr (0, 16, 0)
  | 30 => .inl (8, [(2, 1), (2, 18), (2, 51), (2, 31), (0, 0), (0, 0), (0, 0), (0, 0), (0, 0), (0, 0), (0, 0)])
  | 31 => .inr (4, 13, 38)
  | 32 => .inl (9, [(2, 33), (2, 34), (2, 35), (2, 36), (2, 37), (0, 0), (0, 0)])
  | 33 => .inr (1, 12000, 0)
  | 34 => .inr (0, 1000, 0)
  | 35 => .inr (0, 1000, 0)
  | 36 => .inr (0, 1000, 0)
  | 37 => .inr (0, 1000, 0)
  | k => if k < 52 then .inl (10, mz_fk k) else .inr (0, 6, 0)
def mz_tM : mz_Tab := fun k => match k with
  | 0 => .inl (11, [(0, 0), (2, 1), (0, 0), (0, 0), (2, 2), (2, 3), (0, 0), (0, 0), (0, 0), (0, 0), (0, 0), (0, 0), (0, 0), (2, 4), (2, 5), (2, 6), (2, 7), (2, 8), (2, 9), (2, 10), (2, 11), (2, 12), (2, 13), (2, 14), (0, 0), (2, 15), (2, 16), (2, 17), (0, 0), (0, 0), (2, 18), (2, 19), (2, 20), (2, 21), (0, 0), (2, 22), (2, 23), (2, 24), (2, 25), (2, 26), (2, 27), (2, 28), (2, 29), (2, 30), (2, 31), (2, 32), (2, 33), (2, 34), (0, 0), (2, 35), (2, 36), (0, 0), (2, 37), (0, 0), (2, 38), (2, 39), (2, 40), (2, 41), (2, 42), (2, 43), (0, 0), (0, 0), (0, 0), (0, 0), (0, 0), (1, 0), (1, 0), (0, 0), (2, 44), (2, 45), (2, 46), (2, 47), (2, 48), (2, 49), (2, 50), (0, 0), (2, 51), (2, 52), (2, 53), (2, 54)])
  | 1 => .inr (0, 3000, 0)
  | 2 => .inr (0, 3001, 0)
  | 3 => .inr (0, 3001, 0)
  | 4 => .inr (3, 16, 0)
  | 5 => .inr (3, 16, 0)
  | 6 => .inr (0, 16, 0)
  | 7 => .inr (0, 16, 0)
  | 8 => .inr (0, 16, 0)
  | 9 => .inr (0, 16, 0)
  | 10 => .inr (0, 16, 0)
  | 11 => .inr (3, 96, 0)
  | 12 => .inr (3, 96, 0)
  | 13 => .inr (0, 96, 0)
  | 14 => .inr (0, 96, 0)
  | 15 => .inr (3, 64, 0)
  | 16 => .inr (3, 64, 0)
  | 17 => .inr (0, 64, 0)
  | 18 => .inr (0, 1001, 0)
  | 19 => .inr (0, 1000, 0)
  | 20 => .inr (0, 1000, 0)
  | 21 => .inr (0, 12000, 0)
  | 22 => .inr (0, 14, 0)
  | 23 => .inr (0, 14, 0)
  | 24 => .inr (0, 14, 0)
  | 25 => .inr (0, 14, 0)
  | 26 => .inr (0, 14, 0)
  | 27 => .inr (0, 14, 0)
  | 28 => .inr (0, 14, 0)
  | 29 => .inr (0, 14, 0)
  | 30 => .inr (0, 14, 0)
  | 31 => .inr (0, 14, 0)
  | 32 => .inr (0, 14, 0)
  | 33 => .inr (3, 14, 0)
  | 34 => .inr (3, 14, 0)
  | 35 => .inr (0, 24000, 0)
  | 36 => .inr (0, 24000, 0)
  | 37 => .inr (0, 48000, 0)
  | 38 => .inr (2, 9, 0)
  | 39 => .inr (2, 9, 0)
  | 40 => .inr (2, 9, 0)
  | 41 => .inr (2, 9, 0)
  | 42 => .inr (0, 9, 0)
  | 43 => .inr (0, 6000, 0)
  | 44 => .inr (0, 12, 0)
  | 45 => .inr (0, 12, 0)
  | 46 => .inr (0, 12, 0)
  | 47 => .inr (0, 12, 0)
  | 48 => .inr (0, 12, 0)
  | 49 => .inr (0, 12, 0)
  | 50 => .inr (0, 12, 0)
  | 51 => .inr (3, 8, 0)
  | 52 => .inr (3, 8, 0)
  | 53 => .inr (0, 8, 0)
  | _ => .inr (0, 8, 0)
abbrev mz_fr (k : Nat) : Prop := 38 ≤ k ∧ k < 52
theorem mz_tC_hi {k : Nat} (h : 38 ≤ k) : mz_tC k = if k < 52 then .inl (10, mz_fk k) else .inr (0, 6, 0) := by
  obtain ⟨j, rfl⟩ : ∃ j, k = j + 38 := ⟨k - 38, by omega⟩
  rfl
theorem mz_tC_f {k : Nat} (h : mz_fr k) : mz_tC k = .inl (10, mz_fk k) := by
  rw [mz_tC_hi h.1, if_pos h.2]
theorem mz_tC_a {k : Nat} (h : mz_fr k) : mz_tC (k + 14) = .inr (0, 6, 0) := by
  rw [mz_tC_hi (by have := h.1; omega), if_neg (by have := h.1; omega)]
theorem mz_tC_b {k : Nat} (h : mz_fr k) : mz_tC (k + 28) = .inr (0, 6, 0) := by
  rw [mz_tC_hi (by have := h.1; omega), if_neg (by have := h.1; omega)]
theorem mz_fN {k : Nat} (h : mz_fr k) : k < 80 := by have := h.2; omega
theorem mz_faN {k : Nat} (h : mz_fr k) : k + 14 < 80 := by have := h.2; omega
theorem mz_fbN {k : Nat} (h : mz_fr k) : k + 28 < 80 := by have := h.2; omega
