section
def RX0 : String := "TenRules$Arena"
def TX0 : u_T := fun k => match k with
  | 0 => ("TenRules$Arena", "kinds", "[I", false)
  | 1 => ("TenRules$Arena", "lefts", "[I", false)
  | 2 => ("TenRules$Arena", "rights", "[I", false)
  | 3 => ("TenRules$Arena", "types", "[I", false)
  | 4 => ("TenRules$Arena", "sizes", "[I", false)
  | 5 => ("TenRules$Arena", "looses", "[I", false)
  | 6 => ("TenRules$Arena", "vars", "[I", false)
  | 7 => ("TenRules$Arena", "consts", "[I", false)
  | 8 => ("TenRules$Arena", "hashes", "[I", false)
  | 9 => ("TenRules$Arena", "nexts", "[I", false)
  | 10 => ("TenRules$Arena", "moves", "[I", false)
  | 11 => ("TenRules$Arena", "heads", "[I", false)
  | 12 => ("TenRules$Arena", "count", "I", false)
  | _ => ("TenRules$Arena", "marked", "I", false)
def tyX0 : Nat → FieldType := fun k => match k with
  | 0 => .array .int
  | 1 => .array .int
  | 2 => .array .int
  | 3 => .array .int
  | 4 => .array .int
  | 5 => .array .int
  | 6 => .array .int
  | 7 => .array .int
  | 8 => .array .int
  | 9 => .array .int
  | 10 => .array .int
  | 11 => .array .int
  | 12 => .int
  | _ => .int
abbrev wsX00 : List Cond := u_ws RX0 TX0 14
theorem nmX0 : ∀ a, a < 14 → ∀ b, b < 14 → a ≠ b → (TX0 a).2.1 ≠ (TX0 b).2.1 := by decide +kernel
theorem tyX0_ok : ∀ k, k < 14 → parseFieldDescriptor (TX0 k).2.2.1 = some (tyX0 k) := by decide +kernel
def RX1 : String := "TenRules$Conv"
def TX1 : u_T := fun k => match k with
  | 0 => ("TenRules$Conv", "tokens", "LTenRules$Tokens;", true)
  | 1 => ("TenRules$Conv", "told", "LTenRules$Told;", true)
  | 2 => ("TenRules$Conv", "ops", "[I", true)
  | 3 => ("TenRules$Conv", "firsts", "[I", true)
  | 4 => ("TenRules$Conv", "seconds", "[I", true)
  | _ => ("TenRules$Conv", "count", "I", false)
def tyX1 : Nat → FieldType := fun k => match k with
  | 0 => .object "TenRules$Tokens"
  | 1 => .object "TenRules$Told"
  | 2 => .array .int
  | 3 => .array .int
  | 4 => .array .int
  | _ => .int
abbrev wsX10 : List Cond := u_ws RX1 TX1 6
theorem nmX1 : ∀ a, a < 6 → ∀ b, b < 6 → a ≠ b → (TX1 a).2.1 ≠ (TX1 b).2.1 := by decide +kernel
theorem tyX1_ok : ∀ k, k < 6 → parseFieldDescriptor (TX1 k).2.2.1 = some (tyX1 k) := by decide +kernel
def RX2 : String := "TenRules$Engine"
def TX2 : u_T := fun k => match k with
  | 0 => ("TenRules$Engine", "arena", "LTenRules$Arena;", true)
  | 1 => ("TenRules$Engine", "terms", "LTenRules$Terms;", true)
  | 2 => ("TenRules$Engine", "told", "LTenRules$Told;", true)
  | 3 => ("TenRules$Engine", "kernel", "LTenRules$Kernel;", true)
  | 4 => ("TenRules$Engine", "conv", "LTenRules$Conv;", true)
  | 5 => ("TenRules$Engine", "nodes", "[I", false)
  | 6 => ("TenRules$Engine", "subjects", "[I", false)
  | 7 => ("TenRules$Engine", "states", "[I", false)
  | 8 => ("TenRules$Engine", "kept", "[I", false)
  | 9 => ("TenRules$Engine", "top", "I", false)
  | 10 => ("TenRules$Engine", "opened", "I", false)
  | _ => ("TenRules$Engine", "found", "[I", true)
def tyX2 : Nat → FieldType := fun k => match k with
  | 0 => .object "TenRules$Arena"
  | 1 => .object "TenRules$Terms"
  | 2 => .object "TenRules$Told"
  | 3 => .object "TenRules$Kernel"
  | 4 => .object "TenRules$Conv"
  | 5 => .array .int
  | 6 => .array .int
  | 7 => .array .int
  | 8 => .array .int
  | 9 => .int
  | 10 => .int
  | _ => .array .int
abbrev wsX20 : List Cond := u_ws RX2 TX2 12
theorem nmX2 : ∀ a, a < 12 → ∀ b, b < 12 → a ≠ b → (TX2 a).2.1 ≠ (TX2 b).2.1 := by decide +kernel
theorem tyX2_ok : ∀ k, k < 12 → parseFieldDescriptor (TX2 k).2.2.1 = some (tyX2 k) := by decide +kernel
def RX3 : String := "TenRules$Kernel"
def TX3 : u_T := fun k => match k with
  | 0 => ("TenRules$Kernel", "arena", "LTenRules$Arena;", true)
  | 1 => ("TenRules$Kernel", "terms", "LTenRules$Terms;", true)
  | 2 => ("TenRules$Kernel", "survey", "LTenRules$Survey;", true)
  | 3 => ("TenRules$Kernel", "counts", "[I", true)
  | 4 => ("TenRules$Kernel", "markedCounts", "[I", true)
  | 5 => ("TenRules$Kernel", "spent", "I", false)
  | 6 => ("TenRules$Kernel", "row", "[I", true)
  | _ => ("TenRules$Kernel", "rowLength", "I", false)
def tyX3 : Nat → FieldType := fun k => match k with
  | 0 => .object "TenRules$Arena"
  | 1 => .object "TenRules$Terms"
  | 2 => .object "TenRules$Survey"
  | 3 => .array .int
  | 4 => .array .int
  | 5 => .int
  | 6 => .array .int
  | _ => .int
abbrev wsX30 : List Cond := u_ws RX3 TX3 8
theorem nmX3 : ∀ a, a < 8 → ∀ b, b < 8 → a ≠ b → (TX3 a).2.1 ≠ (TX3 b).2.1 := by decide +kernel
theorem tyX3_ok : ∀ k, k < 8 → parseFieldDescriptor (TX3 k).2.2.1 = some (tyX3 k) := by decide +kernel
def RX4 : String := "TenRules$LineReader"
def TX4 : u_T := fun k => match k with
  | 0 => ("TenRules$LineReader", "tokens", "LTenRules$Tokens;", true)
  | 1 => ("TenRules$LineReader", "termReader", "LTenRules$TermReader;", true)
  | 2 => ("TenRules$LineReader", "arena", "LTenRules$Arena;", true)
  | 3 => ("TenRules$LineReader", "terms", "LTenRules$Terms;", true)
  | 4 => ("TenRules$LineReader", "told", "LTenRules$Told;", true)
  | _ => ("TenRules$LineReader", "kernel", "LTenRules$Kernel;", true)
def tyX4 : Nat → FieldType := fun k => match k with
  | 0 => .object "TenRules$Tokens"
  | 1 => .object "TenRules$TermReader"
  | 2 => .object "TenRules$Arena"
  | 3 => .object "TenRules$Terms"
  | 4 => .object "TenRules$Told"
  | _ => .object "TenRules$Kernel"
abbrev wsX40 : List Cond := u_ws RX4 TX4 6
theorem nmX4 : ∀ a, a < 6 → ∀ b, b < 6 → a ≠ b → (TX4 a).2.1 ≠ (TX4 b).2.1 := by decide +kernel
theorem tyX4_ok : ∀ k, k < 6 → parseFieldDescriptor (TX4 k).2.2.1 = some (tyX4 k) := by decide +kernel
def RX5 : String := "TenRules$Survey"
def TX5 : u_T := fun k => match k with
  | 0 => ("TenRules$Survey", "arena", "LTenRules$Arena;", true)
  | 1 => ("TenRules$Survey", "terms", "LTenRules$Terms;", true)
  | _ => ("TenRules$Survey", "told", "LTenRules$Told;", true)
def tyX5 : Nat → FieldType := fun k => match k with
  | 0 => .object "TenRules$Arena"
  | 1 => .object "TenRules$Terms"
  | _ => .object "TenRules$Told"
abbrev wsX50 : List Cond := u_ws RX5 TX5 3
theorem nmX5 : ∀ a, a < 3 → ∀ b, b < 3 → a ≠ b → (TX5 a).2.1 ≠ (TX5 b).2.1 := by decide +kernel
theorem tyX5_ok : ∀ k, k < 3 → parseFieldDescriptor (TX5 k).2.2.1 = some (tyX5 k) := by decide +kernel
def RX6 : String := "TenRules$TermReader"
def TX6 : u_T := fun k => match k with
  | 0 => ("TenRules$TermReader", "tokens", "LTenRules$Tokens;", true)
  | 1 => ("TenRules$TermReader", "arena", "LTenRules$Arena;", true)
  | 2 => ("TenRules$TermReader", "terms", "LTenRules$Terms;", true)
  | 3 => ("TenRules$TermReader", "told", "LTenRules$Told;", true)
  | 4 => ("TenRules$TermReader", "boundNames", "[I", true)
  | 5 => ("TenRules$TermReader", "boundTypes", "[I", true)
  | 6 => ("TenRules$TermReader", "boundCount", "I", false)
  | 7 => ("TenRules$TermReader", "atoms", "[I", true)
  | _ => ("TenRules$TermReader", "atomCount", "I", false)
def tyX6 : Nat → FieldType := fun k => match k with
  | 0 => .object "TenRules$Tokens"
  | 1 => .object "TenRules$Arena"
  | 2 => .object "TenRules$Terms"
  | 3 => .object "TenRules$Told"
  | 4 => .array .int
  | 5 => .array .int
  | 6 => .int
  | 7 => .array .int
  | _ => .int
abbrev wsX60 : List Cond := u_ws RX6 TX6 9
theorem nmX6 : ∀ a, a < 9 → ∀ b, b < 9 → a ≠ b → (TX6 a).2.1 ≠ (TX6 b).2.1 := by decide +kernel
theorem tyX6_ok : ∀ k, k < 9 → parseFieldDescriptor (TX6 k).2.2.1 = some (tyX6 k) := by decide +kernel
def RX7 : String := "TenRules$Terms"
def TX7 : u_T := fun k => match k with
  | _ => ("TenRules$Terms", "arena", "LTenRules$Arena;", true)
def tyX7 : Nat → FieldType := fun k => match k with
  | _ => .object "TenRules$Arena"
abbrev wsX70 : List Cond := u_ws RX7 TX7 1
theorem nmX7 : ∀ a, a < 1 → ∀ b, b < 1 → a ≠ b → (TX7 a).2.1 ≠ (TX7 b).2.1 := by decide +kernel
theorem tyX7_ok : ∀ k, k < 1 → parseFieldDescriptor (TX7 k).2.2.1 = some (tyX7 k) := by decide +kernel
def RX8 : String := "TenRules$Tokens"
def TX8 : u_T := fun k => match k with
  | 0 => ("TenRules$Tokens", "tape", "[I", true)
  | 1 => ("TenRules$Tokens", "words", "[I", true)
  | 2 => ("TenRules$Tokens", "kinds", "[I", true)
  | 3 => ("TenRules$Tokens", "places", "[I", true)
  | 4 => ("TenRules$Tokens", "values", "[I", true)
  | 5 => ("TenRules$Tokens", "count", "I", false)
  | 6 => ("TenRules$Tokens", "at", "I", false)
  | 7 => ("TenRules$Tokens", "kind", "I", false)
  | 8 => ("TenRules$Tokens", "place", "I", false)
  | 9 => ("TenRules$Tokens", "value", "I", false)
  | 10 => ("TenRules$Tokens", "fault", "I", false)
  | _ => ("TenRules$Tokens", "faultPlace", "I", false)
def tyX8 : Nat → FieldType := fun k => match k with
  | 0 => .array .int
  | 1 => .array .int
  | 2 => .array .int
  | 3 => .array .int
  | 4 => .array .int
  | 5 => .int
  | 6 => .int
  | 7 => .int
  | 8 => .int
  | 9 => .int
  | 10 => .int
  | _ => .int
abbrev wsX80 : List Cond := u_ws RX8 TX8 12
theorem nmX8 : ∀ a, a < 12 → ∀ b, b < 12 → a ≠ b → (TX8 a).2.1 ≠ (TX8 b).2.1 := by decide +kernel
theorem tyX8_ok : ∀ k, k < 12 → parseFieldDescriptor (TX8 k).2.2.1 = some (tyX8 k) := by decide +kernel
def RX9 : String := "TenRules$Told"
def TX9 : u_T := fun k => match k with
  | 0 => ("TenRules$Told", "arena", "LTenRules$Arena;", true)
  | 1 => ("TenRules$Told", "varNames", "[I", true)
  | 2 => ("TenRules$Told", "varTypes", "[I", true)
  | 3 => ("TenRules$Told", "constNames", "[I", true)
  | 4 => ("TenRules$Told", "constTypes", "[I", true)
  | 5 => ("TenRules$Told", "constTheorems", "[I", true)
  | 6 => ("TenRules$Told", "theoremNodes", "[I", true)
  | 7 => ("TenRules$Told", "theoremNames", "[I", true)
  | 8 => ("TenRules$Told", "theoremMakers", "[I", true)
  | 9 => ("TenRules$Told", "varCount", "I", false)
  | 10 => ("TenRules$Told", "constCount", "I", false)
  | 11 => ("TenRules$Told", "theoremCount", "I", false)
  | 12 => ("TenRules$Told", "markedVars", "I", false)
  | 13 => ("TenRules$Told", "markedConsts", "I", false)
  | _ => ("TenRules$Told", "markedTheorems", "I", false)
def tyX9 : Nat → FieldType := fun k => match k with
  | 0 => .object "TenRules$Arena"
  | 1 => .array .int
  | 2 => .array .int
  | 3 => .array .int
  | 4 => .array .int
  | 5 => .array .int
  | 6 => .array .int
  | 7 => .array .int
  | 8 => .array .int
  | 9 => .int
  | 10 => .int
  | 11 => .int
  | 12 => .int
  | 13 => .int
  | _ => .int
abbrev wsX90 : List Cond := u_ws RX9 TX9 15
theorem nmX9 : ∀ a, a < 15 → ∀ b, b < 15 → a ≠ b → (TX9 a).2.1 ≠ (TX9 b).2.1 := by decide +kernel
theorem tyX9_ok : ∀ k, k < 15 → parseFieldDescriptor (TX9 k).2.2.1 = some (tyX9 k) := by decide +kernel
def RX10 : String := "TenRules$Writer"
def TX10 : u_T := fun k => match k with
  | 0 => ("TenRules$Writer", "arena", "LTenRules$Arena;", true)
  | 1 => ("TenRules$Writer", "told", "LTenRules$Told;", true)
  | 2 => ("TenRules$Writer", "row", "[I", true)
  | _ => ("TenRules$Writer", "length", "I", false)
def tyX10 : Nat → FieldType := fun k => match k with
  | 0 => .object "TenRules$Arena"
  | 1 => .object "TenRules$Told"
  | 2 => .array .int
  | _ => .int
abbrev wsX100 : List Cond := u_ws RX10 TX10 4
theorem nmX10 : ∀ a, a < 4 → ∀ b, b < 4 → a ≠ b → (TX10 a).2.1 ≠ (TX10 b).2.1 := by decide +kernel
theorem tyX10_ok : ∀ k, k < 4 → parseFieldDescriptor (TX10 k).2.2.1 = some (tyX10 k) := by decide +kernel
def RX11 : String := "TenRules"
def TX11 : u_T := fun k => match k with
  | 0 => ("TenRules", "tape", "[I", true)
  | 1 => ("TenRules", "tapeLength", "I", false)
  | 2 => ("TenRules", "faultNumber", "I", false)
  | 3 => ("TenRules", "faultPlace", "I", false)
  | 4 => ("TenRules", "troubleNumber", "I", false)
  | 5 => ("TenRules", "arena", "LTenRules$Arena;", true)
  | 6 => ("TenRules", "terms", "LTenRules$Terms;", true)
  | 7 => ("TenRules", "told", "LTenRules$Told;", true)
  | 8 => ("TenRules", "survey", "LTenRules$Survey;", true)
  | 9 => ("TenRules", "kernel", "LTenRules$Kernel;", true)
  | 10 => ("TenRules", "tokens", "LTenRules$Tokens;", true)
  | 11 => ("TenRules", "termReader", "LTenRules$TermReader;", true)
  | 12 => ("TenRules", "lineReader", "LTenRules$LineReader;", true)
  | 13 => ("TenRules", "conv", "LTenRules$Conv;", true)
  | 14 => ("TenRules", "engine", "LTenRules$Engine;", true)
  | _ => ("TenRules", "writer", "LTenRules$Writer;", true)
def tyX11 : Nat → FieldType := fun k => match k with
  | 0 => .array .int
  | 1 => .int
  | 2 => .int
  | 3 => .int
  | 4 => .int
  | 5 => .object "TenRules$Arena"
  | 6 => .object "TenRules$Terms"
  | 7 => .object "TenRules$Told"
  | 8 => .object "TenRules$Survey"
  | 9 => .object "TenRules$Kernel"
  | 10 => .object "TenRules$Tokens"
  | 11 => .object "TenRules$TermReader"
  | 12 => .object "TenRules$LineReader"
  | 13 => .object "TenRules$Conv"
  | 14 => .object "TenRules$Engine"
  | _ => .object "TenRules$Writer"
abbrev wsX110 : List Cond := u_ws RX11 TX11 16
theorem nmX11 : ∀ a, a < 16 → ∀ b, b < 16 → a ≠ b → (TX11 a).2.1 ≠ (TX11 b).2.1 := by decide +kernel
theorem tyX11_ok : ∀ k, k < 16 → parseFieldDescriptor (TX11 k).2.2.1 = some (tyX11 k) := by decide +kernel
def RX12 : String := "TenRulesModel"
def TX12 : u_T := fun k => match k with
  | 0 => ("TenRulesModel", "thrown", "I", false)
  | 1 => ("TenRulesModel", "trouble", "I", false)
  | 2 => ("TenRulesModel", "wrongAt", "I", false)
  | 3 => ("TenRulesModel", "tape", "[I", true)
  | 4 => ("TenRulesModel", "taped", "I", false)
  | 5 => ("TenRulesModel", "size", "I", false)
  | 6 => ("TenRulesModel", "spot", "I", false)
  | 7 => ("TenRulesModel", "fault", "I", false)
  | 8 => ("TenRulesModel", "faultAt", "I", false)
  | 9 => ("TenRulesModel", "token", "I", false)
  | 10 => ("TenRulesModel", "at", "I", false)
  | 11 => ("TenRulesModel", "sign", "I", false)
  | 12 => ("TenRulesModel", "word", "J", false)
  | 13 => ("TenRulesModel", "nested", "I", false)
  | 14 => ("TenRulesModel", "takes", "[I", true)
  | 15 => ("TenRulesModel", "gives", "[I", true)
  | 16 => ("TenRulesModel", "nextType", "[I", true)
  | 17 => ("TenRulesModel", "heads", "[I", true)
  | 18 => ("TenRulesModel", "types", "I", false)
  | 19 => ("TenRulesModel", "letters", "I", false)
  | 20 => ("TenRulesModel", "varName", "[J", true)
  | 21 => ("TenRulesModel", "constName", "[J", true)
  | 22 => ("TenRulesModel", "thmName", "[J", true)
  | 23 => ("TenRulesModel", "varType", "[I", true)
  | 24 => ("TenRulesModel", "constType", "[I", true)
  | 25 => ("TenRulesModel", "constThm", "[I", true)
  | 26 => ("TenRulesModel", "vars", "I", false)
  | 27 => ("TenRulesModel", "consts", "I", false)
  | 28 => ("TenRulesModel", "thms", "I", false)
  | 29 => ("TenRulesModel", "freshVars", "I", false)
  | 30 => ("TenRulesModel", "read", "[I", true)
  | 31 => ("TenRulesModel", "boundType", "[I", true)
  | 32 => ("TenRulesModel", "boundName", "[J", true)
  | 33 => ("TenRulesModel", "signs", "I", false)
  | 34 => ("TenRulesModel", "depth", "I", false)
  | 35 => ("TenRulesModel", "termAt", "I", false)
  | 36 => ("TenRulesModel", "m", "[I", true)
  | 37 => ("TenRulesModel", "len", "[I", true)
  | 38 => ("TenRulesModel", "regLen", "[I", true)
  | 39 => ("TenRulesModel", "hyps", "[I", true)
  | 40 => ("TenRulesModel", "madeBy", "[I", true)
  | 41 => ("TenRulesModel", "top", "I", false)
  | 42 => ("TenRulesModel", "regTop", "I", false)
  | 43 => ("TenRulesModel", "roundType", "[I", true)
  | 44 => ("TenRulesModel", "round", "I", false)
  | 45 => ("TenRulesModel", "typed", "I", false)
  | 46 => ("TenRulesModel", "ink", "[I", true)
  | 47 => ("TenRulesModel", "inked", "[I", true)
  | 48 => ("TenRulesModel", "inkRow", "I", false)
  | 49 => ("TenRulesModel", "calls", "[I", true)
  | 50 => ("TenRulesModel", "used", "[I", true)
  | 51 => ("TenRulesModel", "usedNow", "I", false)
  | 52 => ("TenRulesModel", "isFull", "Z", false)
  | 53 => ("TenRulesModel", "outAt", "I", false)
  | 54 => ("TenRulesModel", "outMany", "I", false)
  | 55 => ("TenRulesModel", "conv", "[I", true)
  | 56 => ("TenRulesModel", "first", "[I", true)
  | 57 => ("TenRulesModel", "second", "[I", true)
  | 58 => ("TenRulesModel", "convs", "I", false)
  | 59 => ("TenRulesModel", "found", "[I", true)
  | 60 => ("TenRulesModel", "free", "I", false)
  | 61 => ("TenRulesModel", "betas", "I", false)
  | 62 => ("TenRulesModel", "defs", "I", false)
  | 63 => ("TenRulesModel", "etas", "I", false)
  | _ => ("TenRulesModel", "deepest", "I", false)
def tyX12 : Nat → FieldType := fun k => match k with
  | 0 => .int
  | 1 => .int
  | 2 => .int
  | 3 => .array .int
  | 4 => .int
  | 5 => .int
  | 6 => .int
  | 7 => .int
  | 8 => .int
  | 9 => .int
  | 10 => .int
  | 11 => .int
  | 12 => .long
  | 13 => .int
  | 14 => .array .int
  | 15 => .array .int
  | 16 => .array .int
  | 17 => .array .int
  | 18 => .int
  | 19 => .int
  | 20 => .array .long
  | 21 => .array .long
  | 22 => .array .long
  | 23 => .array .int
  | 24 => .array .int
  | 25 => .array .int
  | 26 => .int
  | 27 => .int
  | 28 => .int
  | 29 => .int
  | 30 => .array .int
  | 31 => .array .int
  | 32 => .array .long
  | 33 => .int
  | 34 => .int
  | 35 => .int
  | 36 => .array .int
  | 37 => .array .int
  | 38 => .array .int
  | 39 => .array .int
  | 40 => .array .int
  | 41 => .int
  | 42 => .int
  | 43 => .array .int
  | 44 => .int
  | 45 => .int
  | 46 => .array .int
  | 47 => .array .int
  | 48 => .int
  | 49 => .array .int
  | 50 => .array .int
  | 51 => .int
  | 52 => .boolean
  | 53 => .int
  | 54 => .int
  | 55 => .array .int
  | 56 => .array .int
  | 57 => .array .int
  | 58 => .int
  | 59 => .array .int
  | 60 => .int
  | 61 => .int
  | 62 => .int
  | 63 => .int
  | _ => .int
abbrev wsX120 : List Cond := u_ws RX12 TX12 65
theorem nmX12 : ∀ a, a < 65 → ∀ b, b < 65 → a ≠ b → (TX12 a).2.1 ≠ (TX12 b).2.1 := by decide +kernel
theorem tyX12_ok : ∀ k, k < 65 → parseFieldDescriptor (TX12 k).2.2.1 = some (tyX12 k) := by decide +kernel
def RL : String := "TenRulesLaw"
def RJ7 : String := "java/util/Arrays"
abbrev cJ7_fill_53178 : ByteArray := prog_31_method_103_code
def yJ7_fill_53178 : MethodName := ⟨RJ7, "fill", "([II)V"⟩
abbrev cX8_init : ByteArray := prog_10_method_1_code
def yX8_init : MethodName := ⟨RX8, "<init>", "([I)V"⟩
abbrev cX8_isLetter : ByteArray := prog_10_method_13_code
def yX8_isLetter : MethodName := ⟨RX8, "isLetter", "(I)Z"⟩
abbrev cX8_padded : ByteArray := prog_10_method_14_code
def yX8_padded : MethodName := ⟨RX8, "padded", "(II)I"⟩
def RJ0 : String := "java/lang/String"
abbrev cJ0_length_8abf5 : ByteArray := prog_24_method_54_code
def yJ0_length_8abf5 : MethodName := ⟨RJ0, "length", "()I"⟩
abbrev cJ0_charAt_5068e : ByteArray := prog_24_method_56_code
def yJ0_charAt_5068e : MethodName := ⟨RJ0, "charAt", "(I)C"⟩
abbrev cJ0_coder_7d493 : ByteArray := prog_24_method_152_code
def yJ0_coder_7d493 : MethodName := ⟨RJ0, "coder", "()B"⟩
abbrev cJ0_isLatin1_aae02 : ByteArray := prog_24_method_154_code
def yJ0_isLatin1_aae02 : MethodName := ⟨RJ0, "isLatin1", "()Z"⟩
def RJ1 : String := "java/lang/StringLatin1"
abbrev cJ1_charAt_3b067 : ByteArray := prog_25_method_2_code
def yJ1_charAt_3b067 : MethodName := ⟨RJ1, "charAt", "([BI)C"⟩
abbrev cJ0_checkIndex_df160 : ByteArray := prog_24_method_155_code
def yJ0_checkIndex_df160 : MethodName := ⟨RJ0, "checkIndex", "(II)V"⟩
def RJ3 : String := "jdk/internal/util/Preconditions"
abbrev cJ3_checkIndex_8e157 : ByteArray := prog_33_method_11_code
def yJ3_checkIndex_8e157 : MethodName := ⟨RJ3, "checkIndex", "(IILjava/util/function/BiFunction;)I"⟩
abbrev cX0_init : ByteArray := prog_2_method_1_code
def yX0_init : MethodName := ⟨RX0, "<init>", "()V"⟩
abbrev cX0_node : ByteArray := prog_2_method_10_code
def yX0_node : MethodName := ⟨RX0, "node", "(IIII)I"⟩
abbrev cX0_link : ByteArray := prog_2_method_11_code
def yX0_link : MethodName := ⟨RX0, "link", "(I)V"⟩
abbrev cX0_measure : ByteArray := prog_2_method_13_code
def yX0_measure : MethodName := ⟨RX0, "measure", "(I)V"⟩
abbrev cX7_init : ByteArray := prog_9_method_1_code
def yX7_init : MethodName := ⟨RX7, "<init>", "(LTenRules$Arena;)V"⟩
abbrev cX9_init : ByteArray := prog_11_method_1_code
def yX9_init : MethodName := ⟨RX9, "<init>", "(LTenRules$Arena;)V"⟩
abbrev cX5_init : ByteArray := prog_7_method_1_code
def yX5_init : MethodName := ⟨RX5, "<init>", "(LTenRules$Arena;LTenRules$Terms;LTenRules$Told;)V"⟩
abbrev cX3_init : ByteArray := prog_5_method_1_code
def yX3_init : MethodName := ⟨RX3, "<init>", "(LTenRules$Arena;LTenRules$Terms;LTenRules$Survey;)V"⟩
abbrev cX6_init : ByteArray := prog_8_method_1_code
def yX6_init : MethodName := ⟨RX6, "<init>", "(LTenRules$Tokens;LTenRules$Arena;LTenRules$Terms;LTenRules$Told;)V"⟩
abbrev cX4_init : ByteArray := prog_6_method_1_code
def yX4_init : MethodName := ⟨RX4, "<init>", "(LTenRules$Tokens;LTenRules$TermReader;LTenRules$Arena;LTenRules$Terms;LTenRules$Told;LTenRules$Kernel;)V"⟩
abbrev cX1_init : ByteArray := prog_3_method_1_code
def yX1_init : MethodName := ⟨RX1, "<init>", "(LTenRules$Tokens;LTenRules$Told;)V"⟩
abbrev cX2_init : ByteArray := prog_4_method_1_code
def yX2_init : MethodName := ⟨RX2, "<init>", "(LTenRules$Arena;LTenRules$Terms;LTenRules$Told;LTenRules$Kernel;LTenRules$Conv;)V"⟩
abbrev cX10_init : ByteArray := prog_12_method_1_code
def yX10_init : MethodName := ⟨RX10, "<init>", "(LTenRules$Arena;LTenRules$Told;)V"⟩
abbrev cX11_init : ByteArray := prog_1_method_1_code
def yX11_init : MethodName := ⟨RX11, "<init>", "()V"⟩
abbrev cX12_init : ByteArray := prog_14_method_1_code
def yX12_init : MethodName := ⟨RX12, "<init>", "()V"⟩
abbrev vwCl : List vw_C := [(RX0, TX0, 14), (RX1, TX1, 6), (RX2, TX2, 12), (RX3, TX3, 8), (RX4, TX4, 6), (RX5, TX5, 3), (RX6, TX6, 9), (RX7, TX7, 1), (RX8, TX8, 12), (RX9, TX9, 15), (RX10, TX10, 4), (RX11, TX11, 16), (RX12, TX12, 65)]
theorem dJ0_charAt_5068e_0 : decode cJ0_charAt_5068e 0 = .ok (.aload_n 0, 1) := by decide +kernel
theorem dJ0_charAt_5068e_1 : decode cJ0_charAt_5068e 1 = .ok (.invokevirtual 492, 3) := by decide +kernel
theorem dJ0_charAt_5068e_4 : decode cJ0_charAt_5068e 4 = .ok (.ifCond .eq 12, 3) := by decide +kernel
theorem dJ0_charAt_5068e_7 : decode cJ0_charAt_5068e 7 = .ok (.aload_n 0, 1) := by decide +kernel
theorem dJ0_charAt_5068e_8 : decode cJ0_charAt_5068e 8 = .ok (.getfield 9, 3) := by decide +kernel
theorem dJ0_charAt_5068e_11 : decode cJ0_charAt_5068e 11 = .ok (.iload_n 1, 1) := by decide +kernel
theorem dJ0_charAt_5068e_12 : decode cJ0_charAt_5068e 12 = .ok (.invokestatic 495, 3) := by decide +kernel
theorem dJ0_charAt_5068e_15 : decode cJ0_charAt_5068e 15 = .ok (.ireturn, 1) := by decide +kernel
theorem dJ0_charAt_5068e_16 : decode cJ0_charAt_5068e 16 = .ok (.aload_n 0, 1) := by decide +kernel
theorem dJ0_charAt_5068e_17 : decode cJ0_charAt_5068e 17 = .ok (.getfield 9, 3) := by decide +kernel
theorem dJ0_charAt_5068e_20 : decode cJ0_charAt_5068e 20 = .ok (.iload_n 1, 1) := by decide +kernel
theorem dJ0_charAt_5068e_21 : decode cJ0_charAt_5068e 21 = .ok (.invokestatic 498, 3) := by decide +kernel
theorem dJ0_charAt_5068e_24 : decode cJ0_charAt_5068e 24 = .ok (.ireturn, 1) := by decide +kernel
theorem dJ0_checkIndex_df160_0 : decode cJ0_checkIndex_df160 0 = .ok (.iload_n 0, 1) := by decide +kernel
theorem dJ0_checkIndex_df160_1 : decode cJ0_checkIndex_df160 1 = .ok (.iload_n 1, 1) := by decide +kernel
theorem dJ0_checkIndex_df160_2 : decode cJ0_checkIndex_df160 2 = .ok (.getstatic 1053, 3) := by decide +kernel
theorem dJ0_checkIndex_df160_5 : decode cJ0_checkIndex_df160 5 = .ok (.invokestatic 1059, 3) := by decide +kernel
theorem dJ0_checkIndex_df160_8 : decode cJ0_checkIndex_df160 8 = .ok (.pop, 1) := by decide +kernel
theorem dJ0_checkIndex_df160_9 : decode cJ0_checkIndex_df160 9 = .ok (.return_, 1) := by decide +kernel
theorem dJ0_coder_7d493_0 : decode cJ0_coder_7d493 0 = .ok (.getstatic 38, 3) := by decide +kernel
theorem dJ0_coder_7d493_3 : decode cJ0_coder_7d493 3 = .ok (.ifCond .eq 10, 3) := by decide +kernel
theorem dJ0_coder_7d493_6 : decode cJ0_coder_7d493 6 = .ok (.aload_n 0, 1) := by decide +kernel
theorem dJ0_coder_7d493_7 : decode cJ0_coder_7d493 7 = .ok (.getfield 15, 3) := by decide +kernel
theorem dJ0_coder_7d493_10 : decode cJ0_coder_7d493 10 = .ok (.goto 4, 3) := by decide +kernel
theorem dJ0_coder_7d493_13 : decode cJ0_coder_7d493 13 = .ok (.iconst 1, 1) := by decide +kernel
theorem dJ0_coder_7d493_14 : decode cJ0_coder_7d493 14 = .ok (.ireturn, 1) := by decide +kernel
theorem dJ0_isLatin1_aae02_0 : decode cJ0_isLatin1_aae02 0 = .ok (.getstatic 38, 3) := by decide +kernel
theorem dJ0_isLatin1_aae02_3 : decode cJ0_isLatin1_aae02 3 = .ok (.ifCond .eq 14, 3) := by decide +kernel
theorem dJ0_isLatin1_aae02_6 : decode cJ0_isLatin1_aae02 6 = .ok (.aload_n 0, 1) := by decide +kernel
theorem dJ0_isLatin1_aae02_7 : decode cJ0_isLatin1_aae02 7 = .ok (.getfield 15, 3) := by decide +kernel
theorem dJ0_isLatin1_aae02_10 : decode cJ0_isLatin1_aae02 10 = .ok (.ifCond .ne 7, 3) := by decide +kernel
theorem dJ0_isLatin1_aae02_13 : decode cJ0_isLatin1_aae02 13 = .ok (.iconst 1, 1) := by decide +kernel
theorem dJ0_isLatin1_aae02_14 : decode cJ0_isLatin1_aae02 14 = .ok (.goto 4, 3) := by decide +kernel
theorem dJ0_isLatin1_aae02_17 : decode cJ0_isLatin1_aae02 17 = .ok (.iconst 0, 1) := by decide +kernel
theorem dJ0_isLatin1_aae02_18 : decode cJ0_isLatin1_aae02 18 = .ok (.ireturn, 1) := by decide +kernel
theorem dJ0_length_8abf5_0 : decode cJ0_length_8abf5 0 = .ok (.aload_n 0, 1) := by decide +kernel
theorem dJ0_length_8abf5_1 : decode cJ0_length_8abf5 1 = .ok (.getfield 9, 3) := by decide +kernel
theorem dJ0_length_8abf5_4 : decode cJ0_length_8abf5 4 = .ok (.arraylength, 1) := by decide +kernel
theorem dJ0_length_8abf5_5 : decode cJ0_length_8abf5 5 = .ok (.aload_n 0, 1) := by decide +kernel
theorem dJ0_length_8abf5_6 : decode cJ0_length_8abf5 6 = .ok (.invokevirtual 335, 3) := by decide +kernel
theorem dJ0_length_8abf5_9 : decode cJ0_length_8abf5 9 = .ok (.ishr, 1) := by decide +kernel
theorem dJ0_length_8abf5_10 : decode cJ0_length_8abf5 10 = .ok (.ireturn, 1) := by decide +kernel
theorem dJ1_charAt_3b067_0 : decode cJ1_charAt_3b067 0 = .ok (.iload_n 1, 1) := by decide +kernel
theorem dJ1_charAt_3b067_1 : decode cJ1_charAt_3b067 1 = .ok (.aload_n 0, 1) := by decide +kernel
theorem dJ1_charAt_3b067_2 : decode cJ1_charAt_3b067 2 = .ok (.arraylength, 1) := by decide +kernel
theorem dJ1_charAt_3b067_3 : decode cJ1_charAt_3b067 3 = .ok (.invokestatic 9, 3) := by decide +kernel
theorem dJ1_charAt_3b067_6 : decode cJ1_charAt_3b067 6 = .ok (.aload_n 0, 1) := by decide +kernel
theorem dJ1_charAt_3b067_7 : decode cJ1_charAt_3b067 7 = .ok (.iload_n 1, 1) := by decide +kernel
theorem dJ1_charAt_3b067_8 : decode cJ1_charAt_3b067 8 = .ok (.baload, 1) := by decide +kernel
theorem dJ1_charAt_3b067_9 : decode cJ1_charAt_3b067 9 = .ok (.sipush 255, 3) := by decide +kernel
theorem dJ1_charAt_3b067_12 : decode cJ1_charAt_3b067 12 = .ok (.iand, 1) := by decide +kernel
theorem dJ1_charAt_3b067_13 : decode cJ1_charAt_3b067 13 = .ok (.i2c, 1) := by decide +kernel
theorem dJ1_charAt_3b067_14 : decode cJ1_charAt_3b067 14 = .ok (.ireturn, 1) := by decide +kernel
theorem dJ3_checkIndex_8e157_0 : decode cJ3_checkIndex_8e157 0 = .ok (.iload_n 0, 1) := by decide +kernel
theorem dJ3_checkIndex_8e157_1 : decode cJ3_checkIndex_8e157 1 = .ok (.ifCond .lt 8, 3) := by decide +kernel
theorem dJ3_checkIndex_8e157_4 : decode cJ3_checkIndex_8e157 4 = .ok (.iload_n 0, 1) := by decide +kernel
theorem dJ3_checkIndex_8e157_5 : decode cJ3_checkIndex_8e157 5 = .ok (.iload_n 1, 1) := by decide +kernel
theorem dJ3_checkIndex_8e157_6 : decode cJ3_checkIndex_8e157 6 = .ok (.if_icmp .lt 10, 3) := by decide +kernel
theorem dJ3_checkIndex_8e157_9 : decode cJ3_checkIndex_8e157 9 = .ok (.aload_n 2, 1) := by decide +kernel
theorem dJ3_checkIndex_8e157_10 : decode cJ3_checkIndex_8e157 10 = .ok (.iload_n 0, 1) := by decide +kernel
theorem dJ3_checkIndex_8e157_11 : decode cJ3_checkIndex_8e157 11 = .ok (.iload_n 1, 1) := by decide +kernel
theorem dJ3_checkIndex_8e157_12 : decode cJ3_checkIndex_8e157 12 = .ok (.invokestatic 95, 3) := by decide +kernel
theorem dJ3_checkIndex_8e157_15 : decode cJ3_checkIndex_8e157 15 = .ok (.athrow, 1) := by decide +kernel
theorem dJ3_checkIndex_8e157_16 : decode cJ3_checkIndex_8e157 16 = .ok (.iload_n 0, 1) := by decide +kernel
theorem dJ3_checkIndex_8e157_17 : decode cJ3_checkIndex_8e157 17 = .ok (.ireturn, 1) := by decide +kernel
theorem dJ7_fill_53178_0 : decode cJ7_fill_53178 0 = .ok (.iconst 0, 1) := by decide +kernel
theorem dJ7_fill_53178_1 : decode cJ7_fill_53178 1 = .ok (.istore_n 2, 1) := by decide +kernel
theorem dJ7_fill_53178_2 : decode cJ7_fill_53178 2 = .ok (.aload_n 0, 1) := by decide +kernel
theorem dJ7_fill_53178_3 : decode cJ7_fill_53178 3 = .ok (.arraylength, 1) := by decide +kernel
theorem dJ7_fill_53178_4 : decode cJ7_fill_53178 4 = .ok (.istore_n 3, 1) := by decide +kernel
theorem dJ7_fill_53178_5 : decode cJ7_fill_53178 5 = .ok (.iload_n 2, 1) := by decide +kernel
theorem dJ7_fill_53178_6 : decode cJ7_fill_53178 6 = .ok (.iload_n 3, 1) := by decide +kernel
theorem dJ7_fill_53178_7 : decode cJ7_fill_53178 7 = .ok (.if_icmp .ge 13, 3) := by decide +kernel
theorem dJ7_fill_53178_10 : decode cJ7_fill_53178 10 = .ok (.aload_n 0, 1) := by decide +kernel
theorem dJ7_fill_53178_11 : decode cJ7_fill_53178 11 = .ok (.iload_n 2, 1) := by decide +kernel
theorem dJ7_fill_53178_12 : decode cJ7_fill_53178 12 = .ok (.iload_n 1, 1) := by decide +kernel
theorem dJ7_fill_53178_13 : decode cJ7_fill_53178 13 = .ok (.iastore, 1) := by decide +kernel
theorem dJ7_fill_53178_14 : decode cJ7_fill_53178 14 = .ok (.iinc 2 1, 3) := by decide +kernel
theorem dJ7_fill_53178_17 : decode cJ7_fill_53178 17 = .ok (.goto (-12), 3) := by decide +kernel
theorem dJ7_fill_53178_20 : decode cJ7_fill_53178 20 = .ok (.return_, 1) := by decide +kernel
theorem dX0_init_0 : decode cX0_init 0 = .ok (.aload_n 0, 1) := by decide +kernel
theorem dX0_init_1 : decode cX0_init 1 = .ok (.invokespecial 3, 3) := by decide +kernel
theorem dX0_init_4 : decode cX0_init 4 = .ok (.aload_n 0, 1) := by decide +kernel
theorem dX0_init_5 : decode cX0_init 5 = .ok (.sipush 512, 3) := by decide +kernel
theorem dX0_init_8 : decode cX0_init 8 = .ok (.newarray .int, 2) := by decide +kernel
theorem dX0_init_10 : decode cX0_init 10 = .ok (.putfield 11, 3) := by decide +kernel
theorem dX0_init_13 : decode cX0_init 13 = .ok (.aload_n 0, 1) := by decide +kernel
theorem dX0_init_14 : decode cX0_init 14 = .ok (.sipush 512, 3) := by decide +kernel
theorem dX0_init_17 : decode cX0_init 17 = .ok (.newarray .int, 2) := by decide +kernel
theorem dX0_init_19 : decode cX0_init 19 = .ok (.putfield 15, 3) := by decide +kernel
theorem dX0_init_22 : decode cX0_init 22 = .ok (.aload_n 0, 1) := by decide +kernel
theorem dX0_init_23 : decode cX0_init 23 = .ok (.sipush 512, 3) := by decide +kernel
theorem dX0_init_26 : decode cX0_init 26 = .ok (.newarray .int, 2) := by decide +kernel
theorem dX0_init_28 : decode cX0_init 28 = .ok (.putfield 18, 3) := by decide +kernel
theorem dX0_init_31 : decode cX0_init 31 = .ok (.aload_n 0, 1) := by decide +kernel
theorem dX0_init_32 : decode cX0_init 32 = .ok (.sipush 512, 3) := by decide +kernel
theorem dX0_init_35 : decode cX0_init 35 = .ok (.newarray .int, 2) := by decide +kernel
theorem dX0_init_37 : decode cX0_init 37 = .ok (.putfield 21, 3) := by decide +kernel
theorem dX0_init_40 : decode cX0_init 40 = .ok (.aload_n 0, 1) := by decide +kernel
theorem dX0_init_41 : decode cX0_init 41 = .ok (.sipush 512, 3) := by decide +kernel
theorem dX0_init_44 : decode cX0_init 44 = .ok (.newarray .int, 2) := by decide +kernel
theorem dX0_init_46 : decode cX0_init 46 = .ok (.putfield 24, 3) := by decide +kernel
theorem dX0_init_49 : decode cX0_init 49 = .ok (.aload_n 0, 1) := by decide +kernel
theorem dX0_init_50 : decode cX0_init 50 = .ok (.sipush 512, 3) := by decide +kernel
theorem dX0_init_53 : decode cX0_init 53 = .ok (.newarray .int, 2) := by decide +kernel
theorem dX0_init_55 : decode cX0_init 55 = .ok (.putfield 27, 3) := by decide +kernel
theorem dX0_init_58 : decode cX0_init 58 = .ok (.aload_n 0, 1) := by decide +kernel
theorem dX0_init_59 : decode cX0_init 59 = .ok (.sipush 512, 3) := by decide +kernel
theorem dX0_init_62 : decode cX0_init 62 = .ok (.newarray .int, 2) := by decide +kernel
theorem dX0_init_64 : decode cX0_init 64 = .ok (.putfield 30, 3) := by decide +kernel
theorem dX0_init_67 : decode cX0_init 67 = .ok (.aload_n 0, 1) := by decide +kernel
theorem dX0_init_68 : decode cX0_init 68 = .ok (.sipush 512, 3) := by decide +kernel
theorem dX0_init_71 : decode cX0_init 71 = .ok (.newarray .int, 2) := by decide +kernel
theorem dX0_init_73 : decode cX0_init 73 = .ok (.putfield 33, 3) := by decide +kernel
theorem dX0_init_76 : decode cX0_init 76 = .ok (.aload_n 0, 1) := by decide +kernel
theorem dX0_init_77 : decode cX0_init 77 = .ok (.sipush 512, 3) := by decide +kernel
theorem dX0_init_80 : decode cX0_init 80 = .ok (.newarray .int, 2) := by decide +kernel
theorem dX0_init_82 : decode cX0_init 82 = .ok (.putfield 36, 3) := by decide +kernel
theorem dX0_init_85 : decode cX0_init 85 = .ok (.aload_n 0, 1) := by decide +kernel
theorem dX0_init_86 : decode cX0_init 86 = .ok (.sipush 512, 3) := by decide +kernel
theorem dX0_init_89 : decode cX0_init 89 = .ok (.newarray .int, 2) := by decide +kernel
theorem dX0_init_91 : decode cX0_init 91 = .ok (.putfield 39, 3) := by decide +kernel
theorem dX0_init_94 : decode cX0_init 94 = .ok (.aload_n 0, 1) := by decide +kernel
theorem dX0_init_95 : decode cX0_init 95 = .ok (.sipush 512, 3) := by decide +kernel
theorem dX0_init_98 : decode cX0_init 98 = .ok (.newarray .int, 2) := by decide +kernel
theorem dX0_init_100 : decode cX0_init 100 = .ok (.putfield 42, 3) := by decide +kernel
theorem dX0_init_103 : decode cX0_init 103 = .ok (.aload_n 0, 1) := by decide +kernel
theorem dX0_init_104 : decode cX0_init 104 = .ok (.sipush 512, 3) := by decide +kernel
theorem dX0_init_107 : decode cX0_init 107 = .ok (.newarray .int, 2) := by decide +kernel
theorem dX0_init_109 : decode cX0_init 109 = .ok (.putfield 45, 3) := by decide +kernel
theorem dX0_init_112 : decode cX0_init 112 = .ok (.aload_n 0, 1) := by decide +kernel
theorem dX0_init_113 : decode cX0_init 113 = .ok (.getfield 45, 3) := by decide +kernel
theorem dX0_init_116 : decode cX0_init 116 = .ok (.iconst (-1), 1) := by decide +kernel
theorem dX0_init_117 : decode cX0_init 117 = .ok (.invokestatic 48, 3) := by decide +kernel
theorem dX0_init_120 : decode cX0_init 120 = .ok (.aload_n 0, 1) := by decide +kernel
theorem dX0_init_121 : decode cX0_init 121 = .ok (.iconst 0, 1) := by decide +kernel
theorem dX0_init_122 : decode cX0_init 122 = .ok (.iconst 0, 1) := by decide +kernel
theorem dX0_init_123 : decode cX0_init 123 = .ok (.iconst 0, 1) := by decide +kernel
theorem dX0_init_124 : decode cX0_init 124 = .ok (.iconst 0, 1) := by decide +kernel
theorem dX0_init_125 : decode cX0_init 125 = .ok (.invokevirtual 54, 3) := by decide +kernel
theorem dX0_init_128 : decode cX0_init 128 = .ok (.pop, 1) := by decide +kernel
theorem dX0_init_129 : decode cX0_init 129 = .ok (.aload_n 0, 1) := by decide +kernel
theorem dX0_init_130 : decode cX0_init 130 = .ok (.iconst 1, 1) := by decide +kernel
theorem dX0_init_131 : decode cX0_init 131 = .ok (.iconst 0, 1) := by decide +kernel
theorem dX0_init_132 : decode cX0_init 132 = .ok (.bipush 111, 2) := by decide +kernel
theorem dX0_init_134 : decode cX0_init 134 = .ok (.iconst 0, 1) := by decide +kernel
theorem dX0_init_135 : decode cX0_init 135 = .ok (.invokevirtual 54, 3) := by decide +kernel
theorem dX0_init_138 : decode cX0_init 138 = .ok (.pop, 1) := by decide +kernel
theorem dX0_init_139 : decode cX0_init 139 = .ok (.aload_n 0, 1) := by decide +kernel
theorem dX0_init_140 : decode cX0_init 140 = .ok (.iconst 1, 1) := by decide +kernel
theorem dX0_init_141 : decode cX0_init 141 = .ok (.iconst 0, 1) := by decide +kernel
theorem dX0_init_142 : decode cX0_init 142 = .ok (.bipush 105, 2) := by decide +kernel
theorem dX0_init_144 : decode cX0_init 144 = .ok (.iconst 0, 1) := by decide +kernel
theorem dX0_init_145 : decode cX0_init 145 = .ok (.invokevirtual 54, 3) := by decide +kernel
theorem dX0_init_148 : decode cX0_init 148 = .ok (.pop, 1) := by decide +kernel
theorem dX0_init_149 : decode cX0_init 149 = .ok (.aload_n 0, 1) := by decide +kernel
theorem dX0_init_150 : decode cX0_init 150 = .ok (.iconst 3, 1) := by decide +kernel
theorem dX0_init_151 : decode cX0_init 151 = .ok (.putfield 58, 3) := by decide +kernel
theorem dX0_init_154 : decode cX0_init 154 = .ok (.return_, 1) := by decide +kernel
theorem dX0_link_0 : decode cX0_link 0 = .ok (.aload_n 0, 1) := by decide +kernel
theorem dX0_link_1 : decode cX0_link 1 = .ok (.getfield 36, 3) := by decide +kernel
theorem dX0_link_4 : decode cX0_link 4 = .ok (.iload_n 1, 1) := by decide +kernel
theorem dX0_link_5 : decode cX0_link 5 = .ok (.iaload, 1) := by decide +kernel
theorem dX0_link_6 : decode cX0_link 6 = .ok (.aload_n 0, 1) := by decide +kernel
theorem dX0_link_7 : decode cX0_link 7 = .ok (.getfield 45, 3) := by decide +kernel
theorem dX0_link_10 : decode cX0_link 10 = .ok (.arraylength, 1) := by decide +kernel
theorem dX0_link_11 : decode cX0_link 11 = .ok (.iconst 1, 1) := by decide +kernel
theorem dX0_link_12 : decode cX0_link 12 = .ok (.isub, 1) := by decide +kernel
theorem dX0_link_13 : decode cX0_link 13 = .ok (.iand, 1) := by decide +kernel
theorem dX0_link_14 : decode cX0_link 14 = .ok (.istore_n 2, 1) := by decide +kernel
theorem dX0_link_15 : decode cX0_link 15 = .ok (.aload_n 0, 1) := by decide +kernel
theorem dX0_link_16 : decode cX0_link 16 = .ok (.getfield 39, 3) := by decide +kernel
theorem dX0_link_19 : decode cX0_link 19 = .ok (.iload_n 1, 1) := by decide +kernel
theorem dX0_link_20 : decode cX0_link 20 = .ok (.aload_n 0, 1) := by decide +kernel
theorem dX0_link_21 : decode cX0_link 21 = .ok (.getfield 45, 3) := by decide +kernel
theorem dX0_link_24 : decode cX0_link 24 = .ok (.iload_n 2, 1) := by decide +kernel
theorem dX0_link_25 : decode cX0_link 25 = .ok (.iaload, 1) := by decide +kernel
theorem dX0_link_26 : decode cX0_link 26 = .ok (.iastore, 1) := by decide +kernel
theorem dX0_link_27 : decode cX0_link 27 = .ok (.aload_n 0, 1) := by decide +kernel
theorem dX0_link_28 : decode cX0_link 28 = .ok (.getfield 45, 3) := by decide +kernel
theorem dX0_link_31 : decode cX0_link 31 = .ok (.iload_n 2, 1) := by decide +kernel
theorem dX0_link_32 : decode cX0_link 32 = .ok (.iload_n 1, 1) := by decide +kernel
theorem dX0_link_33 : decode cX0_link 33 = .ok (.iastore, 1) := by decide +kernel
theorem dX0_link_34 : decode cX0_link 34 = .ok (.return_, 1) := by decide +kernel
theorem dX0_measure_0 : decode cX0_measure 0 = .ok (.aload_n 0, 1) := by decide +kernel
theorem dX0_measure_1 : decode cX0_measure 1 = .ok (.getfield 18, 3) := by decide +kernel
theorem dX0_measure_4 : decode cX0_measure 4 = .ok (.iload_n 1, 1) := by decide +kernel
theorem dX0_measure_5 : decode cX0_measure 5 = .ok (.iaload, 1) := by decide +kernel
theorem dX0_measure_6 : decode cX0_measure 6 = .ok (.istore_n 2, 1) := by decide +kernel
theorem dX0_measure_7 : decode cX0_measure 7 = .ok (.aload_n 0, 1) := by decide +kernel
theorem dX0_measure_8 : decode cX0_measure 8 = .ok (.getfield 15, 3) := by decide +kernel
theorem dX0_measure_11 : decode cX0_measure 11 = .ok (.iload_n 1, 1) := by decide +kernel
theorem dX0_measure_12 : decode cX0_measure 12 = .ok (.iaload, 1) := by decide +kernel
theorem dX0_measure_13 : decode cX0_measure 13 = .ok (.ifCond .lt 22, 3) := by decide +kernel
theorem dX0_measure_16 : decode cX0_measure 16 = .ok (.aload_n 0, 1) := by decide +kernel
theorem dX0_measure_17 : decode cX0_measure 17 = .ok (.getfield 15, 3) := by decide +kernel
theorem dX0_measure_20 : decode cX0_measure 20 = .ok (.iload_n 1, 1) := by decide +kernel
theorem dX0_measure_21 : decode cX0_measure 21 = .ok (.iaload, 1) := by decide +kernel
theorem dX0_measure_22 : decode cX0_measure 22 = .ok (.iload_n 1, 1) := by decide +kernel
theorem dX0_measure_23 : decode cX0_measure 23 = .ok (.if_icmp .ge 12, 3) := by decide +kernel
theorem dX0_measure_26 : decode cX0_measure 26 = .ok (.aload_n 0, 1) := by decide +kernel
theorem dX0_measure_27 : decode cX0_measure 27 = .ok (.getfield 15, 3) := by decide +kernel
theorem dX0_measure_30 : decode cX0_measure 30 = .ok (.iload_n 1, 1) := by decide +kernel
theorem dX0_measure_31 : decode cX0_measure 31 = .ok (.iaload, 1) := by decide +kernel
theorem dX0_measure_32 : decode cX0_measure 32 = .ok (.goto 4, 3) := by decide +kernel
theorem dX0_measure_35 : decode cX0_measure 35 = .ok (.iconst 0, 1) := by decide +kernel
theorem dX0_measure_36 : decode cX0_measure 36 = .ok (.istore_n 3, 1) := by decide +kernel
theorem dX0_measure_37 : decode cX0_measure 37 = .ok (.iload_n 2, 1) := by decide +kernel
theorem dX0_measure_38 : decode cX0_measure 38 = .ok (.ifCond .lt 12, 3) := by decide +kernel
theorem dX0_measure_41 : decode cX0_measure 41 = .ok (.iload_n 2, 1) := by decide +kernel
theorem dX0_measure_42 : decode cX0_measure 42 = .ok (.iload_n 1, 1) := by decide +kernel
theorem dX0_measure_43 : decode cX0_measure 43 = .ok (.if_icmp .ge 7, 3) := by decide +kernel
theorem dX0_measure_50 : decode cX0_measure 50 = .ok (.iconst 0, 1) := by decide +kernel
theorem dX0_measure_51 : decode cX0_measure 51 = .ok (.istore 4, 2) := by decide +kernel
theorem dX0_measure_53 : decode cX0_measure 53 = .ok (.aload_n 0, 1) := by decide +kernel
theorem dX0_measure_54 : decode cX0_measure 54 = .ok (.getfield 11, 3) := by decide +kernel
theorem dX0_measure_57 : decode cX0_measure 57 = .ok (.iload_n 1, 1) := by decide +kernel
theorem dX0_measure_58 : decode cX0_measure 58 = .ok (.iaload, 1) := by decide +kernel
theorem dX0_measure_59 : decode cX0_measure 59 = .ok (.bipush 7, 2) := by decide +kernel
theorem dX0_measure_61 : decode cX0_measure 61 = .ok (.if_icmp .lt 7, 3) := by decide +kernel
theorem dX0_measure_68 : decode cX0_measure 68 = .ok (.iconst 0, 1) := by decide +kernel
theorem dX0_measure_69 : decode cX0_measure 69 = .ok (.istore 5, 2) := by decide +kernel
theorem dX0_measure_71 : decode cX0_measure 71 = .ok (.aload_n 0, 1) := by decide +kernel
theorem dX0_measure_72 : decode cX0_measure 72 = .ok (.getfield 30, 3) := by decide +kernel
theorem dX0_measure_75 : decode cX0_measure 75 = .ok (.iload_n 1, 1) := by decide +kernel
theorem dX0_measure_76 : decode cX0_measure 76 = .ok (.iload 5, 2) := by decide +kernel
theorem dX0_measure_78 : decode cX0_measure 78 = .ok (.ifCond .eq 20, 3) := by decide +kernel
theorem dX0_measure_98 : decode cX0_measure 98 = .ok (.iconst 0, 1) := by decide +kernel
theorem dX0_measure_99 : decode cX0_measure 99 = .ok (.iastore, 1) := by decide +kernel
theorem dX0_measure_100 : decode cX0_measure 100 = .ok (.aload_n 0, 1) := by decide +kernel
theorem dX0_measure_101 : decode cX0_measure 101 = .ok (.getfield 33, 3) := by decide +kernel
theorem dX0_measure_104 : decode cX0_measure 104 = .ok (.iload_n 1, 1) := by decide +kernel
theorem dX0_measure_105 : decode cX0_measure 105 = .ok (.iload 5, 2) := by decide +kernel
theorem dX0_measure_107 : decode cX0_measure 107 = .ok (.ifCond .eq 20, 3) := by decide +kernel
theorem dX0_measure_127 : decode cX0_measure 127 = .ok (.iconst 0, 1) := by decide +kernel
theorem dX0_measure_128 : decode cX0_measure 128 = .ok (.iastore, 1) := by decide +kernel
theorem dX0_measure_129 : decode cX0_measure 129 = .ok (.aload_n 0, 1) := by decide +kernel
theorem dX0_measure_130 : decode cX0_measure 130 = .ok (.getfield 24, 3) := by decide +kernel
theorem dX0_measure_133 : decode cX0_measure 133 = .ok (.iload_n 1, 1) := by decide +kernel
theorem dX0_measure_134 : decode cX0_measure 134 = .ok (.iconst 1, 1) := by decide +kernel
theorem dX0_measure_135 : decode cX0_measure 135 = .ok (.iastore, 1) := by decide +kernel
theorem dX0_measure_136 : decode cX0_measure 136 = .ok (.aload_n 0, 1) := by decide +kernel
theorem dX0_measure_137 : decode cX0_measure 137 = .ok (.getfield 27, 3) := by decide +kernel
theorem dX0_measure_140 : decode cX0_measure 140 = .ok (.iload_n 1, 1) := by decide +kernel
theorem dX0_measure_141 : decode cX0_measure 141 = .ok (.iconst 0, 1) := by decide +kernel
theorem dX0_measure_142 : decode cX0_measure 142 = .ok (.iastore, 1) := by decide +kernel
theorem dX0_measure_143 : decode cX0_measure 143 = .ok (.aload_n 0, 1) := by decide +kernel
theorem dX0_measure_144 : decode cX0_measure 144 = .ok (.getfield 11, 3) := by decide +kernel
theorem dX0_measure_147 : decode cX0_measure 147 = .ok (.iload_n 1, 1) := by decide +kernel
theorem dX0_measure_148 : decode cX0_measure 148 = .ok (.iaload, 1) := by decide +kernel
theorem dX0_measure_149 : decode cX0_measure 149 = .ok (.tableswitch 251 0 10 #[59, 251, 69, 92, 109, 251, 121, 133, 180, 217, 235], 59) := by decide +kernel
theorem dX0_measure_208 : decode cX0_measure 208 = .ok (.aload_n 0, 1) := by decide +kernel
theorem dX0_measure_209 : decode cX0_measure 209 = .ok (.getfield 24, 3) := by decide +kernel
theorem dX0_measure_212 : decode cX0_measure 212 = .ok (.iload_n 1, 1) := by decide +kernel
theorem dX0_measure_213 : decode cX0_measure 213 = .ok (.iconst 0, 1) := by decide +kernel
theorem dX0_measure_214 : decode cX0_measure 214 = .ok (.iastore, 1) := by decide +kernel
theorem dX0_measure_215 : decode cX0_measure 215 = .ok (.goto 185, 3) := by decide +kernel
theorem dX0_measure_400 : decode cX0_measure 400 = .ok (.return_, 1) := by decide +kernel
theorem dX0_node_0 : decode cX0_node 0 = .ok (.iload_n 1, 1) := by decide +kernel
theorem dX0_node_1 : decode cX0_node 1 = .ok (.sipush 7919, 3) := by decide +kernel
theorem dX0_node_4 : decode cX0_node 4 = .ok (.imul, 1) := by decide +kernel
theorem dX0_node_5 : decode cX0_node 5 = .ok (.iload_n 2, 1) := by decide +kernel
theorem dX0_node_6 : decode cX0_node 6 = .ok (.iadd, 1) := by decide +kernel
theorem dX0_node_7 : decode cX0_node 7 = .ok (.sipush 31337, 3) := by decide +kernel
theorem dX0_node_10 : decode cX0_node 10 = .ok (.imul, 1) := by decide +kernel
theorem dX0_node_11 : decode cX0_node 11 = .ok (.iload_n 3, 1) := by decide +kernel
theorem dX0_node_12 : decode cX0_node 12 = .ok (.iadd, 1) := by decide +kernel
theorem dX0_node_13 : decode cX0_node 13 = .ok (.istore 5, 2) := by decide +kernel
theorem dX0_node_15 : decode cX0_node 15 = .ok (.iload 5, 2) := by decide +kernel
theorem dX0_node_17 : decode cX0_node 17 = .ok (.iload 5, 2) := by decide +kernel
theorem dX0_node_19 : decode cX0_node 19 = .ok (.bipush 15, 2) := by decide +kernel
theorem dX0_node_21 : decode cX0_node 21 = .ok (.iushr, 1) := by decide +kernel
theorem dX0_node_22 : decode cX0_node 22 = .ok (.ixor, 1) := by decide +kernel
theorem dX0_node_23 : decode cX0_node 23 = .ok (.istore 5, 2) := by decide +kernel
theorem dX0_node_25 : decode cX0_node 25 = .ok (.aload_n 0, 1) := by decide +kernel
theorem dX0_node_26 : decode cX0_node 26 = .ok (.getfield 45, 3) := by decide +kernel
theorem dX0_node_29 : decode cX0_node 29 = .ok (.iload 5, 2) := by decide +kernel
theorem dX0_node_31 : decode cX0_node 31 = .ok (.aload_n 0, 1) := by decide +kernel
theorem dX0_node_32 : decode cX0_node 32 = .ok (.getfield 45, 3) := by decide +kernel
theorem dX0_node_35 : decode cX0_node 35 = .ok (.arraylength, 1) := by decide +kernel
theorem dX0_node_36 : decode cX0_node 36 = .ok (.iconst 1, 1) := by decide +kernel
theorem dX0_node_37 : decode cX0_node 37 = .ok (.isub, 1) := by decide +kernel
theorem dX0_node_38 : decode cX0_node 38 = .ok (.iand, 1) := by decide +kernel
theorem dX0_node_39 : decode cX0_node 39 = .ok (.iaload, 1) := by decide +kernel
theorem dX0_node_40 : decode cX0_node 40 = .ok (.istore 6, 2) := by decide +kernel
theorem dX0_node_42 : decode cX0_node 42 = .ok (.iconst 0, 1) := by decide +kernel
theorem dX0_node_43 : decode cX0_node 43 = .ok (.istore 7, 2) := by decide +kernel
theorem dX0_node_45 : decode cX0_node 45 = .ok (.iload 7, 2) := by decide +kernel
theorem dX0_node_47 : decode cX0_node 47 = .ok (.aload_n 0, 1) := by decide +kernel
theorem dX0_node_48 : decode cX0_node 48 = .ok (.getfield 62, 3) := by decide +kernel
theorem dX0_node_51 : decode cX0_node 51 = .ok (.if_icmp .ge 68, 3) := by decide +kernel
theorem dX0_node_54 : decode cX0_node 54 = .ok (.iload 6, 2) := by decide +kernel
theorem dX0_node_56 : decode cX0_node 56 = .ok (.ifCond .lt 63, 3) := by decide +kernel
theorem dX0_node_119 : decode cX0_node 119 = .ok (.aload_n 0, 1) := by decide +kernel
theorem dX0_node_120 : decode cX0_node 120 = .ok (.getfield 62, 3) := by decide +kernel
theorem dX0_node_123 : decode cX0_node 123 = .ok (.aload_n 0, 1) := by decide +kernel
theorem dX0_node_124 : decode cX0_node 124 = .ok (.getfield 11, 3) := by decide +kernel
theorem dX0_node_127 : decode cX0_node 127 = .ok (.arraylength, 1) := by decide +kernel
theorem dX0_node_128 : decode cX0_node 128 = .ok (.if_icmp .lt 7, 3) := by decide +kernel
theorem dX0_node_135 : decode cX0_node 135 = .ok (.aload_n 0, 1) := by decide +kernel
theorem dX0_node_136 : decode cX0_node 136 = .ok (.getfield 62, 3) := by decide +kernel
theorem dX0_node_139 : decode cX0_node 139 = .ok (.istore 7, 2) := by decide +kernel
theorem dX0_node_141 : decode cX0_node 141 = .ok (.aload_n 0, 1) := by decide +kernel
theorem dX0_node_142 : decode cX0_node 142 = .ok (.dup, 1) := by decide +kernel
theorem dX0_node_143 : decode cX0_node 143 = .ok (.getfield 62, 3) := by decide +kernel
theorem dX0_node_146 : decode cX0_node 146 = .ok (.iconst 1, 1) := by decide +kernel
theorem dX0_node_147 : decode cX0_node 147 = .ok (.iadd, 1) := by decide +kernel
theorem dX0_node_148 : decode cX0_node 148 = .ok (.putfield 62, 3) := by decide +kernel
theorem dX0_node_151 : decode cX0_node 151 = .ok (.aload_n 0, 1) := by decide +kernel
theorem dX0_node_152 : decode cX0_node 152 = .ok (.getfield 11, 3) := by decide +kernel
theorem dX0_node_155 : decode cX0_node 155 = .ok (.iload 7, 2) := by decide +kernel
theorem dX0_node_157 : decode cX0_node 157 = .ok (.iload_n 1, 1) := by decide +kernel
theorem dX0_node_158 : decode cX0_node 158 = .ok (.iastore, 1) := by decide +kernel
theorem dX0_node_159 : decode cX0_node 159 = .ok (.aload_n 0, 1) := by decide +kernel
theorem dX0_node_160 : decode cX0_node 160 = .ok (.getfield 15, 3) := by decide +kernel
theorem dX0_node_163 : decode cX0_node 163 = .ok (.iload 7, 2) := by decide +kernel
theorem dX0_node_165 : decode cX0_node 165 = .ok (.iload_n 2, 1) := by decide +kernel
theorem dX0_node_166 : decode cX0_node 166 = .ok (.iastore, 1) := by decide +kernel
theorem dX0_node_167 : decode cX0_node 167 = .ok (.aload_n 0, 1) := by decide +kernel
theorem dX0_node_168 : decode cX0_node 168 = .ok (.getfield 18, 3) := by decide +kernel
theorem dX0_node_171 : decode cX0_node 171 = .ok (.iload 7, 2) := by decide +kernel
theorem dX0_node_173 : decode cX0_node 173 = .ok (.iload_n 3, 1) := by decide +kernel
theorem dX0_node_174 : decode cX0_node 174 = .ok (.iastore, 1) := by decide +kernel
theorem dX0_node_175 : decode cX0_node 175 = .ok (.aload_n 0, 1) := by decide +kernel
theorem dX0_node_176 : decode cX0_node 176 = .ok (.getfield 21, 3) := by decide +kernel
theorem dX0_node_179 : decode cX0_node 179 = .ok (.iload 7, 2) := by decide +kernel
theorem dX0_node_181 : decode cX0_node 181 = .ok (.iload 4, 2) := by decide +kernel
theorem dX0_node_183 : decode cX0_node 183 = .ok (.iastore, 1) := by decide +kernel
theorem dX0_node_184 : decode cX0_node 184 = .ok (.aload_n 0, 1) := by decide +kernel
theorem dX0_node_185 : decode cX0_node 185 = .ok (.getfield 36, 3) := by decide +kernel
theorem dX0_node_188 : decode cX0_node 188 = .ok (.iload 7, 2) := by decide +kernel
theorem dX0_node_190 : decode cX0_node 190 = .ok (.iload 5, 2) := by decide +kernel
theorem dX0_node_192 : decode cX0_node 192 = .ok (.iastore, 1) := by decide +kernel
theorem dX0_node_193 : decode cX0_node 193 = .ok (.aload_n 0, 1) := by decide +kernel
theorem dX0_node_194 : decode cX0_node 194 = .ok (.iload 7, 2) := by decide +kernel
theorem dX0_node_196 : decode cX0_node 196 = .ok (.invokevirtual 68, 3) := by decide +kernel
theorem dX0_node_199 : decode cX0_node 199 = .ok (.aload_n 0, 1) := by decide +kernel
theorem dX0_node_200 : decode cX0_node 200 = .ok (.iload 7, 2) := by decide +kernel
theorem dX0_node_202 : decode cX0_node 202 = .ok (.invokevirtual 72, 3) := by decide +kernel
theorem dX0_node_205 : decode cX0_node 205 = .ok (.iload 7, 2) := by decide +kernel
theorem dX0_node_207 : decode cX0_node 207 = .ok (.ireturn, 1) := by decide +kernel
theorem dX10_init_0 : decode cX10_init 0 = .ok (.aload_n 0, 1) := by decide +kernel
theorem dX10_init_1 : decode cX10_init 1 = .ok (.invokespecial 3, 3) := by decide +kernel
theorem dX10_init_4 : decode cX10_init 4 = .ok (.aload_n 0, 1) := by decide +kernel
theorem dX10_init_5 : decode cX10_init 5 = .ok (.sipush 4608, 3) := by decide +kernel
theorem dX10_init_8 : decode cX10_init 8 = .ok (.newarray .int, 2) := by decide +kernel
theorem dX10_init_10 : decode cX10_init 10 = .ok (.putfield 11, 3) := by decide +kernel
theorem dX10_init_13 : decode cX10_init 13 = .ok (.aload_n 0, 1) := by decide +kernel
theorem dX10_init_14 : decode cX10_init 14 = .ok (.aload_n 1, 1) := by decide +kernel
theorem dX10_init_15 : decode cX10_init 15 = .ok (.putfield 15, 3) := by decide +kernel
theorem dX10_init_18 : decode cX10_init 18 = .ok (.aload_n 0, 1) := by decide +kernel
theorem dX10_init_19 : decode cX10_init 19 = .ok (.aload_n 2, 1) := by decide +kernel
theorem dX10_init_20 : decode cX10_init 20 = .ok (.putfield 19, 3) := by decide +kernel
theorem dX10_init_23 : decode cX10_init 23 = .ok (.return_, 1) := by decide +kernel
theorem dX11_init_0 : decode cX11_init 0 = .ok (.aload_n 0, 1) := by decide +kernel
theorem dX11_init_1 : decode cX11_init 1 = .ok (.invokespecial 1, 3) := by decide +kernel
theorem dX11_init_4 : decode cX11_init 4 = .ok (.aload_n 0, 1) := by decide +kernel
theorem dX11_init_5 : decode cX11_init 5 = .ok (.sipush 400, 3) := by decide +kernel
theorem dX11_init_8 : decode cX11_init 8 = .ok (.newarray .int, 2) := by decide +kernel
theorem dX11_init_10 : decode cX11_init 10 = .ok (.putfield 9, 3) := by decide +kernel
theorem dX11_init_13 : decode cX11_init 13 = .ok (.aload_n 0, 1) := by decide +kernel
theorem dX11_init_14 : decode cX11_init 14 = .ok (.new 13, 3) := by decide +kernel
theorem dX11_init_17 : decode cX11_init 17 = .ok (.dup, 1) := by decide +kernel
theorem dX11_init_18 : decode cX11_init 18 = .ok (.invokespecial 15, 3) := by decide +kernel
theorem dX11_init_21 : decode cX11_init 21 = .ok (.putfield 16, 3) := by decide +kernel
theorem dX11_init_24 : decode cX11_init 24 = .ok (.aload_n 0, 1) := by decide +kernel
theorem dX11_init_25 : decode cX11_init 25 = .ok (.new 20, 3) := by decide +kernel
theorem dX11_init_28 : decode cX11_init 28 = .ok (.dup, 1) := by decide +kernel
theorem dX11_init_29 : decode cX11_init 29 = .ok (.aload_n 0, 1) := by decide +kernel
theorem dX11_init_30 : decode cX11_init 30 = .ok (.getfield 16, 3) := by decide +kernel
theorem dX11_init_33 : decode cX11_init 33 = .ok (.invokespecial 22, 3) := by decide +kernel
theorem dX11_init_36 : decode cX11_init 36 = .ok (.putfield 25, 3) := by decide +kernel
theorem dX11_init_39 : decode cX11_init 39 = .ok (.aload_n 0, 1) := by decide +kernel
theorem dX11_init_40 : decode cX11_init 40 = .ok (.new 29, 3) := by decide +kernel
theorem dX11_init_43 : decode cX11_init 43 = .ok (.dup, 1) := by decide +kernel
theorem dX11_init_44 : decode cX11_init 44 = .ok (.aload_n 0, 1) := by decide +kernel
theorem dX11_init_45 : decode cX11_init 45 = .ok (.getfield 16, 3) := by decide +kernel
theorem dX11_init_48 : decode cX11_init 48 = .ok (.invokespecial 31, 3) := by decide +kernel
theorem dX11_init_51 : decode cX11_init 51 = .ok (.putfield 32, 3) := by decide +kernel
theorem dX11_init_54 : decode cX11_init 54 = .ok (.aload_n 0, 1) := by decide +kernel
theorem dX11_init_55 : decode cX11_init 55 = .ok (.new 36, 3) := by decide +kernel
theorem dX11_init_58 : decode cX11_init 58 = .ok (.dup, 1) := by decide +kernel
theorem dX11_init_59 : decode cX11_init 59 = .ok (.aload_n 0, 1) := by decide +kernel
theorem dX11_init_60 : decode cX11_init 60 = .ok (.getfield 16, 3) := by decide +kernel
theorem dX11_init_63 : decode cX11_init 63 = .ok (.aload_n 0, 1) := by decide +kernel
theorem dX11_init_64 : decode cX11_init 64 = .ok (.getfield 25, 3) := by decide +kernel
theorem dX11_init_67 : decode cX11_init 67 = .ok (.aload_n 0, 1) := by decide +kernel
theorem dX11_init_68 : decode cX11_init 68 = .ok (.getfield 32, 3) := by decide +kernel
theorem dX11_init_71 : decode cX11_init 71 = .ok (.invokespecial 38, 3) := by decide +kernel
theorem dX11_init_74 : decode cX11_init 74 = .ok (.putfield 41, 3) := by decide +kernel
theorem dX11_init_77 : decode cX11_init 77 = .ok (.aload_n 0, 1) := by decide +kernel
theorem dX11_init_78 : decode cX11_init 78 = .ok (.new 45, 3) := by decide +kernel
theorem dX11_init_81 : decode cX11_init 81 = .ok (.dup, 1) := by decide +kernel
theorem dX11_init_82 : decode cX11_init 82 = .ok (.aload_n 0, 1) := by decide +kernel
theorem dX11_init_83 : decode cX11_init 83 = .ok (.getfield 16, 3) := by decide +kernel
theorem dX11_init_86 : decode cX11_init 86 = .ok (.aload_n 0, 1) := by decide +kernel
theorem dX11_init_87 : decode cX11_init 87 = .ok (.getfield 25, 3) := by decide +kernel
theorem dX11_init_90 : decode cX11_init 90 = .ok (.aload_n 0, 1) := by decide +kernel
theorem dX11_init_91 : decode cX11_init 91 = .ok (.getfield 41, 3) := by decide +kernel
theorem dX11_init_94 : decode cX11_init 94 = .ok (.invokespecial 47, 3) := by decide +kernel
theorem dX11_init_97 : decode cX11_init 97 = .ok (.putfield 50, 3) := by decide +kernel
theorem dX11_init_100 : decode cX11_init 100 = .ok (.aload_n 0, 1) := by decide +kernel
theorem dX11_init_101 : decode cX11_init 101 = .ok (.new 54, 3) := by decide +kernel
theorem dX11_init_104 : decode cX11_init 104 = .ok (.dup, 1) := by decide +kernel
theorem dX11_init_105 : decode cX11_init 105 = .ok (.aload_n 0, 1) := by decide +kernel
theorem dX11_init_106 : decode cX11_init 106 = .ok (.getfield 9, 3) := by decide +kernel
theorem dX11_init_109 : decode cX11_init 109 = .ok (.invokespecial 56, 3) := by decide +kernel
theorem dX11_init_112 : decode cX11_init 112 = .ok (.putfield 59, 3) := by decide +kernel
theorem dX11_init_115 : decode cX11_init 115 = .ok (.aload_n 0, 1) := by decide +kernel
theorem dX11_init_116 : decode cX11_init 116 = .ok (.new 63, 3) := by decide +kernel
theorem dX11_init_119 : decode cX11_init 119 = .ok (.dup, 1) := by decide +kernel
theorem dX11_init_120 : decode cX11_init 120 = .ok (.aload_n 0, 1) := by decide +kernel
theorem dX11_init_121 : decode cX11_init 121 = .ok (.getfield 59, 3) := by decide +kernel
theorem dX11_init_124 : decode cX11_init 124 = .ok (.aload_n 0, 1) := by decide +kernel
theorem dX11_init_125 : decode cX11_init 125 = .ok (.getfield 16, 3) := by decide +kernel
theorem dX11_init_128 : decode cX11_init 128 = .ok (.aload_n 0, 1) := by decide +kernel
theorem dX11_init_129 : decode cX11_init 129 = .ok (.getfield 25, 3) := by decide +kernel
theorem dX11_init_132 : decode cX11_init 132 = .ok (.aload_n 0, 1) := by decide +kernel
theorem dX11_init_133 : decode cX11_init 133 = .ok (.getfield 32, 3) := by decide +kernel
theorem dX11_init_136 : decode cX11_init 136 = .ok (.invokespecial 65, 3) := by decide +kernel
theorem dX11_init_139 : decode cX11_init 139 = .ok (.putfield 68, 3) := by decide +kernel
theorem dX11_init_142 : decode cX11_init 142 = .ok (.aload_n 0, 1) := by decide +kernel
theorem dX11_init_143 : decode cX11_init 143 = .ok (.new 72, 3) := by decide +kernel
theorem dX11_init_146 : decode cX11_init 146 = .ok (.dup, 1) := by decide +kernel
theorem dX11_init_147 : decode cX11_init 147 = .ok (.aload_n 0, 1) := by decide +kernel
theorem dX11_init_148 : decode cX11_init 148 = .ok (.getfield 59, 3) := by decide +kernel
theorem dX11_init_151 : decode cX11_init 151 = .ok (.aload_n 0, 1) := by decide +kernel
theorem dX11_init_152 : decode cX11_init 152 = .ok (.getfield 68, 3) := by decide +kernel
theorem dX11_init_155 : decode cX11_init 155 = .ok (.aload_n 0, 1) := by decide +kernel
theorem dX11_init_156 : decode cX11_init 156 = .ok (.getfield 16, 3) := by decide +kernel
theorem dX11_init_159 : decode cX11_init 159 = .ok (.aload_n 0, 1) := by decide +kernel
theorem dX11_init_160 : decode cX11_init 160 = .ok (.getfield 25, 3) := by decide +kernel
theorem dX11_init_163 : decode cX11_init 163 = .ok (.aload_n 0, 1) := by decide +kernel
theorem dX11_init_164 : decode cX11_init 164 = .ok (.getfield 32, 3) := by decide +kernel
theorem dX11_init_167 : decode cX11_init 167 = .ok (.aload_n 0, 1) := by decide +kernel
theorem dX11_init_168 : decode cX11_init 168 = .ok (.getfield 50, 3) := by decide +kernel
theorem dX11_init_171 : decode cX11_init 171 = .ok (.invokespecial 74, 3) := by decide +kernel
theorem dX11_init_174 : decode cX11_init 174 = .ok (.putfield 77, 3) := by decide +kernel
theorem dX11_init_177 : decode cX11_init 177 = .ok (.aload_n 0, 1) := by decide +kernel
theorem dX11_init_178 : decode cX11_init 178 = .ok (.new 81, 3) := by decide +kernel
theorem dX11_init_181 : decode cX11_init 181 = .ok (.dup, 1) := by decide +kernel
theorem dX11_init_182 : decode cX11_init 182 = .ok (.aload_n 0, 1) := by decide +kernel
theorem dX11_init_183 : decode cX11_init 183 = .ok (.getfield 59, 3) := by decide +kernel
theorem dX11_init_186 : decode cX11_init 186 = .ok (.aload_n 0, 1) := by decide +kernel
theorem dX11_init_187 : decode cX11_init 187 = .ok (.getfield 32, 3) := by decide +kernel
theorem dX11_init_190 : decode cX11_init 190 = .ok (.invokespecial 83, 3) := by decide +kernel
theorem dX11_init_193 : decode cX11_init 193 = .ok (.putfield 86, 3) := by decide +kernel
theorem dX11_init_196 : decode cX11_init 196 = .ok (.aload_n 0, 1) := by decide +kernel
theorem dX11_init_197 : decode cX11_init 197 = .ok (.new 90, 3) := by decide +kernel
theorem dX11_init_200 : decode cX11_init 200 = .ok (.dup, 1) := by decide +kernel
theorem dX11_init_201 : decode cX11_init 201 = .ok (.aload_n 0, 1) := by decide +kernel
theorem dX11_init_202 : decode cX11_init 202 = .ok (.getfield 16, 3) := by decide +kernel
theorem dX11_init_205 : decode cX11_init 205 = .ok (.aload_n 0, 1) := by decide +kernel
theorem dX11_init_206 : decode cX11_init 206 = .ok (.getfield 25, 3) := by decide +kernel
theorem dX11_init_209 : decode cX11_init 209 = .ok (.aload_n 0, 1) := by decide +kernel
theorem dX11_init_210 : decode cX11_init 210 = .ok (.getfield 32, 3) := by decide +kernel
theorem dX11_init_213 : decode cX11_init 213 = .ok (.aload_n 0, 1) := by decide +kernel
theorem dX11_init_214 : decode cX11_init 214 = .ok (.getfield 50, 3) := by decide +kernel
theorem dX11_init_217 : decode cX11_init 217 = .ok (.aload_n 0, 1) := by decide +kernel
theorem dX11_init_218 : decode cX11_init 218 = .ok (.getfield 86, 3) := by decide +kernel
theorem dX11_init_221 : decode cX11_init 221 = .ok (.invokespecial 92, 3) := by decide +kernel
theorem dX11_init_224 : decode cX11_init 224 = .ok (.putfield 95, 3) := by decide +kernel
theorem dX11_init_227 : decode cX11_init 227 = .ok (.aload_n 0, 1) := by decide +kernel
theorem dX11_init_228 : decode cX11_init 228 = .ok (.new 99, 3) := by decide +kernel
theorem dX11_init_231 : decode cX11_init 231 = .ok (.dup, 1) := by decide +kernel
theorem dX11_init_232 : decode cX11_init 232 = .ok (.aload_n 0, 1) := by decide +kernel
theorem dX11_init_233 : decode cX11_init 233 = .ok (.getfield 16, 3) := by decide +kernel
theorem dX11_init_236 : decode cX11_init 236 = .ok (.aload_n 0, 1) := by decide +kernel
theorem dX11_init_237 : decode cX11_init 237 = .ok (.getfield 32, 3) := by decide +kernel
theorem dX11_init_240 : decode cX11_init 240 = .ok (.invokespecial 101, 3) := by decide +kernel
theorem dX11_init_243 : decode cX11_init 243 = .ok (.putfield 104, 3) := by decide +kernel
theorem dX11_init_246 : decode cX11_init 246 = .ok (.return_, 1) := by decide +kernel
theorem dX12_init_0 : decode cX12_init 0 = .ok (.aload_n 0, 1) := by decide +kernel
theorem dX12_init_1 : decode cX12_init 1 = .ok (.invokespecial 3, 3) := by decide +kernel
theorem dX12_init_4 : decode cX12_init 4 = .ok (.aload_n 0, 1) := by decide +kernel
theorem dX12_init_5 : decode cX12_init 5 = .ok (.iconst (-1), 1) := by decide +kernel
theorem dX12_init_6 : decode cX12_init 6 = .ok (.putfield 9, 3) := by decide +kernel
theorem dX12_init_9 : decode cX12_init 9 = .ok (.aload_n 0, 1) := by decide +kernel
theorem dX12_init_10 : decode cX12_init 10 = .ok (.sipush 400, 3) := by decide +kernel
theorem dX12_init_13 : decode cX12_init 13 = .ok (.newarray .int, 2) := by decide +kernel
theorem dX12_init_15 : decode cX12_init 15 = .ok (.putfield 13, 3) := by decide +kernel
theorem dX12_init_18 : decode cX12_init 18 = .ok (.aload_n 0, 1) := by decide +kernel
theorem dX12_init_19 : decode cX12_init 19 = .ok (.ldc 17, 2) := by decide +kernel
theorem dX12_init_21 : decode cX12_init 21 = .ok (.newarray .int, 2) := by decide +kernel
theorem dX12_init_23 : decode cX12_init 23 = .ok (.putfield 18, 3) := by decide +kernel
theorem dX12_init_26 : decode cX12_init 26 = .ok (.aload_n 0, 1) := by decide +kernel
theorem dX12_init_27 : decode cX12_init 27 = .ok (.ldc 17, 2) := by decide +kernel
theorem dX12_init_29 : decode cX12_init 29 = .ok (.newarray .int, 2) := by decide +kernel
theorem dX12_init_31 : decode cX12_init 31 = .ok (.putfield 21, 3) := by decide +kernel
theorem dX12_init_34 : decode cX12_init 34 = .ok (.aload_n 0, 1) := by decide +kernel
theorem dX12_init_35 : decode cX12_init 35 = .ok (.ldc 17, 2) := by decide +kernel
theorem dX12_init_37 : decode cX12_init 37 = .ok (.newarray .int, 2) := by decide +kernel
theorem dX12_init_39 : decode cX12_init 39 = .ok (.putfield 24, 3) := by decide +kernel
theorem dX12_init_42 : decode cX12_init 42 = .ok (.aload_n 0, 1) := by decide +kernel
theorem dX12_init_43 : decode cX12_init 43 = .ok (.sipush 4096, 3) := by decide +kernel
theorem dX12_init_46 : decode cX12_init 46 = .ok (.newarray .int, 2) := by decide +kernel
theorem dX12_init_48 : decode cX12_init 48 = .ok (.putfield 27, 3) := by decide +kernel
theorem dX12_init_51 : decode cX12_init 51 = .ok (.aload_n 0, 1) := by decide +kernel
theorem dX12_init_52 : decode cX12_init 52 = .ok (.iconst 2, 1) := by decide +kernel
theorem dX12_init_53 : decode cX12_init 53 = .ok (.putfield 30, 3) := by decide +kernel
theorem dX12_init_56 : decode cX12_init 56 = .ok (.aload_n 0, 1) := by decide +kernel
theorem dX12_init_57 : decode cX12_init 57 = .ok (.bipush 10, 2) := by decide +kernel
theorem dX12_init_59 : decode cX12_init 59 = .ok (.newarray .long, 2) := by decide +kernel
theorem dX12_init_61 : decode cX12_init 61 = .ok (.putfield 33, 3) := by decide +kernel
theorem dX12_init_64 : decode cX12_init 64 = .ok (.aload_n 0, 1) := by decide +kernel
theorem dX12_init_65 : decode cX12_init 65 = .ok (.bipush 10, 2) := by decide +kernel
theorem dX12_init_67 : decode cX12_init 67 = .ok (.newarray .long, 2) := by decide +kernel
theorem dX12_init_69 : decode cX12_init 69 = .ok (.putfield 37, 3) := by decide +kernel
theorem dX12_init_72 : decode cX12_init 72 = .ok (.aload_n 0, 1) := by decide +kernel
theorem dX12_init_73 : decode cX12_init 73 = .ok (.bipush 60, 2) := by decide +kernel
theorem dX12_init_75 : decode cX12_init 75 = .ok (.newarray .long, 2) := by decide +kernel
theorem dX12_init_77 : decode cX12_init 77 = .ok (.putfield 40, 3) := by decide +kernel
theorem dX12_init_80 : decode cX12_init 80 = .ok (.aload_n 0, 1) := by decide +kernel
theorem dX12_init_81 : decode cX12_init 81 = .ok (.bipush 120, 2) := by decide +kernel
theorem dX12_init_83 : decode cX12_init 83 = .ok (.newarray .int, 2) := by decide +kernel
theorem dX12_init_85 : decode cX12_init 85 = .ok (.putfield 43, 3) := by decide +kernel
theorem dX12_init_88 : decode cX12_init 88 = .ok (.aload_n 0, 1) := by decide +kernel
theorem dX12_init_89 : decode cX12_init 89 = .ok (.bipush 10, 2) := by decide +kernel
theorem dX12_init_91 : decode cX12_init 91 = .ok (.newarray .int, 2) := by decide +kernel
theorem dX12_init_93 : decode cX12_init 93 = .ok (.putfield 46, 3) := by decide +kernel
theorem dX12_init_96 : decode cX12_init 96 = .ok (.aload_n 0, 1) := by decide +kernel
theorem dX12_init_97 : decode cX12_init 97 = .ok (.bipush 10, 2) := by decide +kernel
theorem dX12_init_99 : decode cX12_init 99 = .ok (.newarray .int, 2) := by decide +kernel
theorem dX12_init_101 : decode cX12_init 101 = .ok (.putfield 49, 3) := by decide +kernel
theorem dX12_init_104 : decode cX12_init 104 = .ok (.aload_n 0, 1) := by decide +kernel
theorem dX12_init_105 : decode cX12_init 105 = .ok (.sipush 900, 3) := by decide +kernel
theorem dX12_init_108 : decode cX12_init 108 = .ok (.newarray .int, 2) := by decide +kernel
theorem dX12_init_110 : decode cX12_init 110 = .ok (.putfield 52, 3) := by decide +kernel
theorem dX12_init_113 : decode cX12_init 113 = .ok (.aload_n 0, 1) := by decide +kernel
theorem dX12_init_114 : decode cX12_init 114 = .ok (.bipush 120, 2) := by decide +kernel
theorem dX12_init_116 : decode cX12_init 116 = .ok (.newarray .int, 2) := by decide +kernel
theorem dX12_init_118 : decode cX12_init 118 = .ok (.putfield 55, 3) := by decide +kernel
theorem dX12_init_121 : decode cX12_init 121 = .ok (.aload_n 0, 1) := by decide +kernel
theorem dX12_init_122 : decode cX12_init 122 = .ok (.bipush 120, 2) := by decide +kernel
theorem dX12_init_124 : decode cX12_init 124 = .ok (.newarray .long, 2) := by decide +kernel
theorem dX12_init_126 : decode cX12_init 126 = .ok (.putfield 58, 3) := by decide +kernel
theorem dX12_init_129 : decode cX12_init 129 = .ok (.aload_n 0, 1) := by decide +kernel
theorem dX12_init_130 : decode cX12_init 130 = .ok (.ldc 61, 2) := by decide +kernel
theorem dX12_init_132 : decode cX12_init 132 = .ok (.newarray .int, 2) := by decide +kernel
theorem dX12_init_134 : decode cX12_init 134 = .ok (.putfield 62, 3) := by decide +kernel
theorem dX12_init_137 : decode cX12_init 137 = .ok (.aload_n 0, 1) := by decide +kernel
theorem dX12_init_138 : decode cX12_init 138 = .ok (.sipush 2880, 3) := by decide +kernel
theorem dX12_init_141 : decode cX12_init 141 = .ok (.newarray .int, 2) := by decide +kernel
theorem dX12_init_143 : decode cX12_init 143 = .ok (.putfield 65, 3) := by decide +kernel
theorem dX12_init_146 : decode cX12_init 146 = .ok (.aload_n 0, 1) := by decide +kernel
theorem dX12_init_147 : decode cX12_init 147 = .ok (.sipush 300, 3) := by decide +kernel
theorem dX12_init_150 : decode cX12_init 150 = .ok (.newarray .int, 2) := by decide +kernel
theorem dX12_init_152 : decode cX12_init 152 = .ok (.putfield 68, 3) := by decide +kernel
theorem dX12_init_155 : decode cX12_init 155 = .ok (.aload_n 0, 1) := by decide +kernel
theorem dX12_init_156 : decode cX12_init 156 = .ok (.sipush 320, 3) := by decide +kernel
theorem dX12_init_159 : decode cX12_init 159 = .ok (.newarray .int, 2) := by decide +kernel
theorem dX12_init_161 : decode cX12_init 161 = .ok (.putfield 71, 3) := by decide +kernel
theorem dX12_init_164 : decode cX12_init 164 = .ok (.aload_n 0, 1) := by decide +kernel
theorem dX12_init_165 : decode cX12_init 165 = .ok (.bipush 60, 2) := by decide +kernel
theorem dX12_init_167 : decode cX12_init 167 = .ok (.newarray .int, 2) := by decide +kernel
theorem dX12_init_169 : decode cX12_init 169 = .ok (.putfield 74, 3) := by decide +kernel
theorem dX12_init_172 : decode cX12_init 172 = .ok (.aload_n 0, 1) := by decide +kernel
theorem dX12_init_173 : decode cX12_init 173 = .ok (.bipush 60, 2) := by decide +kernel
theorem dX12_init_175 : decode cX12_init 175 = .ok (.putfield 77, 3) := by decide +kernel
theorem dX12_init_178 : decode cX12_init 178 = .ok (.aload_n 0, 1) := by decide +kernel
theorem dX12_init_179 : decode cX12_init 179 = .ok (.bipush 120, 2) := by decide +kernel
theorem dX12_init_181 : decode cX12_init 181 = .ok (.newarray .int, 2) := by decide +kernel
theorem dX12_init_183 : decode cX12_init 183 = .ok (.putfield 80, 3) := by decide +kernel
theorem dX12_init_186 : decode cX12_init 186 = .ok (.aload_n 0, 1) := by decide +kernel
theorem dX12_init_187 : decode cX12_init 187 = .ok (.ldc 83, 2) := by decide +kernel
theorem dX12_init_189 : decode cX12_init 189 = .ok (.newarray .int, 2) := by decide +kernel
theorem dX12_init_191 : decode cX12_init 191 = .ok (.putfield 84, 3) := by decide +kernel
theorem dX12_init_194 : decode cX12_init 194 = .ok (.aload_n 0, 1) := by decide +kernel
theorem dX12_init_195 : decode cX12_init 195 = .ok (.iconst 3, 1) := by decide +kernel
theorem dX12_init_196 : decode cX12_init 196 = .ok (.newarray .int, 2) := by decide +kernel
theorem dX12_init_198 : decode cX12_init 198 = .ok (.putfield 87, 3) := by decide +kernel
theorem dX12_init_201 : decode cX12_init 201 = .ok (.aload_n 0, 1) := by decide +kernel
theorem dX12_init_202 : decode cX12_init 202 = .ok (.bipush 10, 2) := by decide +kernel
theorem dX12_init_204 : decode cX12_init 204 = .ok (.newarray .int, 2) := by decide +kernel
theorem dX12_init_206 : decode cX12_init 206 = .ok (.putfield 90, 3) := by decide +kernel
theorem dX12_init_209 : decode cX12_init 209 = .ok (.aload_n 0, 1) := by decide +kernel
theorem dX12_init_210 : decode cX12_init 210 = .ok (.bipush 10, 2) := by decide +kernel
theorem dX12_init_212 : decode cX12_init 212 = .ok (.newarray .int, 2) := by decide +kernel
theorem dX12_init_214 : decode cX12_init 214 = .ok (.putfield 93, 3) := by decide +kernel
theorem dX12_init_217 : decode cX12_init 217 = .ok (.aload_n 0, 1) := by decide +kernel
theorem dX12_init_218 : decode cX12_init 218 = .ok (.sipush 420, 3) := by decide +kernel
theorem dX12_init_221 : decode cX12_init 221 = .ok (.newarray .int, 2) := by decide +kernel
theorem dX12_init_223 : decode cX12_init 223 = .ok (.putfield 96, 3) := by decide +kernel
theorem dX12_init_226 : decode cX12_init 226 = .ok (.aload_n 0, 1) := by decide +kernel
theorem dX12_init_227 : decode cX12_init 227 = .ok (.sipush 420, 3) := by decide +kernel
theorem dX12_init_230 : decode cX12_init 230 = .ok (.newarray .int, 2) := by decide +kernel
theorem dX12_init_232 : decode cX12_init 232 = .ok (.putfield 99, 3) := by decide +kernel
theorem dX12_init_235 : decode cX12_init 235 = .ok (.aload_n 0, 1) := by decide +kernel
theorem dX12_init_236 : decode cX12_init 236 = .ok (.sipush 420, 3) := by decide +kernel
theorem dX12_init_239 : decode cX12_init 239 = .ok (.newarray .int, 2) := by decide +kernel
theorem dX12_init_241 : decode cX12_init 241 = .ok (.putfield 102, 3) := by decide +kernel
theorem dX12_init_244 : decode cX12_init 244 = .ok (.aload_n 0, 1) := by decide +kernel
theorem dX12_init_245 : decode cX12_init 245 = .ok (.bipush 10, 2) := by decide +kernel
theorem dX12_init_247 : decode cX12_init 247 = .ok (.newarray .int, 2) := by decide +kernel
theorem dX12_init_249 : decode cX12_init 249 = .ok (.putfield 105, 3) := by decide +kernel
theorem dX12_init_252 : decode cX12_init 252 = .ok (.return_, 1) := by decide +kernel
theorem dX1_init_0 : decode cX1_init 0 = .ok (.aload_n 0, 1) := by decide +kernel
theorem dX1_init_1 : decode cX1_init 1 = .ok (.invokespecial 3, 3) := by decide +kernel
theorem dX1_init_4 : decode cX1_init 4 = .ok (.aload_n 0, 1) := by decide +kernel
theorem dX1_init_5 : decode cX1_init 5 = .ok (.sipush 400, 3) := by decide +kernel
theorem dX1_init_8 : decode cX1_init 8 = .ok (.newarray .int, 2) := by decide +kernel
theorem dX1_init_10 : decode cX1_init 10 = .ok (.putfield 9, 3) := by decide +kernel
theorem dX1_init_13 : decode cX1_init 13 = .ok (.aload_n 0, 1) := by decide +kernel
theorem dX1_init_14 : decode cX1_init 14 = .ok (.sipush 400, 3) := by decide +kernel
theorem dX1_init_17 : decode cX1_init 17 = .ok (.newarray .int, 2) := by decide +kernel
theorem dX1_init_19 : decode cX1_init 19 = .ok (.putfield 15, 3) := by decide +kernel
theorem dX1_init_22 : decode cX1_init 22 = .ok (.aload_n 0, 1) := by decide +kernel
theorem dX1_init_23 : decode cX1_init 23 = .ok (.sipush 400, 3) := by decide +kernel
theorem dX1_init_26 : decode cX1_init 26 = .ok (.newarray .int, 2) := by decide +kernel
theorem dX1_init_28 : decode cX1_init 28 = .ok (.putfield 18, 3) := by decide +kernel
theorem dX1_init_31 : decode cX1_init 31 = .ok (.aload_n 0, 1) := by decide +kernel
theorem dX1_init_32 : decode cX1_init 32 = .ok (.aload_n 1, 1) := by decide +kernel
theorem dX1_init_33 : decode cX1_init 33 = .ok (.putfield 21, 3) := by decide +kernel
theorem dX1_init_36 : decode cX1_init 36 = .ok (.aload_n 0, 1) := by decide +kernel
theorem dX1_init_37 : decode cX1_init 37 = .ok (.aload_n 2, 1) := by decide +kernel
theorem dX1_init_38 : decode cX1_init 38 = .ok (.putfield 25, 3) := by decide +kernel
theorem dX1_init_41 : decode cX1_init 41 = .ok (.return_, 1) := by decide +kernel
theorem dX2_init_0 : decode cX2_init 0 = .ok (.aload_n 0, 1) := by decide +kernel
theorem dX2_init_1 : decode cX2_init 1 = .ok (.invokespecial 3, 3) := by decide +kernel
theorem dX2_init_4 : decode cX2_init 4 = .ok (.aload_n 0, 1) := by decide +kernel
theorem dX2_init_5 : decode cX2_init 5 = .ok (.bipush 64, 2) := by decide +kernel
theorem dX2_init_7 : decode cX2_init 7 = .ok (.newarray .int, 2) := by decide +kernel
theorem dX2_init_9 : decode cX2_init 9 = .ok (.putfield 11, 3) := by decide +kernel
theorem dX2_init_12 : decode cX2_init 12 = .ok (.aload_n 0, 1) := by decide +kernel
theorem dX2_init_13 : decode cX2_init 13 = .ok (.bipush 64, 2) := by decide +kernel
theorem dX2_init_15 : decode cX2_init 15 = .ok (.newarray .int, 2) := by decide +kernel
theorem dX2_init_17 : decode cX2_init 17 = .ok (.putfield 15, 3) := by decide +kernel
theorem dX2_init_20 : decode cX2_init 20 = .ok (.aload_n 0, 1) := by decide +kernel
theorem dX2_init_21 : decode cX2_init 21 = .ok (.bipush 64, 2) := by decide +kernel
theorem dX2_init_23 : decode cX2_init 23 = .ok (.newarray .int, 2) := by decide +kernel
theorem dX2_init_25 : decode cX2_init 25 = .ok (.putfield 18, 3) := by decide +kernel
theorem dX2_init_28 : decode cX2_init 28 = .ok (.aload_n 0, 1) := by decide +kernel
theorem dX2_init_29 : decode cX2_init 29 = .ok (.bipush 64, 2) := by decide +kernel
theorem dX2_init_31 : decode cX2_init 31 = .ok (.newarray .int, 2) := by decide +kernel
theorem dX2_init_33 : decode cX2_init 33 = .ok (.putfield 21, 3) := by decide +kernel
theorem dX2_init_36 : decode cX2_init 36 = .ok (.aload_n 0, 1) := by decide +kernel
theorem dX2_init_37 : decode cX2_init 37 = .ok (.bipush 10, 2) := by decide +kernel
theorem dX2_init_39 : decode cX2_init 39 = .ok (.newarray .int, 2) := by decide +kernel
theorem dX2_init_41 : decode cX2_init 41 = .ok (.putfield 24, 3) := by decide +kernel
theorem dX2_init_44 : decode cX2_init 44 = .ok (.aload_n 0, 1) := by decide +kernel
theorem dX2_init_45 : decode cX2_init 45 = .ok (.aload_n 1, 1) := by decide +kernel
theorem dX2_init_46 : decode cX2_init 46 = .ok (.putfield 27, 3) := by decide +kernel
theorem dX2_init_49 : decode cX2_init 49 = .ok (.aload_n 0, 1) := by decide +kernel
theorem dX2_init_50 : decode cX2_init 50 = .ok (.aload_n 2, 1) := by decide +kernel
theorem dX2_init_51 : decode cX2_init 51 = .ok (.putfield 31, 3) := by decide +kernel
theorem dX2_init_54 : decode cX2_init 54 = .ok (.aload_n 0, 1) := by decide +kernel
theorem dX2_init_55 : decode cX2_init 55 = .ok (.aload_n 3, 1) := by decide +kernel
theorem dX2_init_56 : decode cX2_init 56 = .ok (.putfield 35, 3) := by decide +kernel
theorem dX2_init_59 : decode cX2_init 59 = .ok (.aload_n 0, 1) := by decide +kernel
theorem dX2_init_60 : decode cX2_init 60 = .ok (.aload 4, 2) := by decide +kernel
theorem dX2_init_62 : decode cX2_init 62 = .ok (.putfield 39, 3) := by decide +kernel
theorem dX2_init_65 : decode cX2_init 65 = .ok (.aload_n 0, 1) := by decide +kernel
theorem dX2_init_66 : decode cX2_init 66 = .ok (.aload 5, 2) := by decide +kernel
theorem dX2_init_68 : decode cX2_init 68 = .ok (.putfield 43, 3) := by decide +kernel
theorem dX2_init_71 : decode cX2_init 71 = .ok (.return_, 1) := by decide +kernel
theorem dX3_init_0 : decode cX3_init 0 = .ok (.aload_n 0, 1) := by decide +kernel
theorem dX3_init_1 : decode cX3_init 1 = .ok (.invokespecial 3, 3) := by decide +kernel
theorem dX3_init_4 : decode cX3_init 4 = .ok (.aload_n 0, 1) := by decide +kernel
theorem dX3_init_5 : decode cX3_init 5 = .ok (.bipush 10, 2) := by decide +kernel
theorem dX3_init_7 : decode cX3_init 7 = .ok (.newarray .int, 2) := by decide +kernel
theorem dX3_init_9 : decode cX3_init 9 = .ok (.putfield 9, 3) := by decide +kernel
theorem dX3_init_12 : decode cX3_init 12 = .ok (.aload_n 0, 1) := by decide +kernel
theorem dX3_init_13 : decode cX3_init 13 = .ok (.bipush 10, 2) := by decide +kernel
theorem dX3_init_15 : decode cX3_init 15 = .ok (.newarray .int, 2) := by decide +kernel
theorem dX3_init_17 : decode cX3_init 17 = .ok (.putfield 15, 3) := by decide +kernel
theorem dX3_init_20 : decode cX3_init 20 = .ok (.aload_n 0, 1) := by decide +kernel
theorem dX3_init_21 : decode cX3_init 21 = .ok (.bipush 16, 2) := by decide +kernel
theorem dX3_init_23 : decode cX3_init 23 = .ok (.newarray .int, 2) := by decide +kernel
theorem dX3_init_25 : decode cX3_init 25 = .ok (.putfield 18, 3) := by decide +kernel
theorem dX3_init_28 : decode cX3_init 28 = .ok (.aload_n 0, 1) := by decide +kernel
theorem dX3_init_29 : decode cX3_init 29 = .ok (.aload_n 1, 1) := by decide +kernel
theorem dX3_init_30 : decode cX3_init 30 = .ok (.putfield 21, 3) := by decide +kernel
theorem dX3_init_33 : decode cX3_init 33 = .ok (.aload_n 0, 1) := by decide +kernel
theorem dX3_init_34 : decode cX3_init 34 = .ok (.aload_n 2, 1) := by decide +kernel
theorem dX3_init_35 : decode cX3_init 35 = .ok (.putfield 25, 3) := by decide +kernel
theorem dX3_init_38 : decode cX3_init 38 = .ok (.aload_n 0, 1) := by decide +kernel
theorem dX3_init_39 : decode cX3_init 39 = .ok (.aload_n 3, 1) := by decide +kernel
theorem dX3_init_40 : decode cX3_init 40 = .ok (.putfield 29, 3) := by decide +kernel
theorem dX3_init_43 : decode cX3_init 43 = .ok (.return_, 1) := by decide +kernel
theorem dX4_init_0 : decode cX4_init 0 = .ok (.aload_n 0, 1) := by decide +kernel
theorem dX4_init_1 : decode cX4_init 1 = .ok (.invokespecial 3, 3) := by decide +kernel
theorem dX4_init_4 : decode cX4_init 4 = .ok (.aload_n 0, 1) := by decide +kernel
theorem dX4_init_5 : decode cX4_init 5 = .ok (.aload_n 1, 1) := by decide +kernel
theorem dX4_init_6 : decode cX4_init 6 = .ok (.putfield 9, 3) := by decide +kernel
theorem dX4_init_9 : decode cX4_init 9 = .ok (.aload_n 0, 1) := by decide +kernel
theorem dX4_init_10 : decode cX4_init 10 = .ok (.aload_n 2, 1) := by decide +kernel
theorem dX4_init_11 : decode cX4_init 11 = .ok (.putfield 15, 3) := by decide +kernel
theorem dX4_init_14 : decode cX4_init 14 = .ok (.aload_n 0, 1) := by decide +kernel
theorem dX4_init_15 : decode cX4_init 15 = .ok (.aload_n 3, 1) := by decide +kernel
theorem dX4_init_16 : decode cX4_init 16 = .ok (.putfield 19, 3) := by decide +kernel
theorem dX4_init_19 : decode cX4_init 19 = .ok (.aload_n 0, 1) := by decide +kernel
theorem dX4_init_20 : decode cX4_init 20 = .ok (.aload 4, 2) := by decide +kernel
theorem dX4_init_22 : decode cX4_init 22 = .ok (.putfield 23, 3) := by decide +kernel
theorem dX4_init_25 : decode cX4_init 25 = .ok (.aload_n 0, 1) := by decide +kernel
theorem dX4_init_26 : decode cX4_init 26 = .ok (.aload 5, 2) := by decide +kernel
theorem dX4_init_28 : decode cX4_init 28 = .ok (.putfield 27, 3) := by decide +kernel
theorem dX4_init_31 : decode cX4_init 31 = .ok (.aload_n 0, 1) := by decide +kernel
theorem dX4_init_32 : decode cX4_init 32 = .ok (.aload 6, 2) := by decide +kernel
theorem dX4_init_34 : decode cX4_init 34 = .ok (.putfield 31, 3) := by decide +kernel
theorem dX4_init_37 : decode cX4_init 37 = .ok (.return_, 1) := by decide +kernel
theorem dX5_init_0 : decode cX5_init 0 = .ok (.aload_n 0, 1) := by decide +kernel
theorem dX5_init_1 : decode cX5_init 1 = .ok (.invokespecial 3, 3) := by decide +kernel
theorem dX5_init_4 : decode cX5_init 4 = .ok (.aload_n 0, 1) := by decide +kernel
theorem dX5_init_5 : decode cX5_init 5 = .ok (.aload_n 1, 1) := by decide +kernel
theorem dX5_init_6 : decode cX5_init 6 = .ok (.putfield 9, 3) := by decide +kernel
theorem dX5_init_9 : decode cX5_init 9 = .ok (.aload_n 0, 1) := by decide +kernel
theorem dX5_init_10 : decode cX5_init 10 = .ok (.aload_n 2, 1) := by decide +kernel
theorem dX5_init_11 : decode cX5_init 11 = .ok (.putfield 15, 3) := by decide +kernel
theorem dX5_init_14 : decode cX5_init 14 = .ok (.aload_n 0, 1) := by decide +kernel
theorem dX5_init_15 : decode cX5_init 15 = .ok (.aload_n 3, 1) := by decide +kernel
theorem dX5_init_16 : decode cX5_init 16 = .ok (.putfield 19, 3) := by decide +kernel
theorem dX5_init_19 : decode cX5_init 19 = .ok (.return_, 1) := by decide +kernel
theorem dX6_init_0 : decode cX6_init 0 = .ok (.aload_n 0, 1) := by decide +kernel
theorem dX6_init_1 : decode cX6_init 1 = .ok (.invokespecial 3, 3) := by decide +kernel
theorem dX6_init_4 : decode cX6_init 4 = .ok (.aload_n 0, 1) := by decide +kernel
theorem dX6_init_5 : decode cX6_init 5 = .ok (.bipush 12, 2) := by decide +kernel
theorem dX6_init_7 : decode cX6_init 7 = .ok (.newarray .int, 2) := by decide +kernel
theorem dX6_init_9 : decode cX6_init 9 = .ok (.putfield 9, 3) := by decide +kernel
theorem dX6_init_12 : decode cX6_init 12 = .ok (.aload_n 0, 1) := by decide +kernel
theorem dX6_init_13 : decode cX6_init 13 = .ok (.bipush 12, 2) := by decide +kernel
theorem dX6_init_15 : decode cX6_init 15 = .ok (.newarray .int, 2) := by decide +kernel
theorem dX6_init_17 : decode cX6_init 17 = .ok (.putfield 15, 3) := by decide +kernel
theorem dX6_init_20 : decode cX6_init 20 = .ok (.aload_n 0, 1) := by decide +kernel
theorem dX6_init_21 : decode cX6_init 21 = .ok (.sipush 400, 3) := by decide +kernel
theorem dX6_init_24 : decode cX6_init 24 = .ok (.newarray .int, 2) := by decide +kernel
theorem dX6_init_26 : decode cX6_init 26 = .ok (.putfield 18, 3) := by decide +kernel
theorem dX6_init_29 : decode cX6_init 29 = .ok (.aload_n 0, 1) := by decide +kernel
theorem dX6_init_30 : decode cX6_init 30 = .ok (.aload_n 1, 1) := by decide +kernel
theorem dX6_init_31 : decode cX6_init 31 = .ok (.putfield 21, 3) := by decide +kernel
theorem dX6_init_34 : decode cX6_init 34 = .ok (.aload_n 0, 1) := by decide +kernel
theorem dX6_init_35 : decode cX6_init 35 = .ok (.aload_n 2, 1) := by decide +kernel
theorem dX6_init_36 : decode cX6_init 36 = .ok (.putfield 25, 3) := by decide +kernel
theorem dX6_init_39 : decode cX6_init 39 = .ok (.aload_n 0, 1) := by decide +kernel
theorem dX6_init_40 : decode cX6_init 40 = .ok (.aload_n 3, 1) := by decide +kernel
theorem dX6_init_41 : decode cX6_init 41 = .ok (.putfield 29, 3) := by decide +kernel
theorem dX6_init_44 : decode cX6_init 44 = .ok (.aload_n 0, 1) := by decide +kernel
theorem dX6_init_45 : decode cX6_init 45 = .ok (.aload 4, 2) := by decide +kernel
theorem dX6_init_47 : decode cX6_init 47 = .ok (.putfield 33, 3) := by decide +kernel
theorem dX6_init_50 : decode cX6_init 50 = .ok (.return_, 1) := by decide +kernel
theorem dX7_init_0 : decode cX7_init 0 = .ok (.aload_n 0, 1) := by decide +kernel
theorem dX7_init_1 : decode cX7_init 1 = .ok (.invokespecial 3, 3) := by decide +kernel
theorem dX7_init_4 : decode cX7_init 4 = .ok (.aload_n 0, 1) := by decide +kernel
theorem dX7_init_5 : decode cX7_init 5 = .ok (.aload_n 1, 1) := by decide +kernel
theorem dX7_init_6 : decode cX7_init 6 = .ok (.putfield 9, 3) := by decide +kernel
theorem dX7_init_9 : decode cX7_init 9 = .ok (.return_, 1) := by decide +kernel
theorem dX8_init_0 : decode cX8_init 0 = .ok (.aload_n 0, 1) := by decide +kernel
theorem dX8_init_1 : decode cX8_init 1 = .ok (.invokespecial 3, 3) := by decide +kernel
theorem dX8_init_4 : decode cX8_init 4 = .ok (.aload_n 0, 1) := by decide +kernel
theorem dX8_init_5 : decode cX8_init 5 = .ok (.bipush 25, 2) := by decide +kernel
theorem dX8_init_7 : decode cX8_init 7 = .ok (.newarray .int, 2) := by decide +kernel
theorem dX8_init_9 : decode cX8_init 9 = .ok (.putfield 11, 3) := by decide +kernel
theorem dX8_init_12 : decode cX8_init 12 = .ok (.aload_n 0, 1) := by decide +kernel
theorem dX8_init_13 : decode cX8_init 13 = .ok (.sipush 401, 3) := by decide +kernel
theorem dX8_init_16 : decode cX8_init 16 = .ok (.newarray .int, 2) := by decide +kernel
theorem dX8_init_18 : decode cX8_init 18 = .ok (.putfield 15, 3) := by decide +kernel
theorem dX8_init_21 : decode cX8_init 21 = .ok (.aload_n 0, 1) := by decide +kernel
theorem dX8_init_22 : decode cX8_init 22 = .ok (.sipush 401, 3) := by decide +kernel
theorem dX8_init_25 : decode cX8_init 25 = .ok (.newarray .int, 2) := by decide +kernel
theorem dX8_init_27 : decode cX8_init 27 = .ok (.putfield 18, 3) := by decide +kernel
theorem dX8_init_30 : decode cX8_init 30 = .ok (.aload_n 0, 1) := by decide +kernel
theorem dX8_init_31 : decode cX8_init 31 = .ok (.sipush 401, 3) := by decide +kernel
theorem dX8_init_34 : decode cX8_init 34 = .ok (.newarray .int, 2) := by decide +kernel
theorem dX8_init_36 : decode cX8_init 36 = .ok (.putfield 21, 3) := by decide +kernel
theorem dX8_init_39 : decode cX8_init 39 = .ok (.aload_n 0, 1) := by decide +kernel
theorem dX8_init_40 : decode cX8_init 40 = .ok (.aload_n 1, 1) := by decide +kernel
theorem dX8_init_41 : decode cX8_init 41 = .ok (.putfield 24, 3) := by decide +kernel
theorem dX8_init_44 : decode cX8_init 44 = .ok (.iconst 0, 1) := by decide +kernel
theorem dX8_init_45 : decode cX8_init 45 = .ok (.istore_n 2, 1) := by decide +kernel
theorem dX8_init_46 : decode cX8_init 46 = .ok (.iconst 0, 1) := by decide +kernel
theorem dX8_init_47 : decode cX8_init 47 = .ok (.istore_n 3, 1) := by decide +kernel
theorem dX8_init_48 : decode cX8_init 48 = .ok (.iconst 0, 1) := by decide +kernel
theorem dX8_init_49 : decode cX8_init 49 = .ok (.istore 4, 2) := by decide +kernel
theorem dX8_init_51 : decode cX8_init 51 = .ok (.iconst 0, 1) := by decide +kernel
theorem dX8_init_52 : decode cX8_init 52 = .ok (.istore 5, 2) := by decide +kernel
theorem dX8_init_54 : decode cX8_init 54 = .ok (.iload 5, 2) := by decide +kernel
theorem dX8_init_56 : decode cX8_init 56 = .ok (.ldc 27, 2) := by decide +kernel
theorem dX8_init_58 : decode cX8_init 58 = .ok (.invokevirtual 29, 3) := by decide +kernel
theorem dX8_init_61 : decode cX8_init 61 = .ok (.if_icmp .ge 72, 3) := by decide +kernel
theorem dX8_init_64 : decode cX8_init 64 = .ok (.ldc 27, 2) := by decide +kernel
theorem dX8_init_66 : decode cX8_init 66 = .ok (.iload 5, 2) := by decide +kernel
theorem dX8_init_68 : decode cX8_init 68 = .ok (.invokevirtual 35, 3) := by decide +kernel
theorem dX8_init_71 : decode cX8_init 71 = .ok (.istore 6, 2) := by decide +kernel
theorem dX8_init_73 : decode cX8_init 73 = .ok (.iload 6, 2) := by decide +kernel
theorem dX8_init_75 : decode cX8_init 75 = .ok (.invokestatic 39, 3) := by decide +kernel
theorem dX8_init_78 : decode cX8_init 78 = .ok (.ifCond .eq 20, 3) := by decide +kernel
theorem dX8_init_81 : decode cX8_init 81 = .ok (.iload_n 3, 1) := by decide +kernel
theorem dX8_init_82 : decode cX8_init 82 = .ok (.bipush 27, 2) := by decide +kernel
theorem dX8_init_84 : decode cX8_init 84 = .ok (.imul, 1) := by decide +kernel
theorem dX8_init_85 : decode cX8_init 85 = .ok (.iload 6, 2) := by decide +kernel
theorem dX8_init_87 : decode cX8_init 87 = .ok (.iadd, 1) := by decide +kernel
theorem dX8_init_88 : decode cX8_init 88 = .ok (.bipush 96, 2) := by decide +kernel
theorem dX8_init_90 : decode cX8_init 90 = .ok (.isub, 1) := by decide +kernel
theorem dX8_init_91 : decode cX8_init 91 = .ok (.istore_n 3, 1) := by decide +kernel
theorem dX8_init_92 : decode cX8_init 92 = .ok (.iinc 4 1, 3) := by decide +kernel
theorem dX8_init_95 : decode cX8_init 95 = .ok (.goto 32, 3) := by decide +kernel
theorem dX8_init_98 : decode cX8_init 98 = .ok (.iload_n 2, 1) := by decide +kernel
theorem dX8_init_99 : decode cX8_init 99 = .ok (.aload_n 0, 1) := by decide +kernel
theorem dX8_init_100 : decode cX8_init 100 = .ok (.getfield 11, 3) := by decide +kernel
theorem dX8_init_103 : decode cX8_init 103 = .ok (.arraylength, 1) := by decide +kernel
theorem dX8_init_104 : decode cX8_init 104 = .ok (.if_icmp .ge 23, 3) := by decide +kernel
theorem dX8_init_107 : decode cX8_init 107 = .ok (.aload_n 0, 1) := by decide +kernel
theorem dX8_init_108 : decode cX8_init 108 = .ok (.getfield 11, 3) := by decide +kernel
theorem dX8_init_111 : decode cX8_init 111 = .ok (.iload_n 2, 1) := by decide +kernel
theorem dX8_init_112 : decode cX8_init 112 = .ok (.iload_n 3, 1) := by decide +kernel
theorem dX8_init_113 : decode cX8_init 113 = .ok (.iload 4, 2) := by decide +kernel
theorem dX8_init_115 : decode cX8_init 115 = .ok (.invokestatic 43, 3) := by decide +kernel
theorem dX8_init_118 : decode cX8_init 118 = .ok (.iastore, 1) := by decide +kernel
theorem dX8_init_119 : decode cX8_init 119 = .ok (.iinc 2 1, 3) := by decide +kernel
theorem dX8_init_122 : decode cX8_init 122 = .ok (.iconst 0, 1) := by decide +kernel
theorem dX8_init_123 : decode cX8_init 123 = .ok (.istore_n 3, 1) := by decide +kernel
theorem dX8_init_124 : decode cX8_init 124 = .ok (.iconst 0, 1) := by decide +kernel
theorem dX8_init_125 : decode cX8_init 125 = .ok (.istore 4, 2) := by decide +kernel
theorem dX8_init_127 : decode cX8_init 127 = .ok (.iinc 5 1, 3) := by decide +kernel
theorem dX8_init_130 : decode cX8_init 130 = .ok (.goto (-76), 3) := by decide +kernel
theorem dX8_init_133 : decode cX8_init 133 = .ok (.return_, 1) := by decide +kernel
theorem dX8_isLetter_0 : decode cX8_isLetter 0 = .ok (.iload_n 0, 1) := by decide +kernel
theorem dX8_isLetter_1 : decode cX8_isLetter 1 = .ok (.bipush 97, 2) := by decide +kernel
theorem dX8_isLetter_3 : decode cX8_isLetter 3 = .ok (.if_icmp .lt 13, 3) := by decide +kernel
theorem dX8_isLetter_6 : decode cX8_isLetter 6 = .ok (.iload_n 0, 1) := by decide +kernel
theorem dX8_isLetter_7 : decode cX8_isLetter 7 = .ok (.bipush 122, 2) := by decide +kernel
theorem dX8_isLetter_9 : decode cX8_isLetter 9 = .ok (.if_icmp .gt 7, 3) := by decide +kernel
theorem dX8_isLetter_12 : decode cX8_isLetter 12 = .ok (.iconst 1, 1) := by decide +kernel
theorem dX8_isLetter_13 : decode cX8_isLetter 13 = .ok (.goto 4, 3) := by decide +kernel
theorem dX8_isLetter_16 : decode cX8_isLetter 16 = .ok (.iconst 0, 1) := by decide +kernel
theorem dX8_isLetter_17 : decode cX8_isLetter 17 = .ok (.ireturn, 1) := by decide +kernel
theorem dX8_padded_0 : decode cX8_padded 0 = .ok (.iload_n 0, 1) := by decide +kernel
theorem dX8_padded_1 : decode cX8_padded 1 = .ok (.istore_n 2, 1) := by decide +kernel
theorem dX8_padded_2 : decode cX8_padded 2 = .ok (.iload_n 1, 1) := by decide +kernel
theorem dX8_padded_3 : decode cX8_padded 3 = .ok (.istore_n 3, 1) := by decide +kernel
theorem dX8_padded_4 : decode cX8_padded 4 = .ok (.iload_n 3, 1) := by decide +kernel
theorem dX8_padded_5 : decode cX8_padded 5 = .ok (.bipush 6, 2) := by decide +kernel
theorem dX8_padded_7 : decode cX8_padded 7 = .ok (.if_icmp .ge 14, 3) := by decide +kernel
theorem dX8_padded_10 : decode cX8_padded 10 = .ok (.iload_n 2, 1) := by decide +kernel
theorem dX8_padded_11 : decode cX8_padded 11 = .ok (.bipush 27, 2) := by decide +kernel
theorem dX8_padded_13 : decode cX8_padded 13 = .ok (.imul, 1) := by decide +kernel
theorem dX8_padded_14 : decode cX8_padded 14 = .ok (.istore_n 2, 1) := by decide +kernel
theorem dX8_padded_15 : decode cX8_padded 15 = .ok (.iinc 3 1, 3) := by decide +kernel
theorem dX8_padded_18 : decode cX8_padded 18 = .ok (.goto (-14), 3) := by decide +kernel
theorem dX8_padded_21 : decode cX8_padded 21 = .ok (.iload_n 2, 1) := by decide +kernel
theorem dX8_padded_22 : decode cX8_padded 22 = .ok (.ireturn, 1) := by decide +kernel
theorem dX9_init_0 : decode cX9_init 0 = .ok (.aload_n 0, 1) := by decide +kernel
theorem dX9_init_1 : decode cX9_init 1 = .ok (.invokespecial 3, 3) := by decide +kernel
theorem dX9_init_4 : decode cX9_init 4 = .ok (.aload_n 0, 1) := by decide +kernel
theorem dX9_init_5 : decode cX9_init 5 = .ok (.bipush 10, 2) := by decide +kernel
theorem dX9_init_7 : decode cX9_init 7 = .ok (.newarray .int, 2) := by decide +kernel
theorem dX9_init_9 : decode cX9_init 9 = .ok (.putfield 9, 3) := by decide +kernel
theorem dX9_init_12 : decode cX9_init 12 = .ok (.aload_n 0, 1) := by decide +kernel
theorem dX9_init_13 : decode cX9_init 13 = .ok (.bipush 10, 2) := by decide +kernel
theorem dX9_init_15 : decode cX9_init 15 = .ok (.newarray .int, 2) := by decide +kernel
theorem dX9_init_17 : decode cX9_init 17 = .ok (.putfield 15, 3) := by decide +kernel
theorem dX9_init_20 : decode cX9_init 20 = .ok (.aload_n 0, 1) := by decide +kernel
theorem dX9_init_21 : decode cX9_init 21 = .ok (.bipush 10, 2) := by decide +kernel
theorem dX9_init_23 : decode cX9_init 23 = .ok (.newarray .int, 2) := by decide +kernel
theorem dX9_init_25 : decode cX9_init 25 = .ok (.putfield 18, 3) := by decide +kernel
theorem dX9_init_28 : decode cX9_init 28 = .ok (.aload_n 0, 1) := by decide +kernel
theorem dX9_init_29 : decode cX9_init 29 = .ok (.bipush 10, 2) := by decide +kernel
theorem dX9_init_31 : decode cX9_init 31 = .ok (.newarray .int, 2) := by decide +kernel
theorem dX9_init_33 : decode cX9_init 33 = .ok (.putfield 21, 3) := by decide +kernel
theorem dX9_init_36 : decode cX9_init 36 = .ok (.aload_n 0, 1) := by decide +kernel
theorem dX9_init_37 : decode cX9_init 37 = .ok (.bipush 10, 2) := by decide +kernel
theorem dX9_init_39 : decode cX9_init 39 = .ok (.newarray .int, 2) := by decide +kernel
theorem dX9_init_41 : decode cX9_init 41 = .ok (.putfield 24, 3) := by decide +kernel
theorem dX9_init_44 : decode cX9_init 44 = .ok (.aload_n 0, 1) := by decide +kernel
theorem dX9_init_45 : decode cX9_init 45 = .ok (.bipush 60, 2) := by decide +kernel
theorem dX9_init_47 : decode cX9_init 47 = .ok (.newarray .int, 2) := by decide +kernel
theorem dX9_init_49 : decode cX9_init 49 = .ok (.putfield 27, 3) := by decide +kernel
theorem dX9_init_52 : decode cX9_init 52 = .ok (.aload_n 0, 1) := by decide +kernel
theorem dX9_init_53 : decode cX9_init 53 = .ok (.bipush 60, 2) := by decide +kernel
theorem dX9_init_55 : decode cX9_init 55 = .ok (.newarray .int, 2) := by decide +kernel
theorem dX9_init_57 : decode cX9_init 57 = .ok (.putfield 30, 3) := by decide +kernel
theorem dX9_init_60 : decode cX9_init 60 = .ok (.aload_n 0, 1) := by decide +kernel
theorem dX9_init_61 : decode cX9_init 61 = .ok (.bipush 60, 2) := by decide +kernel
theorem dX9_init_63 : decode cX9_init 63 = .ok (.newarray .int, 2) := by decide +kernel
theorem dX9_init_65 : decode cX9_init 65 = .ok (.putfield 33, 3) := by decide +kernel
theorem dX9_init_68 : decode cX9_init 68 = .ok (.aload_n 0, 1) := by decide +kernel
theorem dX9_init_69 : decode cX9_init 69 = .ok (.aload_n 1, 1) := by decide +kernel
theorem dX9_init_70 : decode cX9_init 70 = .ok (.putfield 36, 3) := by decide +kernel
theorem dX9_init_73 : decode cX9_init 73 = .ok (.return_, 1) := by decide +kernel
end
section
/-- a private method of a class that the tables say can be made, by its rows of tables_1 -/
def lw_okq (q : MethodName × Nat) : Prop := (q.1.cls ≠ "java/lang/invoke/MethodHandle" ∧ q.1.cls ≠ "java/lang/invoke/VarHandle") ∧ Cond.instantiable q.1.cls q.2 ∈ tables_1 ∧ Cond.privateMethod q.1 ∈ tables_1 ∧ Cond.instanceMethod q.1 ∈ tables_1
theorem lw_p0 : lw_okq (⟨"TenRules$Arena", "link", "(I)V"⟩, 14) := ⟨⟨by decide +kernel, by decide +kernel⟩, List.mem_of_getElem? (i := 36) (by decide +kernel), List.mem_of_getElem? (i := 69) (by decide +kernel), List.mem_of_getElem? (i := 70) (by decide +kernel)⟩
theorem lw_p1 : lw_okq (⟨"TenRules$Arena", "measure", "(I)V"⟩, 14) := ⟨⟨by decide +kernel, by decide +kernel⟩, List.mem_of_getElem? (i := 36) (by decide +kernel), List.mem_of_getElem? (i := 73) (by decide +kernel), List.mem_of_getElem? (i := 74) (by decide +kernel)⟩
def lw_privs : List (MethodName × Nat) := [(⟨"TenRules$Arena", "link", "(I)V"⟩, 14), (⟨"TenRules$Arena", "measure", "(I)V"⟩, 14)]
def lw_tbl : List Cond := k2_sels lw_privs ++ tables_1
theorem lw_privs_ok : ∀ q ∈ lw_privs, lw_okq q := List.forall_mem_cons.mpr ⟨lw_p0, List.forall_mem_cons.mpr ⟨lw_p1, fun _ h => absurd h List.not_mem_nil⟩⟩
theorem goodIn_r {big : List Cond} (ws : List Cond) (ps : List Nat) (hp : ws = ps.filterMap (fun i => big[i]?)) (h : ws.all goodWord = true) : GoodIn big ws := by
  intro w hw
  have h1 := List.all_eq_true.mp h w hw
  rw [hp] at hw
  obtain ⟨i, -, hi⟩ := List.mem_filterMap.mp hw
  have hm : w ∈ big := by first | exact List.mem_of_getElem? hi | exact List.getElem?_mem hi
  exact ⟨hm, good_of_word h1⟩
theorem goodIn_app {big a b : List Cond} (ha : GoodIn big a) (hb : GoodIn big b) : GoodIn big (a ++ b) := fun w h => (List.mem_append.mp h).elim (ha w) (hb w)
def gW0 : List Cond := [.methodLink RX11 1 objectInit, .instanceMethod objectInit, .code objectInit ⟨#[0xb1]⟩ 1 none, .arrayClass .int, .fieldLink RX11 9 "TenRules" "tape" "[I", .classLink RX11 13 RX0, .instantiable RX0 14, .initialized RX0, .methodLink RX0 3 objectInit, .fieldLink RX0 11 "TenRules$Arena" "kinds" "[I", .fieldLink RX0 15 "TenRules$Arena" "lefts" "[I", .fieldLink RX0 18 "TenRules$Arena" "rights" "[I", .fieldLink RX0 21 "TenRules$Arena" "types" "[I", .fieldLink RX0 24 "TenRules$Arena" "sizes" "[I", .fieldLink RX0 27 "TenRules$Arena" "looses" "[I", .fieldLink RX0 30 "TenRules$Arena" "vars" "[I", .fieldLink RX0 33 "TenRules$Arena" "consts" "[I", .fieldLink RX0 36 "TenRules$Arena" "hashes" "[I", .fieldLink RX0 39 "TenRules$Arena" "nexts" "[I", .fieldLink RX0 42 "TenRules$Arena" "moves" "[I", .fieldLink RX0 45 "TenRules$Arena" "heads" "[I", .methodLink RX0 48 yJ7_fill_53178, .static yJ7_fill_53178, .fieldLink RX0 62 "TenRules$Arena" "count" "I", .methodLink RX0 68 yX0_link, .instanceMethod yX0_link, .selects RX0 yX0_link yX0_link, .methodLink RX0 72 yX0_measure, .instanceMethod yX0_measure, .selects RX0 yX0_measure yX0_measure, .methodLink RX0 54 yX0_node, .instanceMethod yX0_node, .selects RX0 yX0_node yX0_node, .fieldLink RX0 58 "TenRules$Arena" "marked" "I", .methodLink RX11 15 yX0_init, .instanceMethod yX0_init, .fieldLink RX11 16 "TenRules" "arena" "LTenRules$Arena;", .classLink RX11 20 RX7, .instantiable RX7 1, .initialized RX7]
def gW1 : List Cond := [.methodLink RX7 3 objectInit, .fieldLink RX7 9 "TenRules$Terms" "arena" "LTenRules$Arena;", .methodLink RX11 22 yX7_init, .instanceMethod yX7_init, .fieldLink RX11 25 "TenRules" "terms" "LTenRules$Terms;", .classLink RX11 29 RX9, .instantiable RX9 15, .initialized RX9, .methodLink RX9 3 objectInit, .fieldLink RX9 9 "TenRules$Told" "varNames" "[I", .fieldLink RX9 15 "TenRules$Told" "varTypes" "[I", .fieldLink RX9 18 "TenRules$Told" "constNames" "[I", .fieldLink RX9 21 "TenRules$Told" "constTypes" "[I", .fieldLink RX9 24 "TenRules$Told" "constTheorems" "[I", .fieldLink RX9 27 "TenRules$Told" "theoremNodes" "[I", .fieldLink RX9 30 "TenRules$Told" "theoremNames" "[I", .fieldLink RX9 33 "TenRules$Told" "theoremMakers" "[I", .fieldLink RX9 36 "TenRules$Told" "arena" "LTenRules$Arena;", .methodLink RX11 31 yX9_init, .instanceMethod yX9_init, .fieldLink RX11 32 "TenRules" "told" "LTenRules$Told;", .classLink RX11 36 RX5, .instantiable RX5 3, .initialized RX5, .methodLink RX5 3 objectInit, .fieldLink RX5 9 "TenRules$Survey" "arena" "LTenRules$Arena;", .fieldLink RX5 15 "TenRules$Survey" "terms" "LTenRules$Terms;", .fieldLink RX5 19 "TenRules$Survey" "told" "LTenRules$Told;", .methodLink RX11 38 yX5_init, .instanceMethod yX5_init, .fieldLink RX11 41 "TenRules" "survey" "LTenRules$Survey;", .classLink RX11 45 RX3, .instantiable RX3 8, .initialized RX3, .methodLink RX3 3 objectInit, .fieldLink RX3 9 "TenRules$Kernel" "counts" "[I", .fieldLink RX3 15 "TenRules$Kernel" "markedCounts" "[I", .fieldLink RX3 18 "TenRules$Kernel" "row" "[I", .fieldLink RX3 21 "TenRules$Kernel" "arena" "LTenRules$Arena;", .fieldLink RX3 25 "TenRules$Kernel" "terms" "LTenRules$Terms;"]
def gW2 : List Cond := [.fieldLink RX3 29 "TenRules$Kernel" "survey" "LTenRules$Survey;", .methodLink RX11 47 yX3_init, .instanceMethod yX3_init, .fieldLink RX11 50 "TenRules" "kernel" "LTenRules$Kernel;", .classLink RX11 54 RX8, .instantiable RX8 12, .initialized RX8, .methodLink RX8 3 objectInit, .fieldLink RX8 11 "TenRules$Tokens" "words" "[I", .fieldLink RX8 15 "TenRules$Tokens" "kinds" "[I", .fieldLink RX8 18 "TenRules$Tokens" "places" "[I", .fieldLink RX8 21 "TenRules$Tokens" "values" "[I", .fieldLink RX8 24 "TenRules$Tokens" "tape" "[I", .methodLink RX11 56 yX8_init, .instanceMethod yX8_init, .fieldLink RX11 59 "TenRules" "tokens" "LTenRules$Tokens;", .classLink RX11 63 RX6, .instantiable RX6 9, .initialized RX6, .methodLink RX6 3 objectInit, .fieldLink RX6 9 "TenRules$TermReader" "boundNames" "[I", .fieldLink RX6 15 "TenRules$TermReader" "boundTypes" "[I", .fieldLink RX6 18 "TenRules$TermReader" "atoms" "[I", .fieldLink RX6 21 "TenRules$TermReader" "tokens" "LTenRules$Tokens;", .fieldLink RX6 25 "TenRules$TermReader" "arena" "LTenRules$Arena;", .fieldLink RX6 29 "TenRules$TermReader" "terms" "LTenRules$Terms;", .fieldLink RX6 33 "TenRules$TermReader" "told" "LTenRules$Told;", .methodLink RX11 65 yX6_init, .instanceMethod yX6_init, .fieldLink RX11 68 "TenRules" "termReader" "LTenRules$TermReader;", .classLink RX11 72 RX4, .instantiable RX4 6, .initialized RX4, .methodLink RX4 3 objectInit, .fieldLink RX4 9 "TenRules$LineReader" "tokens" "LTenRules$Tokens;", .fieldLink RX4 15 "TenRules$LineReader" "termReader" "LTenRules$TermReader;", .fieldLink RX4 19 "TenRules$LineReader" "arena" "LTenRules$Arena;", .fieldLink RX4 23 "TenRules$LineReader" "terms" "LTenRules$Terms;", .fieldLink RX4 27 "TenRules$LineReader" "told" "LTenRules$Told;", .fieldLink RX4 31 "TenRules$LineReader" "kernel" "LTenRules$Kernel;"]
def gW3 : List Cond := [.methodLink RX11 74 yX4_init, .instanceMethod yX4_init, .fieldLink RX11 77 "TenRules" "lineReader" "LTenRules$LineReader;", .classLink RX11 81 RX1, .instantiable RX1 6, .initialized RX1, .methodLink RX1 3 objectInit, .fieldLink RX1 9 "TenRules$Conv" "ops" "[I", .fieldLink RX1 15 "TenRules$Conv" "firsts" "[I", .fieldLink RX1 18 "TenRules$Conv" "seconds" "[I", .fieldLink RX1 21 "TenRules$Conv" "tokens" "LTenRules$Tokens;", .fieldLink RX1 25 "TenRules$Conv" "told" "LTenRules$Told;", .methodLink RX11 83 yX1_init, .instanceMethod yX1_init, .fieldLink RX11 86 "TenRules" "conv" "LTenRules$Conv;", .classLink RX11 90 RX2, .instantiable RX2 12, .initialized RX2, .methodLink RX2 3 objectInit, .fieldLink RX2 11 "TenRules$Engine" "nodes" "[I", .fieldLink RX2 15 "TenRules$Engine" "subjects" "[I", .fieldLink RX2 18 "TenRules$Engine" "states" "[I", .fieldLink RX2 21 "TenRules$Engine" "kept" "[I", .fieldLink RX2 24 "TenRules$Engine" "found" "[I", .fieldLink RX2 27 "TenRules$Engine" "arena" "LTenRules$Arena;", .fieldLink RX2 31 "TenRules$Engine" "terms" "LTenRules$Terms;", .fieldLink RX2 35 "TenRules$Engine" "told" "LTenRules$Told;", .fieldLink RX2 39 "TenRules$Engine" "kernel" "LTenRules$Kernel;", .fieldLink RX2 43 "TenRules$Engine" "conv" "LTenRules$Conv;", .methodLink RX11 92 yX2_init, .instanceMethod yX2_init, .fieldLink RX11 95 "TenRules" "engine" "LTenRules$Engine;", .classLink RX11 99 RX10, .instantiable RX10 4, .initialized RX10, .methodLink RX10 3 objectInit, .fieldLink RX10 11 "TenRules$Writer" "row" "[I", .fieldLink RX10 15 "TenRules$Writer" "arena" "LTenRules$Arena;", .fieldLink RX10 19 "TenRules$Writer" "told" "LTenRules$Told;", .methodLink RX11 101 yX10_init]
def gW4 : List Cond := [.instanceMethod yX10_init, .fieldLink RX11 104 "TenRules" "writer" "LTenRules$Writer;", .methodLink RX12 3 objectInit, .fieldLink RX12 9 "TenRulesModel" "wrongAt" "I", .fieldLink RX12 13 "TenRulesModel" "tape" "[I", .constant RX12 17 (60000), .fieldLink RX12 18 "TenRulesModel" "takes" "[I", .fieldLink RX12 21 "TenRulesModel" "gives" "[I", .fieldLink RX12 24 "TenRulesModel" "nextType" "[I", .fieldLink RX12 27 "TenRulesModel" "heads" "[I", .fieldLink RX12 30 "TenRulesModel" "types" "I", .arrayClass .long, .fieldLink RX12 33 "TenRulesModel" "varName" "[J", .fieldLink RX12 37 "TenRulesModel" "constName" "[J", .fieldLink RX12 40 "TenRulesModel" "thmName" "[J", .fieldLink RX12 43 "TenRulesModel" "varType" "[I", .fieldLink RX12 46 "TenRulesModel" "constType" "[I", .fieldLink RX12 49 "TenRulesModel" "constThm" "[I", .fieldLink RX12 52 "TenRulesModel" "read" "[I", .fieldLink RX12 55 "TenRulesModel" "boundType" "[I", .fieldLink RX12 58 "TenRulesModel" "boundName" "[J", .constant RX12 61 (330720), .fieldLink RX12 62 "TenRulesModel" "m" "[I", .fieldLink RX12 65 "TenRulesModel" "len" "[I", .fieldLink RX12 68 "TenRulesModel" "regLen" "[I", .fieldLink RX12 71 "TenRulesModel" "hyps" "[I", .fieldLink RX12 74 "TenRulesModel" "madeBy" "[I", .fieldLink RX12 77 "TenRulesModel" "top" "I", .fieldLink RX12 80 "TenRulesModel" "roundType" "[I", .constant RX12 83 (36000), .fieldLink RX12 84 "TenRulesModel" "ink" "[I", .fieldLink RX12 87 "TenRulesModel" "inked" "[I", .fieldLink RX12 90 "TenRulesModel" "calls" "[I", .fieldLink RX12 93 "TenRulesModel" "used" "[I", .fieldLink RX12 96 "TenRulesModel" "conv" "[I", .fieldLink RX12 99 "TenRulesModel" "first" "[I", .fieldLink RX12 102 "TenRulesModel" "second" "[I", .fieldLink RX12 105 "TenRulesModel" "found" "[I", .code yJ0_charAt_5068e cJ0_charAt_5068e 2 (some .char), .initialized "java/lang/String"]
def gW5 : List Cond := [.code yJ0_checkIndex_df160 cJ0_checkIndex_df160 2 none, .code yJ0_coder_7d493 cJ0_coder_7d493 1 (some .byte), .code yJ0_isLatin1_aae02 cJ0_isLatin1_aae02 1 (some .boolean), .code yJ0_length_8abf5 cJ0_length_8abf5 1 (some .int), .code yJ1_charAt_3b067 cJ1_charAt_3b067 2 (some .char), .initialized "java/lang/StringLatin1", .code yJ3_checkIndex_8e157 cJ3_checkIndex_8e157 3 (some .int), .initialized "jdk/internal/util/Preconditions", .code yJ7_fill_53178 cJ7_fill_53178 4 none, .initialized "java/util/Arrays", .code yX0_init cX0_init 1 none, .code yX0_link cX0_link 3 none, .code yX0_measure cX0_measure 6 none, .code yX0_node cX0_node 8 (some .int), .code yX10_init cX10_init 3 none, .code yX11_init cX11_init 1 none, .initialized RX11, .code yX12_init cX12_init 1 none, .initialized RX12, .code yX1_init cX1_init 3 none, .code yX2_init cX2_init 6 none, .code yX3_init cX3_init 4 none, .code yX4_init cX4_init 7 none, .code yX5_init cX5_init 4 none, .code yX6_init cX6_init 5 none, .code yX7_init cX7_init 2 none, .code yX8_init cX8_init 7 none, .code yX8_isLetter cX8_isLetter 1 (some .boolean), .code yX8_padded cX8_padded 4 (some .int), .code yX9_init cX9_init 2 none]
def gL : List Cond := wsX00 ++ wsX10 ++ wsX20 ++ wsX30 ++ wsX40 ++ wsX50 ++ wsX60 ++ wsX70 ++ wsX80 ++ wsX90 ++ wsX100 ++ wsX110 ++ wsX120
def gK : List Cond := gW0 ++ (gW1 ++ (gW2 ++ (gW3 ++ (gW4 ++ (gW5)))))
def G : List Cond := gK ++ gL
theorem wq0 : (Cond.methodLink RX11 1 objectInit : Cond) ∈ G := List.mem_append_left _ (List.mem_append_left _ (List.mem_of_getElem? (i := 0) rfl : _ ∈ gW0))
theorem wq1 : (Cond.instanceMethod objectInit : Cond) ∈ G := List.mem_append_left _ (List.mem_append_left _ (List.mem_of_getElem? (i := 1) rfl : _ ∈ gW0))
theorem wq2 : (Cond.code objectInit ⟨#[0xb1]⟩ 1 none : Cond) ∈ G := List.mem_append_left _ (List.mem_append_left _ (List.mem_of_getElem? (i := 2) rfl : _ ∈ gW0))
theorem wq3 : (Cond.arrayClass .int : Cond) ∈ G := List.mem_append_left _ (List.mem_append_left _ (List.mem_of_getElem? (i := 3) rfl : _ ∈ gW0))
theorem wq4 : (Cond.fieldLink RX11 9 "TenRules" "tape" "[I" : Cond) ∈ G := List.mem_append_left _ (List.mem_append_left _ (List.mem_of_getElem? (i := 4) rfl : _ ∈ gW0))
theorem wq5 : (Cond.classLink RX11 13 RX0 : Cond) ∈ G := List.mem_append_left _ (List.mem_append_left _ (List.mem_of_getElem? (i := 5) rfl : _ ∈ gW0))
theorem wq6 : (Cond.instantiable RX0 14 : Cond) ∈ G := List.mem_append_left _ (List.mem_append_left _ (List.mem_of_getElem? (i := 6) rfl : _ ∈ gW0))
theorem wq7 : (Cond.initialized RX0 : Cond) ∈ G := List.mem_append_left _ (List.mem_append_left _ (List.mem_of_getElem? (i := 7) rfl : _ ∈ gW0))
theorem wq8 : (Cond.methodLink RX0 3 objectInit : Cond) ∈ G := List.mem_append_left _ (List.mem_append_left _ (List.mem_of_getElem? (i := 8) rfl : _ ∈ gW0))
theorem wq9 : (Cond.fieldLink RX0 11 "TenRules$Arena" "kinds" "[I" : Cond) ∈ G := List.mem_append_left _ (List.mem_append_left _ (List.mem_of_getElem? (i := 9) rfl : _ ∈ gW0))
theorem wq10 : (Cond.fieldLink RX0 15 "TenRules$Arena" "lefts" "[I" : Cond) ∈ G := List.mem_append_left _ (List.mem_append_left _ (List.mem_of_getElem? (i := 10) rfl : _ ∈ gW0))
theorem wq11 : (Cond.fieldLink RX0 18 "TenRules$Arena" "rights" "[I" : Cond) ∈ G := List.mem_append_left _ (List.mem_append_left _ (List.mem_of_getElem? (i := 11) rfl : _ ∈ gW0))
theorem wq12 : (Cond.fieldLink RX0 21 "TenRules$Arena" "types" "[I" : Cond) ∈ G := List.mem_append_left _ (List.mem_append_left _ (List.mem_of_getElem? (i := 12) rfl : _ ∈ gW0))
theorem wq13 : (Cond.fieldLink RX0 24 "TenRules$Arena" "sizes" "[I" : Cond) ∈ G := List.mem_append_left _ (List.mem_append_left _ (List.mem_of_getElem? (i := 13) rfl : _ ∈ gW0))
theorem wq14 : (Cond.fieldLink RX0 27 "TenRules$Arena" "looses" "[I" : Cond) ∈ G := List.mem_append_left _ (List.mem_append_left _ (List.mem_of_getElem? (i := 14) rfl : _ ∈ gW0))
theorem wq15 : (Cond.fieldLink RX0 30 "TenRules$Arena" "vars" "[I" : Cond) ∈ G := List.mem_append_left _ (List.mem_append_left _ (List.mem_of_getElem? (i := 15) rfl : _ ∈ gW0))
theorem wq16 : (Cond.fieldLink RX0 33 "TenRules$Arena" "consts" "[I" : Cond) ∈ G := List.mem_append_left _ (List.mem_append_left _ (List.mem_of_getElem? (i := 16) rfl : _ ∈ gW0))
theorem wq17 : (Cond.fieldLink RX0 36 "TenRules$Arena" "hashes" "[I" : Cond) ∈ G := List.mem_append_left _ (List.mem_append_left _ (List.mem_of_getElem? (i := 17) rfl : _ ∈ gW0))
theorem wq18 : (Cond.fieldLink RX0 39 "TenRules$Arena" "nexts" "[I" : Cond) ∈ G := List.mem_append_left _ (List.mem_append_left _ (List.mem_of_getElem? (i := 18) rfl : _ ∈ gW0))
theorem wq19 : (Cond.fieldLink RX0 42 "TenRules$Arena" "moves" "[I" : Cond) ∈ G := List.mem_append_left _ (List.mem_append_left _ (List.mem_of_getElem? (i := 19) rfl : _ ∈ gW0))
theorem wq20 : (Cond.fieldLink RX0 45 "TenRules$Arena" "heads" "[I" : Cond) ∈ G := List.mem_append_left _ (List.mem_append_left _ (List.mem_of_getElem? (i := 20) rfl : _ ∈ gW0))
theorem wq21 : (Cond.methodLink RX0 48 yJ7_fill_53178 : Cond) ∈ G := List.mem_append_left _ (List.mem_append_left _ (List.mem_of_getElem? (i := 21) rfl : _ ∈ gW0))
theorem wq22 : (Cond.static yJ7_fill_53178 : Cond) ∈ G := List.mem_append_left _ (List.mem_append_left _ (List.mem_of_getElem? (i := 22) rfl : _ ∈ gW0))
theorem wq23 : (Cond.fieldLink RX0 62 "TenRules$Arena" "count" "I" : Cond) ∈ G := List.mem_append_left _ (List.mem_append_left _ (List.mem_of_getElem? (i := 23) rfl : _ ∈ gW0))
theorem wq24 : (Cond.methodLink RX0 68 yX0_link : Cond) ∈ G := List.mem_append_left _ (List.mem_append_left _ (List.mem_of_getElem? (i := 24) rfl : _ ∈ gW0))
theorem wq25 : (Cond.instanceMethod yX0_link : Cond) ∈ G := List.mem_append_left _ (List.mem_append_left _ (List.mem_of_getElem? (i := 25) rfl : _ ∈ gW0))
theorem wq26 : (Cond.selects RX0 yX0_link yX0_link : Cond) ∈ G := List.mem_append_left _ (List.mem_append_left _ (List.mem_of_getElem? (i := 26) rfl : _ ∈ gW0))
theorem wq27 : (Cond.methodLink RX0 72 yX0_measure : Cond) ∈ G := List.mem_append_left _ (List.mem_append_left _ (List.mem_of_getElem? (i := 27) rfl : _ ∈ gW0))
theorem wq28 : (Cond.instanceMethod yX0_measure : Cond) ∈ G := List.mem_append_left _ (List.mem_append_left _ (List.mem_of_getElem? (i := 28) rfl : _ ∈ gW0))
theorem wq29 : (Cond.selects RX0 yX0_measure yX0_measure : Cond) ∈ G := List.mem_append_left _ (List.mem_append_left _ (List.mem_of_getElem? (i := 29) rfl : _ ∈ gW0))
theorem wq30 : (Cond.methodLink RX0 54 yX0_node : Cond) ∈ G := List.mem_append_left _ (List.mem_append_left _ (List.mem_of_getElem? (i := 30) rfl : _ ∈ gW0))
theorem wq31 : (Cond.instanceMethod yX0_node : Cond) ∈ G := List.mem_append_left _ (List.mem_append_left _ (List.mem_of_getElem? (i := 31) rfl : _ ∈ gW0))
theorem wq32 : (Cond.selects RX0 yX0_node yX0_node : Cond) ∈ G := List.mem_append_left _ (List.mem_append_left _ (List.mem_of_getElem? (i := 32) rfl : _ ∈ gW0))
theorem wq33 : (Cond.fieldLink RX0 58 "TenRules$Arena" "marked" "I" : Cond) ∈ G := List.mem_append_left _ (List.mem_append_left _ (List.mem_of_getElem? (i := 33) rfl : _ ∈ gW0))
theorem wq34 : (Cond.methodLink RX11 15 yX0_init : Cond) ∈ G := List.mem_append_left _ (List.mem_append_left _ (List.mem_of_getElem? (i := 34) rfl : _ ∈ gW0))
theorem wq35 : (Cond.instanceMethod yX0_init : Cond) ∈ G := List.mem_append_left _ (List.mem_append_left _ (List.mem_of_getElem? (i := 35) rfl : _ ∈ gW0))
theorem wq36 : (Cond.fieldLink RX11 16 "TenRules" "arena" "LTenRules$Arena;" : Cond) ∈ G := List.mem_append_left _ (List.mem_append_left _ (List.mem_of_getElem? (i := 36) rfl : _ ∈ gW0))
theorem wq37 : (Cond.classLink RX11 20 RX7 : Cond) ∈ G := List.mem_append_left _ (List.mem_append_left _ (List.mem_of_getElem? (i := 37) rfl : _ ∈ gW0))
theorem wq38 : (Cond.instantiable RX7 1 : Cond) ∈ G := List.mem_append_left _ (List.mem_append_left _ (List.mem_of_getElem? (i := 38) rfl : _ ∈ gW0))
theorem wq39 : (Cond.initialized RX7 : Cond) ∈ G := List.mem_append_left _ (List.mem_append_left _ (List.mem_of_getElem? (i := 39) rfl : _ ∈ gW0))
theorem wq40 : (Cond.methodLink RX7 3 objectInit : Cond) ∈ G := List.mem_append_left _ (List.mem_append_right _ (List.mem_append_left _ (List.mem_of_getElem? (i := 0) rfl : _ ∈ gW1)))
theorem wq41 : (Cond.fieldLink RX7 9 "TenRules$Terms" "arena" "LTenRules$Arena;" : Cond) ∈ G := List.mem_append_left _ (List.mem_append_right _ (List.mem_append_left _ (List.mem_of_getElem? (i := 1) rfl : _ ∈ gW1)))
theorem wq42 : (Cond.methodLink RX11 22 yX7_init : Cond) ∈ G := List.mem_append_left _ (List.mem_append_right _ (List.mem_append_left _ (List.mem_of_getElem? (i := 2) rfl : _ ∈ gW1)))
theorem wq43 : (Cond.instanceMethod yX7_init : Cond) ∈ G := List.mem_append_left _ (List.mem_append_right _ (List.mem_append_left _ (List.mem_of_getElem? (i := 3) rfl : _ ∈ gW1)))
theorem wq44 : (Cond.fieldLink RX11 25 "TenRules" "terms" "LTenRules$Terms;" : Cond) ∈ G := List.mem_append_left _ (List.mem_append_right _ (List.mem_append_left _ (List.mem_of_getElem? (i := 4) rfl : _ ∈ gW1)))
theorem wq45 : (Cond.classLink RX11 29 RX9 : Cond) ∈ G := List.mem_append_left _ (List.mem_append_right _ (List.mem_append_left _ (List.mem_of_getElem? (i := 5) rfl : _ ∈ gW1)))
theorem wq46 : (Cond.instantiable RX9 15 : Cond) ∈ G := List.mem_append_left _ (List.mem_append_right _ (List.mem_append_left _ (List.mem_of_getElem? (i := 6) rfl : _ ∈ gW1)))
theorem wq47 : (Cond.initialized RX9 : Cond) ∈ G := List.mem_append_left _ (List.mem_append_right _ (List.mem_append_left _ (List.mem_of_getElem? (i := 7) rfl : _ ∈ gW1)))
theorem wq48 : (Cond.methodLink RX9 3 objectInit : Cond) ∈ G := List.mem_append_left _ (List.mem_append_right _ (List.mem_append_left _ (List.mem_of_getElem? (i := 8) rfl : _ ∈ gW1)))
theorem wq49 : (Cond.fieldLink RX9 9 "TenRules$Told" "varNames" "[I" : Cond) ∈ G := List.mem_append_left _ (List.mem_append_right _ (List.mem_append_left _ (List.mem_of_getElem? (i := 9) rfl : _ ∈ gW1)))
theorem wq50 : (Cond.fieldLink RX9 15 "TenRules$Told" "varTypes" "[I" : Cond) ∈ G := List.mem_append_left _ (List.mem_append_right _ (List.mem_append_left _ (List.mem_of_getElem? (i := 10) rfl : _ ∈ gW1)))
theorem wq51 : (Cond.fieldLink RX9 18 "TenRules$Told" "constNames" "[I" : Cond) ∈ G := List.mem_append_left _ (List.mem_append_right _ (List.mem_append_left _ (List.mem_of_getElem? (i := 11) rfl : _ ∈ gW1)))
theorem wq52 : (Cond.fieldLink RX9 21 "TenRules$Told" "constTypes" "[I" : Cond) ∈ G := List.mem_append_left _ (List.mem_append_right _ (List.mem_append_left _ (List.mem_of_getElem? (i := 12) rfl : _ ∈ gW1)))
theorem wq53 : (Cond.fieldLink RX9 24 "TenRules$Told" "constTheorems" "[I" : Cond) ∈ G := List.mem_append_left _ (List.mem_append_right _ (List.mem_append_left _ (List.mem_of_getElem? (i := 13) rfl : _ ∈ gW1)))
theorem wq54 : (Cond.fieldLink RX9 27 "TenRules$Told" "theoremNodes" "[I" : Cond) ∈ G := List.mem_append_left _ (List.mem_append_right _ (List.mem_append_left _ (List.mem_of_getElem? (i := 14) rfl : _ ∈ gW1)))
theorem wq55 : (Cond.fieldLink RX9 30 "TenRules$Told" "theoremNames" "[I" : Cond) ∈ G := List.mem_append_left _ (List.mem_append_right _ (List.mem_append_left _ (List.mem_of_getElem? (i := 15) rfl : _ ∈ gW1)))
theorem wq56 : (Cond.fieldLink RX9 33 "TenRules$Told" "theoremMakers" "[I" : Cond) ∈ G := List.mem_append_left _ (List.mem_append_right _ (List.mem_append_left _ (List.mem_of_getElem? (i := 16) rfl : _ ∈ gW1)))
theorem wq57 : (Cond.fieldLink RX9 36 "TenRules$Told" "arena" "LTenRules$Arena;" : Cond) ∈ G := List.mem_append_left _ (List.mem_append_right _ (List.mem_append_left _ (List.mem_of_getElem? (i := 17) rfl : _ ∈ gW1)))
theorem wq58 : (Cond.methodLink RX11 31 yX9_init : Cond) ∈ G := List.mem_append_left _ (List.mem_append_right _ (List.mem_append_left _ (List.mem_of_getElem? (i := 18) rfl : _ ∈ gW1)))
theorem wq59 : (Cond.instanceMethod yX9_init : Cond) ∈ G := List.mem_append_left _ (List.mem_append_right _ (List.mem_append_left _ (List.mem_of_getElem? (i := 19) rfl : _ ∈ gW1)))
theorem wq60 : (Cond.fieldLink RX11 32 "TenRules" "told" "LTenRules$Told;" : Cond) ∈ G := List.mem_append_left _ (List.mem_append_right _ (List.mem_append_left _ (List.mem_of_getElem? (i := 20) rfl : _ ∈ gW1)))
theorem wq61 : (Cond.classLink RX11 36 RX5 : Cond) ∈ G := List.mem_append_left _ (List.mem_append_right _ (List.mem_append_left _ (List.mem_of_getElem? (i := 21) rfl : _ ∈ gW1)))
theorem wq62 : (Cond.instantiable RX5 3 : Cond) ∈ G := List.mem_append_left _ (List.mem_append_right _ (List.mem_append_left _ (List.mem_of_getElem? (i := 22) rfl : _ ∈ gW1)))
theorem wq63 : (Cond.initialized RX5 : Cond) ∈ G := List.mem_append_left _ (List.mem_append_right _ (List.mem_append_left _ (List.mem_of_getElem? (i := 23) rfl : _ ∈ gW1)))
theorem wq64 : (Cond.methodLink RX5 3 objectInit : Cond) ∈ G := List.mem_append_left _ (List.mem_append_right _ (List.mem_append_left _ (List.mem_of_getElem? (i := 24) rfl : _ ∈ gW1)))
theorem wq65 : (Cond.fieldLink RX5 9 "TenRules$Survey" "arena" "LTenRules$Arena;" : Cond) ∈ G := List.mem_append_left _ (List.mem_append_right _ (List.mem_append_left _ (List.mem_of_getElem? (i := 25) rfl : _ ∈ gW1)))
theorem wq66 : (Cond.fieldLink RX5 15 "TenRules$Survey" "terms" "LTenRules$Terms;" : Cond) ∈ G := List.mem_append_left _ (List.mem_append_right _ (List.mem_append_left _ (List.mem_of_getElem? (i := 26) rfl : _ ∈ gW1)))
theorem wq67 : (Cond.fieldLink RX5 19 "TenRules$Survey" "told" "LTenRules$Told;" : Cond) ∈ G := List.mem_append_left _ (List.mem_append_right _ (List.mem_append_left _ (List.mem_of_getElem? (i := 27) rfl : _ ∈ gW1)))
theorem wq68 : (Cond.methodLink RX11 38 yX5_init : Cond) ∈ G := List.mem_append_left _ (List.mem_append_right _ (List.mem_append_left _ (List.mem_of_getElem? (i := 28) rfl : _ ∈ gW1)))
theorem wq69 : (Cond.instanceMethod yX5_init : Cond) ∈ G := List.mem_append_left _ (List.mem_append_right _ (List.mem_append_left _ (List.mem_of_getElem? (i := 29) rfl : _ ∈ gW1)))
theorem wq70 : (Cond.fieldLink RX11 41 "TenRules" "survey" "LTenRules$Survey;" : Cond) ∈ G := List.mem_append_left _ (List.mem_append_right _ (List.mem_append_left _ (List.mem_of_getElem? (i := 30) rfl : _ ∈ gW1)))
theorem wq71 : (Cond.classLink RX11 45 RX3 : Cond) ∈ G := List.mem_append_left _ (List.mem_append_right _ (List.mem_append_left _ (List.mem_of_getElem? (i := 31) rfl : _ ∈ gW1)))
theorem wq72 : (Cond.instantiable RX3 8 : Cond) ∈ G := List.mem_append_left _ (List.mem_append_right _ (List.mem_append_left _ (List.mem_of_getElem? (i := 32) rfl : _ ∈ gW1)))
theorem wq73 : (Cond.initialized RX3 : Cond) ∈ G := List.mem_append_left _ (List.mem_append_right _ (List.mem_append_left _ (List.mem_of_getElem? (i := 33) rfl : _ ∈ gW1)))
theorem wq74 : (Cond.methodLink RX3 3 objectInit : Cond) ∈ G := List.mem_append_left _ (List.mem_append_right _ (List.mem_append_left _ (List.mem_of_getElem? (i := 34) rfl : _ ∈ gW1)))
theorem wq75 : (Cond.fieldLink RX3 9 "TenRules$Kernel" "counts" "[I" : Cond) ∈ G := List.mem_append_left _ (List.mem_append_right _ (List.mem_append_left _ (List.mem_of_getElem? (i := 35) rfl : _ ∈ gW1)))
theorem wq76 : (Cond.fieldLink RX3 15 "TenRules$Kernel" "markedCounts" "[I" : Cond) ∈ G := List.mem_append_left _ (List.mem_append_right _ (List.mem_append_left _ (List.mem_of_getElem? (i := 36) rfl : _ ∈ gW1)))
theorem wq77 : (Cond.fieldLink RX3 18 "TenRules$Kernel" "row" "[I" : Cond) ∈ G := List.mem_append_left _ (List.mem_append_right _ (List.mem_append_left _ (List.mem_of_getElem? (i := 37) rfl : _ ∈ gW1)))
theorem wq78 : (Cond.fieldLink RX3 21 "TenRules$Kernel" "arena" "LTenRules$Arena;" : Cond) ∈ G := List.mem_append_left _ (List.mem_append_right _ (List.mem_append_left _ (List.mem_of_getElem? (i := 38) rfl : _ ∈ gW1)))
theorem wq79 : (Cond.fieldLink RX3 25 "TenRules$Kernel" "terms" "LTenRules$Terms;" : Cond) ∈ G := List.mem_append_left _ (List.mem_append_right _ (List.mem_append_left _ (List.mem_of_getElem? (i := 39) rfl : _ ∈ gW1)))
theorem wq80 : (Cond.fieldLink RX3 29 "TenRules$Kernel" "survey" "LTenRules$Survey;" : Cond) ∈ G := List.mem_append_left _ (List.mem_append_right _ (List.mem_append_right _ (List.mem_append_left _ (List.mem_of_getElem? (i := 0) rfl : _ ∈ gW2))))
theorem wq81 : (Cond.methodLink RX11 47 yX3_init : Cond) ∈ G := List.mem_append_left _ (List.mem_append_right _ (List.mem_append_right _ (List.mem_append_left _ (List.mem_of_getElem? (i := 1) rfl : _ ∈ gW2))))
theorem wq82 : (Cond.instanceMethod yX3_init : Cond) ∈ G := List.mem_append_left _ (List.mem_append_right _ (List.mem_append_right _ (List.mem_append_left _ (List.mem_of_getElem? (i := 2) rfl : _ ∈ gW2))))
theorem wq83 : (Cond.fieldLink RX11 50 "TenRules" "kernel" "LTenRules$Kernel;" : Cond) ∈ G := List.mem_append_left _ (List.mem_append_right _ (List.mem_append_right _ (List.mem_append_left _ (List.mem_of_getElem? (i := 3) rfl : _ ∈ gW2))))
theorem wq84 : (Cond.classLink RX11 54 RX8 : Cond) ∈ G := List.mem_append_left _ (List.mem_append_right _ (List.mem_append_right _ (List.mem_append_left _ (List.mem_of_getElem? (i := 4) rfl : _ ∈ gW2))))
theorem wq85 : (Cond.instantiable RX8 12 : Cond) ∈ G := List.mem_append_left _ (List.mem_append_right _ (List.mem_append_right _ (List.mem_append_left _ (List.mem_of_getElem? (i := 5) rfl : _ ∈ gW2))))
theorem wq86 : (Cond.initialized RX8 : Cond) ∈ G := List.mem_append_left _ (List.mem_append_right _ (List.mem_append_right _ (List.mem_append_left _ (List.mem_of_getElem? (i := 6) rfl : _ ∈ gW2))))
theorem wq87 : (Cond.methodLink RX8 3 objectInit : Cond) ∈ G := List.mem_append_left _ (List.mem_append_right _ (List.mem_append_right _ (List.mem_append_left _ (List.mem_of_getElem? (i := 7) rfl : _ ∈ gW2))))
theorem wq88 : (Cond.fieldLink RX8 11 "TenRules$Tokens" "words" "[I" : Cond) ∈ G := List.mem_append_left _ (List.mem_append_right _ (List.mem_append_right _ (List.mem_append_left _ (List.mem_of_getElem? (i := 8) rfl : _ ∈ gW2))))
theorem wq89 : (Cond.fieldLink RX8 15 "TenRules$Tokens" "kinds" "[I" : Cond) ∈ G := List.mem_append_left _ (List.mem_append_right _ (List.mem_append_right _ (List.mem_append_left _ (List.mem_of_getElem? (i := 9) rfl : _ ∈ gW2))))
theorem wq90 : (Cond.fieldLink RX8 18 "TenRules$Tokens" "places" "[I" : Cond) ∈ G := List.mem_append_left _ (List.mem_append_right _ (List.mem_append_right _ (List.mem_append_left _ (List.mem_of_getElem? (i := 10) rfl : _ ∈ gW2))))
theorem wq91 : (Cond.fieldLink RX8 21 "TenRules$Tokens" "values" "[I" : Cond) ∈ G := List.mem_append_left _ (List.mem_append_right _ (List.mem_append_right _ (List.mem_append_left _ (List.mem_of_getElem? (i := 11) rfl : _ ∈ gW2))))
theorem wq92 : (Cond.fieldLink RX8 24 "TenRules$Tokens" "tape" "[I" : Cond) ∈ G := List.mem_append_left _ (List.mem_append_right _ (List.mem_append_right _ (List.mem_append_left _ (List.mem_of_getElem? (i := 12) rfl : _ ∈ gW2))))
theorem wq93 : (Cond.methodLink RX11 56 yX8_init : Cond) ∈ G := List.mem_append_left _ (List.mem_append_right _ (List.mem_append_right _ (List.mem_append_left _ (List.mem_of_getElem? (i := 13) rfl : _ ∈ gW2))))
theorem wq94 : (Cond.instanceMethod yX8_init : Cond) ∈ G := List.mem_append_left _ (List.mem_append_right _ (List.mem_append_right _ (List.mem_append_left _ (List.mem_of_getElem? (i := 14) rfl : _ ∈ gW2))))
theorem wq95 : (Cond.fieldLink RX11 59 "TenRules" "tokens" "LTenRules$Tokens;" : Cond) ∈ G := List.mem_append_left _ (List.mem_append_right _ (List.mem_append_right _ (List.mem_append_left _ (List.mem_of_getElem? (i := 15) rfl : _ ∈ gW2))))
theorem wq96 : (Cond.classLink RX11 63 RX6 : Cond) ∈ G := List.mem_append_left _ (List.mem_append_right _ (List.mem_append_right _ (List.mem_append_left _ (List.mem_of_getElem? (i := 16) rfl : _ ∈ gW2))))
theorem wq97 : (Cond.instantiable RX6 9 : Cond) ∈ G := List.mem_append_left _ (List.mem_append_right _ (List.mem_append_right _ (List.mem_append_left _ (List.mem_of_getElem? (i := 17) rfl : _ ∈ gW2))))
theorem wq98 : (Cond.initialized RX6 : Cond) ∈ G := List.mem_append_left _ (List.mem_append_right _ (List.mem_append_right _ (List.mem_append_left _ (List.mem_of_getElem? (i := 18) rfl : _ ∈ gW2))))
theorem wq99 : (Cond.methodLink RX6 3 objectInit : Cond) ∈ G := List.mem_append_left _ (List.mem_append_right _ (List.mem_append_right _ (List.mem_append_left _ (List.mem_of_getElem? (i := 19) rfl : _ ∈ gW2))))
theorem wq100 : (Cond.fieldLink RX6 9 "TenRules$TermReader" "boundNames" "[I" : Cond) ∈ G := List.mem_append_left _ (List.mem_append_right _ (List.mem_append_right _ (List.mem_append_left _ (List.mem_of_getElem? (i := 20) rfl : _ ∈ gW2))))
theorem wq101 : (Cond.fieldLink RX6 15 "TenRules$TermReader" "boundTypes" "[I" : Cond) ∈ G := List.mem_append_left _ (List.mem_append_right _ (List.mem_append_right _ (List.mem_append_left _ (List.mem_of_getElem? (i := 21) rfl : _ ∈ gW2))))
theorem wq102 : (Cond.fieldLink RX6 18 "TenRules$TermReader" "atoms" "[I" : Cond) ∈ G := List.mem_append_left _ (List.mem_append_right _ (List.mem_append_right _ (List.mem_append_left _ (List.mem_of_getElem? (i := 22) rfl : _ ∈ gW2))))
theorem wq103 : (Cond.fieldLink RX6 21 "TenRules$TermReader" "tokens" "LTenRules$Tokens;" : Cond) ∈ G := List.mem_append_left _ (List.mem_append_right _ (List.mem_append_right _ (List.mem_append_left _ (List.mem_of_getElem? (i := 23) rfl : _ ∈ gW2))))
theorem wq104 : (Cond.fieldLink RX6 25 "TenRules$TermReader" "arena" "LTenRules$Arena;" : Cond) ∈ G := List.mem_append_left _ (List.mem_append_right _ (List.mem_append_right _ (List.mem_append_left _ (List.mem_of_getElem? (i := 24) rfl : _ ∈ gW2))))
theorem wq105 : (Cond.fieldLink RX6 29 "TenRules$TermReader" "terms" "LTenRules$Terms;" : Cond) ∈ G := List.mem_append_left _ (List.mem_append_right _ (List.mem_append_right _ (List.mem_append_left _ (List.mem_of_getElem? (i := 25) rfl : _ ∈ gW2))))
theorem wq106 : (Cond.fieldLink RX6 33 "TenRules$TermReader" "told" "LTenRules$Told;" : Cond) ∈ G := List.mem_append_left _ (List.mem_append_right _ (List.mem_append_right _ (List.mem_append_left _ (List.mem_of_getElem? (i := 26) rfl : _ ∈ gW2))))
theorem wq107 : (Cond.methodLink RX11 65 yX6_init : Cond) ∈ G := List.mem_append_left _ (List.mem_append_right _ (List.mem_append_right _ (List.mem_append_left _ (List.mem_of_getElem? (i := 27) rfl : _ ∈ gW2))))
theorem wq108 : (Cond.instanceMethod yX6_init : Cond) ∈ G := List.mem_append_left _ (List.mem_append_right _ (List.mem_append_right _ (List.mem_append_left _ (List.mem_of_getElem? (i := 28) rfl : _ ∈ gW2))))
theorem wq109 : (Cond.fieldLink RX11 68 "TenRules" "termReader" "LTenRules$TermReader;" : Cond) ∈ G := List.mem_append_left _ (List.mem_append_right _ (List.mem_append_right _ (List.mem_append_left _ (List.mem_of_getElem? (i := 29) rfl : _ ∈ gW2))))
theorem wq110 : (Cond.classLink RX11 72 RX4 : Cond) ∈ G := List.mem_append_left _ (List.mem_append_right _ (List.mem_append_right _ (List.mem_append_left _ (List.mem_of_getElem? (i := 30) rfl : _ ∈ gW2))))
theorem wq111 : (Cond.instantiable RX4 6 : Cond) ∈ G := List.mem_append_left _ (List.mem_append_right _ (List.mem_append_right _ (List.mem_append_left _ (List.mem_of_getElem? (i := 31) rfl : _ ∈ gW2))))
theorem wq112 : (Cond.initialized RX4 : Cond) ∈ G := List.mem_append_left _ (List.mem_append_right _ (List.mem_append_right _ (List.mem_append_left _ (List.mem_of_getElem? (i := 32) rfl : _ ∈ gW2))))
theorem wq113 : (Cond.methodLink RX4 3 objectInit : Cond) ∈ G := List.mem_append_left _ (List.mem_append_right _ (List.mem_append_right _ (List.mem_append_left _ (List.mem_of_getElem? (i := 33) rfl : _ ∈ gW2))))
theorem wq114 : (Cond.fieldLink RX4 9 "TenRules$LineReader" "tokens" "LTenRules$Tokens;" : Cond) ∈ G := List.mem_append_left _ (List.mem_append_right _ (List.mem_append_right _ (List.mem_append_left _ (List.mem_of_getElem? (i := 34) rfl : _ ∈ gW2))))
theorem wq115 : (Cond.fieldLink RX4 15 "TenRules$LineReader" "termReader" "LTenRules$TermReader;" : Cond) ∈ G := List.mem_append_left _ (List.mem_append_right _ (List.mem_append_right _ (List.mem_append_left _ (List.mem_of_getElem? (i := 35) rfl : _ ∈ gW2))))
theorem wq116 : (Cond.fieldLink RX4 19 "TenRules$LineReader" "arena" "LTenRules$Arena;" : Cond) ∈ G := List.mem_append_left _ (List.mem_append_right _ (List.mem_append_right _ (List.mem_append_left _ (List.mem_of_getElem? (i := 36) rfl : _ ∈ gW2))))
theorem wq117 : (Cond.fieldLink RX4 23 "TenRules$LineReader" "terms" "LTenRules$Terms;" : Cond) ∈ G := List.mem_append_left _ (List.mem_append_right _ (List.mem_append_right _ (List.mem_append_left _ (List.mem_of_getElem? (i := 37) rfl : _ ∈ gW2))))
theorem wq118 : (Cond.fieldLink RX4 27 "TenRules$LineReader" "told" "LTenRules$Told;" : Cond) ∈ G := List.mem_append_left _ (List.mem_append_right _ (List.mem_append_right _ (List.mem_append_left _ (List.mem_of_getElem? (i := 38) rfl : _ ∈ gW2))))
theorem wq119 : (Cond.fieldLink RX4 31 "TenRules$LineReader" "kernel" "LTenRules$Kernel;" : Cond) ∈ G := List.mem_append_left _ (List.mem_append_right _ (List.mem_append_right _ (List.mem_append_left _ (List.mem_of_getElem? (i := 39) rfl : _ ∈ gW2))))
theorem wq120 : (Cond.methodLink RX11 74 yX4_init : Cond) ∈ G := List.mem_append_left _ (List.mem_append_right _ (List.mem_append_right _ (List.mem_append_right _ (List.mem_append_left _ (List.mem_of_getElem? (i := 0) rfl : _ ∈ gW3)))))
theorem wq121 : (Cond.instanceMethod yX4_init : Cond) ∈ G := List.mem_append_left _ (List.mem_append_right _ (List.mem_append_right _ (List.mem_append_right _ (List.mem_append_left _ (List.mem_of_getElem? (i := 1) rfl : _ ∈ gW3)))))
theorem wq122 : (Cond.fieldLink RX11 77 "TenRules" "lineReader" "LTenRules$LineReader;" : Cond) ∈ G := List.mem_append_left _ (List.mem_append_right _ (List.mem_append_right _ (List.mem_append_right _ (List.mem_append_left _ (List.mem_of_getElem? (i := 2) rfl : _ ∈ gW3)))))
theorem wq123 : (Cond.classLink RX11 81 RX1 : Cond) ∈ G := List.mem_append_left _ (List.mem_append_right _ (List.mem_append_right _ (List.mem_append_right _ (List.mem_append_left _ (List.mem_of_getElem? (i := 3) rfl : _ ∈ gW3)))))
theorem wq124 : (Cond.instantiable RX1 6 : Cond) ∈ G := List.mem_append_left _ (List.mem_append_right _ (List.mem_append_right _ (List.mem_append_right _ (List.mem_append_left _ (List.mem_of_getElem? (i := 4) rfl : _ ∈ gW3)))))
theorem wq125 : (Cond.initialized RX1 : Cond) ∈ G := List.mem_append_left _ (List.mem_append_right _ (List.mem_append_right _ (List.mem_append_right _ (List.mem_append_left _ (List.mem_of_getElem? (i := 5) rfl : _ ∈ gW3)))))
theorem wq126 : (Cond.methodLink RX1 3 objectInit : Cond) ∈ G := List.mem_append_left _ (List.mem_append_right _ (List.mem_append_right _ (List.mem_append_right _ (List.mem_append_left _ (List.mem_of_getElem? (i := 6) rfl : _ ∈ gW3)))))
theorem wq127 : (Cond.fieldLink RX1 9 "TenRules$Conv" "ops" "[I" : Cond) ∈ G := List.mem_append_left _ (List.mem_append_right _ (List.mem_append_right _ (List.mem_append_right _ (List.mem_append_left _ (List.mem_of_getElem? (i := 7) rfl : _ ∈ gW3)))))
theorem wq128 : (Cond.fieldLink RX1 15 "TenRules$Conv" "firsts" "[I" : Cond) ∈ G := List.mem_append_left _ (List.mem_append_right _ (List.mem_append_right _ (List.mem_append_right _ (List.mem_append_left _ (List.mem_of_getElem? (i := 8) rfl : _ ∈ gW3)))))
theorem wq129 : (Cond.fieldLink RX1 18 "TenRules$Conv" "seconds" "[I" : Cond) ∈ G := List.mem_append_left _ (List.mem_append_right _ (List.mem_append_right _ (List.mem_append_right _ (List.mem_append_left _ (List.mem_of_getElem? (i := 9) rfl : _ ∈ gW3)))))
theorem wq130 : (Cond.fieldLink RX1 21 "TenRules$Conv" "tokens" "LTenRules$Tokens;" : Cond) ∈ G := List.mem_append_left _ (List.mem_append_right _ (List.mem_append_right _ (List.mem_append_right _ (List.mem_append_left _ (List.mem_of_getElem? (i := 10) rfl : _ ∈ gW3)))))
theorem wq131 : (Cond.fieldLink RX1 25 "TenRules$Conv" "told" "LTenRules$Told;" : Cond) ∈ G := List.mem_append_left _ (List.mem_append_right _ (List.mem_append_right _ (List.mem_append_right _ (List.mem_append_left _ (List.mem_of_getElem? (i := 11) rfl : _ ∈ gW3)))))
theorem wq132 : (Cond.methodLink RX11 83 yX1_init : Cond) ∈ G := List.mem_append_left _ (List.mem_append_right _ (List.mem_append_right _ (List.mem_append_right _ (List.mem_append_left _ (List.mem_of_getElem? (i := 12) rfl : _ ∈ gW3)))))
theorem wq133 : (Cond.instanceMethod yX1_init : Cond) ∈ G := List.mem_append_left _ (List.mem_append_right _ (List.mem_append_right _ (List.mem_append_right _ (List.mem_append_left _ (List.mem_of_getElem? (i := 13) rfl : _ ∈ gW3)))))
theorem wq134 : (Cond.fieldLink RX11 86 "TenRules" "conv" "LTenRules$Conv;" : Cond) ∈ G := List.mem_append_left _ (List.mem_append_right _ (List.mem_append_right _ (List.mem_append_right _ (List.mem_append_left _ (List.mem_of_getElem? (i := 14) rfl : _ ∈ gW3)))))
theorem wq135 : (Cond.classLink RX11 90 RX2 : Cond) ∈ G := List.mem_append_left _ (List.mem_append_right _ (List.mem_append_right _ (List.mem_append_right _ (List.mem_append_left _ (List.mem_of_getElem? (i := 15) rfl : _ ∈ gW3)))))
theorem wq136 : (Cond.instantiable RX2 12 : Cond) ∈ G := List.mem_append_left _ (List.mem_append_right _ (List.mem_append_right _ (List.mem_append_right _ (List.mem_append_left _ (List.mem_of_getElem? (i := 16) rfl : _ ∈ gW3)))))
theorem wq137 : (Cond.initialized RX2 : Cond) ∈ G := List.mem_append_left _ (List.mem_append_right _ (List.mem_append_right _ (List.mem_append_right _ (List.mem_append_left _ (List.mem_of_getElem? (i := 17) rfl : _ ∈ gW3)))))
theorem wq138 : (Cond.methodLink RX2 3 objectInit : Cond) ∈ G := List.mem_append_left _ (List.mem_append_right _ (List.mem_append_right _ (List.mem_append_right _ (List.mem_append_left _ (List.mem_of_getElem? (i := 18) rfl : _ ∈ gW3)))))
theorem wq139 : (Cond.fieldLink RX2 11 "TenRules$Engine" "nodes" "[I" : Cond) ∈ G := List.mem_append_left _ (List.mem_append_right _ (List.mem_append_right _ (List.mem_append_right _ (List.mem_append_left _ (List.mem_of_getElem? (i := 19) rfl : _ ∈ gW3)))))
theorem wq140 : (Cond.fieldLink RX2 15 "TenRules$Engine" "subjects" "[I" : Cond) ∈ G := List.mem_append_left _ (List.mem_append_right _ (List.mem_append_right _ (List.mem_append_right _ (List.mem_append_left _ (List.mem_of_getElem? (i := 20) rfl : _ ∈ gW3)))))
theorem wq141 : (Cond.fieldLink RX2 18 "TenRules$Engine" "states" "[I" : Cond) ∈ G := List.mem_append_left _ (List.mem_append_right _ (List.mem_append_right _ (List.mem_append_right _ (List.mem_append_left _ (List.mem_of_getElem? (i := 21) rfl : _ ∈ gW3)))))
theorem wq142 : (Cond.fieldLink RX2 21 "TenRules$Engine" "kept" "[I" : Cond) ∈ G := List.mem_append_left _ (List.mem_append_right _ (List.mem_append_right _ (List.mem_append_right _ (List.mem_append_left _ (List.mem_of_getElem? (i := 22) rfl : _ ∈ gW3)))))
theorem wq143 : (Cond.fieldLink RX2 24 "TenRules$Engine" "found" "[I" : Cond) ∈ G := List.mem_append_left _ (List.mem_append_right _ (List.mem_append_right _ (List.mem_append_right _ (List.mem_append_left _ (List.mem_of_getElem? (i := 23) rfl : _ ∈ gW3)))))
theorem wq144 : (Cond.fieldLink RX2 27 "TenRules$Engine" "arena" "LTenRules$Arena;" : Cond) ∈ G := List.mem_append_left _ (List.mem_append_right _ (List.mem_append_right _ (List.mem_append_right _ (List.mem_append_left _ (List.mem_of_getElem? (i := 24) rfl : _ ∈ gW3)))))
theorem wq145 : (Cond.fieldLink RX2 31 "TenRules$Engine" "terms" "LTenRules$Terms;" : Cond) ∈ G := List.mem_append_left _ (List.mem_append_right _ (List.mem_append_right _ (List.mem_append_right _ (List.mem_append_left _ (List.mem_of_getElem? (i := 25) rfl : _ ∈ gW3)))))
theorem wq146 : (Cond.fieldLink RX2 35 "TenRules$Engine" "told" "LTenRules$Told;" : Cond) ∈ G := List.mem_append_left _ (List.mem_append_right _ (List.mem_append_right _ (List.mem_append_right _ (List.mem_append_left _ (List.mem_of_getElem? (i := 26) rfl : _ ∈ gW3)))))
theorem wq147 : (Cond.fieldLink RX2 39 "TenRules$Engine" "kernel" "LTenRules$Kernel;" : Cond) ∈ G := List.mem_append_left _ (List.mem_append_right _ (List.mem_append_right _ (List.mem_append_right _ (List.mem_append_left _ (List.mem_of_getElem? (i := 27) rfl : _ ∈ gW3)))))
theorem wq148 : (Cond.fieldLink RX2 43 "TenRules$Engine" "conv" "LTenRules$Conv;" : Cond) ∈ G := List.mem_append_left _ (List.mem_append_right _ (List.mem_append_right _ (List.mem_append_right _ (List.mem_append_left _ (List.mem_of_getElem? (i := 28) rfl : _ ∈ gW3)))))
theorem wq149 : (Cond.methodLink RX11 92 yX2_init : Cond) ∈ G := List.mem_append_left _ (List.mem_append_right _ (List.mem_append_right _ (List.mem_append_right _ (List.mem_append_left _ (List.mem_of_getElem? (i := 29) rfl : _ ∈ gW3)))))
theorem wq150 : (Cond.instanceMethod yX2_init : Cond) ∈ G := List.mem_append_left _ (List.mem_append_right _ (List.mem_append_right _ (List.mem_append_right _ (List.mem_append_left _ (List.mem_of_getElem? (i := 30) rfl : _ ∈ gW3)))))
theorem wq151 : (Cond.fieldLink RX11 95 "TenRules" "engine" "LTenRules$Engine;" : Cond) ∈ G := List.mem_append_left _ (List.mem_append_right _ (List.mem_append_right _ (List.mem_append_right _ (List.mem_append_left _ (List.mem_of_getElem? (i := 31) rfl : _ ∈ gW3)))))
theorem wq152 : (Cond.classLink RX11 99 RX10 : Cond) ∈ G := List.mem_append_left _ (List.mem_append_right _ (List.mem_append_right _ (List.mem_append_right _ (List.mem_append_left _ (List.mem_of_getElem? (i := 32) rfl : _ ∈ gW3)))))
theorem wq153 : (Cond.instantiable RX10 4 : Cond) ∈ G := List.mem_append_left _ (List.mem_append_right _ (List.mem_append_right _ (List.mem_append_right _ (List.mem_append_left _ (List.mem_of_getElem? (i := 33) rfl : _ ∈ gW3)))))
theorem wq154 : (Cond.initialized RX10 : Cond) ∈ G := List.mem_append_left _ (List.mem_append_right _ (List.mem_append_right _ (List.mem_append_right _ (List.mem_append_left _ (List.mem_of_getElem? (i := 34) rfl : _ ∈ gW3)))))
theorem wq155 : (Cond.methodLink RX10 3 objectInit : Cond) ∈ G := List.mem_append_left _ (List.mem_append_right _ (List.mem_append_right _ (List.mem_append_right _ (List.mem_append_left _ (List.mem_of_getElem? (i := 35) rfl : _ ∈ gW3)))))
theorem wq156 : (Cond.fieldLink RX10 11 "TenRules$Writer" "row" "[I" : Cond) ∈ G := List.mem_append_left _ (List.mem_append_right _ (List.mem_append_right _ (List.mem_append_right _ (List.mem_append_left _ (List.mem_of_getElem? (i := 36) rfl : _ ∈ gW3)))))
theorem wq157 : (Cond.fieldLink RX10 15 "TenRules$Writer" "arena" "LTenRules$Arena;" : Cond) ∈ G := List.mem_append_left _ (List.mem_append_right _ (List.mem_append_right _ (List.mem_append_right _ (List.mem_append_left _ (List.mem_of_getElem? (i := 37) rfl : _ ∈ gW3)))))
theorem wq158 : (Cond.fieldLink RX10 19 "TenRules$Writer" "told" "LTenRules$Told;" : Cond) ∈ G := List.mem_append_left _ (List.mem_append_right _ (List.mem_append_right _ (List.mem_append_right _ (List.mem_append_left _ (List.mem_of_getElem? (i := 38) rfl : _ ∈ gW3)))))
theorem wq159 : (Cond.methodLink RX11 101 yX10_init : Cond) ∈ G := List.mem_append_left _ (List.mem_append_right _ (List.mem_append_right _ (List.mem_append_right _ (List.mem_append_left _ (List.mem_of_getElem? (i := 39) rfl : _ ∈ gW3)))))
theorem wq160 : (Cond.instanceMethod yX10_init : Cond) ∈ G := List.mem_append_left _ (List.mem_append_right _ (List.mem_append_right _ (List.mem_append_right _ (List.mem_append_right _ (List.mem_append_left _ (List.mem_of_getElem? (i := 0) rfl : _ ∈ gW4))))))
theorem wq161 : (Cond.fieldLink RX11 104 "TenRules" "writer" "LTenRules$Writer;" : Cond) ∈ G := List.mem_append_left _ (List.mem_append_right _ (List.mem_append_right _ (List.mem_append_right _ (List.mem_append_right _ (List.mem_append_left _ (List.mem_of_getElem? (i := 1) rfl : _ ∈ gW4))))))
theorem wq162 : (Cond.methodLink RX12 3 objectInit : Cond) ∈ G := List.mem_append_left _ (List.mem_append_right _ (List.mem_append_right _ (List.mem_append_right _ (List.mem_append_right _ (List.mem_append_left _ (List.mem_of_getElem? (i := 2) rfl : _ ∈ gW4))))))
theorem wq163 : (Cond.fieldLink RX12 9 "TenRulesModel" "wrongAt" "I" : Cond) ∈ G := List.mem_append_left _ (List.mem_append_right _ (List.mem_append_right _ (List.mem_append_right _ (List.mem_append_right _ (List.mem_append_left _ (List.mem_of_getElem? (i := 3) rfl : _ ∈ gW4))))))
theorem wq164 : (Cond.fieldLink RX12 13 "TenRulesModel" "tape" "[I" : Cond) ∈ G := List.mem_append_left _ (List.mem_append_right _ (List.mem_append_right _ (List.mem_append_right _ (List.mem_append_right _ (List.mem_append_left _ (List.mem_of_getElem? (i := 4) rfl : _ ∈ gW4))))))
theorem wq165 : (Cond.constant RX12 17 (60000) : Cond) ∈ G := List.mem_append_left _ (List.mem_append_right _ (List.mem_append_right _ (List.mem_append_right _ (List.mem_append_right _ (List.mem_append_left _ (List.mem_of_getElem? (i := 5) rfl : _ ∈ gW4))))))
theorem wq166 : (Cond.fieldLink RX12 18 "TenRulesModel" "takes" "[I" : Cond) ∈ G := List.mem_append_left _ (List.mem_append_right _ (List.mem_append_right _ (List.mem_append_right _ (List.mem_append_right _ (List.mem_append_left _ (List.mem_of_getElem? (i := 6) rfl : _ ∈ gW4))))))
theorem wq167 : (Cond.fieldLink RX12 21 "TenRulesModel" "gives" "[I" : Cond) ∈ G := List.mem_append_left _ (List.mem_append_right _ (List.mem_append_right _ (List.mem_append_right _ (List.mem_append_right _ (List.mem_append_left _ (List.mem_of_getElem? (i := 7) rfl : _ ∈ gW4))))))
theorem wq168 : (Cond.fieldLink RX12 24 "TenRulesModel" "nextType" "[I" : Cond) ∈ G := List.mem_append_left _ (List.mem_append_right _ (List.mem_append_right _ (List.mem_append_right _ (List.mem_append_right _ (List.mem_append_left _ (List.mem_of_getElem? (i := 8) rfl : _ ∈ gW4))))))
theorem wq169 : (Cond.fieldLink RX12 27 "TenRulesModel" "heads" "[I" : Cond) ∈ G := List.mem_append_left _ (List.mem_append_right _ (List.mem_append_right _ (List.mem_append_right _ (List.mem_append_right _ (List.mem_append_left _ (List.mem_of_getElem? (i := 9) rfl : _ ∈ gW4))))))
theorem wq170 : (Cond.fieldLink RX12 30 "TenRulesModel" "types" "I" : Cond) ∈ G := List.mem_append_left _ (List.mem_append_right _ (List.mem_append_right _ (List.mem_append_right _ (List.mem_append_right _ (List.mem_append_left _ (List.mem_of_getElem? (i := 10) rfl : _ ∈ gW4))))))
theorem wq171 : (Cond.arrayClass .long : Cond) ∈ G := List.mem_append_left _ (List.mem_append_right _ (List.mem_append_right _ (List.mem_append_right _ (List.mem_append_right _ (List.mem_append_left _ (List.mem_of_getElem? (i := 11) rfl : _ ∈ gW4))))))
theorem wq172 : (Cond.fieldLink RX12 33 "TenRulesModel" "varName" "[J" : Cond) ∈ G := List.mem_append_left _ (List.mem_append_right _ (List.mem_append_right _ (List.mem_append_right _ (List.mem_append_right _ (List.mem_append_left _ (List.mem_of_getElem? (i := 12) rfl : _ ∈ gW4))))))
theorem wq173 : (Cond.fieldLink RX12 37 "TenRulesModel" "constName" "[J" : Cond) ∈ G := List.mem_append_left _ (List.mem_append_right _ (List.mem_append_right _ (List.mem_append_right _ (List.mem_append_right _ (List.mem_append_left _ (List.mem_of_getElem? (i := 13) rfl : _ ∈ gW4))))))
theorem wq174 : (Cond.fieldLink RX12 40 "TenRulesModel" "thmName" "[J" : Cond) ∈ G := List.mem_append_left _ (List.mem_append_right _ (List.mem_append_right _ (List.mem_append_right _ (List.mem_append_right _ (List.mem_append_left _ (List.mem_of_getElem? (i := 14) rfl : _ ∈ gW4))))))
theorem wq175 : (Cond.fieldLink RX12 43 "TenRulesModel" "varType" "[I" : Cond) ∈ G := List.mem_append_left _ (List.mem_append_right _ (List.mem_append_right _ (List.mem_append_right _ (List.mem_append_right _ (List.mem_append_left _ (List.mem_of_getElem? (i := 15) rfl : _ ∈ gW4))))))
theorem wq176 : (Cond.fieldLink RX12 46 "TenRulesModel" "constType" "[I" : Cond) ∈ G := List.mem_append_left _ (List.mem_append_right _ (List.mem_append_right _ (List.mem_append_right _ (List.mem_append_right _ (List.mem_append_left _ (List.mem_of_getElem? (i := 16) rfl : _ ∈ gW4))))))
theorem wq177 : (Cond.fieldLink RX12 49 "TenRulesModel" "constThm" "[I" : Cond) ∈ G := List.mem_append_left _ (List.mem_append_right _ (List.mem_append_right _ (List.mem_append_right _ (List.mem_append_right _ (List.mem_append_left _ (List.mem_of_getElem? (i := 17) rfl : _ ∈ gW4))))))
theorem wq178 : (Cond.fieldLink RX12 52 "TenRulesModel" "read" "[I" : Cond) ∈ G := List.mem_append_left _ (List.mem_append_right _ (List.mem_append_right _ (List.mem_append_right _ (List.mem_append_right _ (List.mem_append_left _ (List.mem_of_getElem? (i := 18) rfl : _ ∈ gW4))))))
theorem wq179 : (Cond.fieldLink RX12 55 "TenRulesModel" "boundType" "[I" : Cond) ∈ G := List.mem_append_left _ (List.mem_append_right _ (List.mem_append_right _ (List.mem_append_right _ (List.mem_append_right _ (List.mem_append_left _ (List.mem_of_getElem? (i := 19) rfl : _ ∈ gW4))))))
theorem wq180 : (Cond.fieldLink RX12 58 "TenRulesModel" "boundName" "[J" : Cond) ∈ G := List.mem_append_left _ (List.mem_append_right _ (List.mem_append_right _ (List.mem_append_right _ (List.mem_append_right _ (List.mem_append_left _ (List.mem_of_getElem? (i := 20) rfl : _ ∈ gW4))))))
theorem wq181 : (Cond.constant RX12 61 (330720) : Cond) ∈ G := List.mem_append_left _ (List.mem_append_right _ (List.mem_append_right _ (List.mem_append_right _ (List.mem_append_right _ (List.mem_append_left _ (List.mem_of_getElem? (i := 21) rfl : _ ∈ gW4))))))
theorem wq182 : (Cond.fieldLink RX12 62 "TenRulesModel" "m" "[I" : Cond) ∈ G := List.mem_append_left _ (List.mem_append_right _ (List.mem_append_right _ (List.mem_append_right _ (List.mem_append_right _ (List.mem_append_left _ (List.mem_of_getElem? (i := 22) rfl : _ ∈ gW4))))))
theorem wq183 : (Cond.fieldLink RX12 65 "TenRulesModel" "len" "[I" : Cond) ∈ G := List.mem_append_left _ (List.mem_append_right _ (List.mem_append_right _ (List.mem_append_right _ (List.mem_append_right _ (List.mem_append_left _ (List.mem_of_getElem? (i := 23) rfl : _ ∈ gW4))))))
theorem wq184 : (Cond.fieldLink RX12 68 "TenRulesModel" "regLen" "[I" : Cond) ∈ G := List.mem_append_left _ (List.mem_append_right _ (List.mem_append_right _ (List.mem_append_right _ (List.mem_append_right _ (List.mem_append_left _ (List.mem_of_getElem? (i := 24) rfl : _ ∈ gW4))))))
theorem wq185 : (Cond.fieldLink RX12 71 "TenRulesModel" "hyps" "[I" : Cond) ∈ G := List.mem_append_left _ (List.mem_append_right _ (List.mem_append_right _ (List.mem_append_right _ (List.mem_append_right _ (List.mem_append_left _ (List.mem_of_getElem? (i := 25) rfl : _ ∈ gW4))))))
theorem wq186 : (Cond.fieldLink RX12 74 "TenRulesModel" "madeBy" "[I" : Cond) ∈ G := List.mem_append_left _ (List.mem_append_right _ (List.mem_append_right _ (List.mem_append_right _ (List.mem_append_right _ (List.mem_append_left _ (List.mem_of_getElem? (i := 26) rfl : _ ∈ gW4))))))
theorem wq187 : (Cond.fieldLink RX12 77 "TenRulesModel" "top" "I" : Cond) ∈ G := List.mem_append_left _ (List.mem_append_right _ (List.mem_append_right _ (List.mem_append_right _ (List.mem_append_right _ (List.mem_append_left _ (List.mem_of_getElem? (i := 27) rfl : _ ∈ gW4))))))
theorem wq188 : (Cond.fieldLink RX12 80 "TenRulesModel" "roundType" "[I" : Cond) ∈ G := List.mem_append_left _ (List.mem_append_right _ (List.mem_append_right _ (List.mem_append_right _ (List.mem_append_right _ (List.mem_append_left _ (List.mem_of_getElem? (i := 28) rfl : _ ∈ gW4))))))
theorem wq189 : (Cond.constant RX12 83 (36000) : Cond) ∈ G := List.mem_append_left _ (List.mem_append_right _ (List.mem_append_right _ (List.mem_append_right _ (List.mem_append_right _ (List.mem_append_left _ (List.mem_of_getElem? (i := 29) rfl : _ ∈ gW4))))))
theorem wq190 : (Cond.fieldLink RX12 84 "TenRulesModel" "ink" "[I" : Cond) ∈ G := List.mem_append_left _ (List.mem_append_right _ (List.mem_append_right _ (List.mem_append_right _ (List.mem_append_right _ (List.mem_append_left _ (List.mem_of_getElem? (i := 30) rfl : _ ∈ gW4))))))
theorem wq191 : (Cond.fieldLink RX12 87 "TenRulesModel" "inked" "[I" : Cond) ∈ G := List.mem_append_left _ (List.mem_append_right _ (List.mem_append_right _ (List.mem_append_right _ (List.mem_append_right _ (List.mem_append_left _ (List.mem_of_getElem? (i := 31) rfl : _ ∈ gW4))))))
theorem wq192 : (Cond.fieldLink RX12 90 "TenRulesModel" "calls" "[I" : Cond) ∈ G := List.mem_append_left _ (List.mem_append_right _ (List.mem_append_right _ (List.mem_append_right _ (List.mem_append_right _ (List.mem_append_left _ (List.mem_of_getElem? (i := 32) rfl : _ ∈ gW4))))))
theorem wq193 : (Cond.fieldLink RX12 93 "TenRulesModel" "used" "[I" : Cond) ∈ G := List.mem_append_left _ (List.mem_append_right _ (List.mem_append_right _ (List.mem_append_right _ (List.mem_append_right _ (List.mem_append_left _ (List.mem_of_getElem? (i := 33) rfl : _ ∈ gW4))))))
theorem wq194 : (Cond.fieldLink RX12 96 "TenRulesModel" "conv" "[I" : Cond) ∈ G := List.mem_append_left _ (List.mem_append_right _ (List.mem_append_right _ (List.mem_append_right _ (List.mem_append_right _ (List.mem_append_left _ (List.mem_of_getElem? (i := 34) rfl : _ ∈ gW4))))))
theorem wq195 : (Cond.fieldLink RX12 99 "TenRulesModel" "first" "[I" : Cond) ∈ G := List.mem_append_left _ (List.mem_append_right _ (List.mem_append_right _ (List.mem_append_right _ (List.mem_append_right _ (List.mem_append_left _ (List.mem_of_getElem? (i := 35) rfl : _ ∈ gW4))))))
theorem wq196 : (Cond.fieldLink RX12 102 "TenRulesModel" "second" "[I" : Cond) ∈ G := List.mem_append_left _ (List.mem_append_right _ (List.mem_append_right _ (List.mem_append_right _ (List.mem_append_right _ (List.mem_append_left _ (List.mem_of_getElem? (i := 36) rfl : _ ∈ gW4))))))
theorem wq197 : (Cond.fieldLink RX12 105 "TenRulesModel" "found" "[I" : Cond) ∈ G := List.mem_append_left _ (List.mem_append_right _ (List.mem_append_right _ (List.mem_append_right _ (List.mem_append_right _ (List.mem_append_left _ (List.mem_of_getElem? (i := 37) rfl : _ ∈ gW4))))))
theorem wq198 : (Cond.code yJ0_charAt_5068e cJ0_charAt_5068e 2 (some .char) : Cond) ∈ G := List.mem_append_left _ (List.mem_append_right _ (List.mem_append_right _ (List.mem_append_right _ (List.mem_append_right _ (List.mem_append_left _ (List.mem_of_getElem? (i := 38) rfl : _ ∈ gW4))))))
theorem wq199 : (Cond.initialized "java/lang/String" : Cond) ∈ G := List.mem_append_left _ (List.mem_append_right _ (List.mem_append_right _ (List.mem_append_right _ (List.mem_append_right _ (List.mem_append_left _ (List.mem_of_getElem? (i := 39) rfl : _ ∈ gW4))))))
theorem wq200 : (Cond.code yJ0_checkIndex_df160 cJ0_checkIndex_df160 2 none : Cond) ∈ G := List.mem_append_left _ (List.mem_append_right _ (List.mem_append_right _ (List.mem_append_right _ (List.mem_append_right _ (List.mem_append_right _ ((List.mem_of_getElem? (i := 0) rfl : _ ∈ gW5)))))))
theorem wq201 : (Cond.code yJ0_coder_7d493 cJ0_coder_7d493 1 (some .byte) : Cond) ∈ G := List.mem_append_left _ (List.mem_append_right _ (List.mem_append_right _ (List.mem_append_right _ (List.mem_append_right _ (List.mem_append_right _ ((List.mem_of_getElem? (i := 1) rfl : _ ∈ gW5)))))))
theorem wq202 : (Cond.code yJ0_isLatin1_aae02 cJ0_isLatin1_aae02 1 (some .boolean) : Cond) ∈ G := List.mem_append_left _ (List.mem_append_right _ (List.mem_append_right _ (List.mem_append_right _ (List.mem_append_right _ (List.mem_append_right _ ((List.mem_of_getElem? (i := 2) rfl : _ ∈ gW5)))))))
theorem wq203 : (Cond.code yJ0_length_8abf5 cJ0_length_8abf5 1 (some .int) : Cond) ∈ G := List.mem_append_left _ (List.mem_append_right _ (List.mem_append_right _ (List.mem_append_right _ (List.mem_append_right _ (List.mem_append_right _ ((List.mem_of_getElem? (i := 3) rfl : _ ∈ gW5)))))))
theorem wq204 : (Cond.code yJ1_charAt_3b067 cJ1_charAt_3b067 2 (some .char) : Cond) ∈ G := List.mem_append_left _ (List.mem_append_right _ (List.mem_append_right _ (List.mem_append_right _ (List.mem_append_right _ (List.mem_append_right _ ((List.mem_of_getElem? (i := 4) rfl : _ ∈ gW5)))))))
theorem wq205 : (Cond.initialized "java/lang/StringLatin1" : Cond) ∈ G := List.mem_append_left _ (List.mem_append_right _ (List.mem_append_right _ (List.mem_append_right _ (List.mem_append_right _ (List.mem_append_right _ ((List.mem_of_getElem? (i := 5) rfl : _ ∈ gW5)))))))
theorem wq206 : (Cond.code yJ3_checkIndex_8e157 cJ3_checkIndex_8e157 3 (some .int) : Cond) ∈ G := List.mem_append_left _ (List.mem_append_right _ (List.mem_append_right _ (List.mem_append_right _ (List.mem_append_right _ (List.mem_append_right _ ((List.mem_of_getElem? (i := 6) rfl : _ ∈ gW5)))))))
theorem wq207 : (Cond.initialized "jdk/internal/util/Preconditions" : Cond) ∈ G := List.mem_append_left _ (List.mem_append_right _ (List.mem_append_right _ (List.mem_append_right _ (List.mem_append_right _ (List.mem_append_right _ ((List.mem_of_getElem? (i := 7) rfl : _ ∈ gW5)))))))
theorem wq208 : (Cond.code yJ7_fill_53178 cJ7_fill_53178 4 none : Cond) ∈ G := List.mem_append_left _ (List.mem_append_right _ (List.mem_append_right _ (List.mem_append_right _ (List.mem_append_right _ (List.mem_append_right _ ((List.mem_of_getElem? (i := 8) rfl : _ ∈ gW5)))))))
theorem wq209 : (Cond.initialized "java/util/Arrays" : Cond) ∈ G := List.mem_append_left _ (List.mem_append_right _ (List.mem_append_right _ (List.mem_append_right _ (List.mem_append_right _ (List.mem_append_right _ ((List.mem_of_getElem? (i := 9) rfl : _ ∈ gW5)))))))
theorem wq210 : (Cond.code yX0_init cX0_init 1 none : Cond) ∈ G := List.mem_append_left _ (List.mem_append_right _ (List.mem_append_right _ (List.mem_append_right _ (List.mem_append_right _ (List.mem_append_right _ ((List.mem_of_getElem? (i := 10) rfl : _ ∈ gW5)))))))
theorem wq211 : (Cond.code yX0_link cX0_link 3 none : Cond) ∈ G := List.mem_append_left _ (List.mem_append_right _ (List.mem_append_right _ (List.mem_append_right _ (List.mem_append_right _ (List.mem_append_right _ ((List.mem_of_getElem? (i := 11) rfl : _ ∈ gW5)))))))
theorem wq212 : (Cond.code yX0_measure cX0_measure 6 none : Cond) ∈ G := List.mem_append_left _ (List.mem_append_right _ (List.mem_append_right _ (List.mem_append_right _ (List.mem_append_right _ (List.mem_append_right _ ((List.mem_of_getElem? (i := 12) rfl : _ ∈ gW5)))))))
theorem wq213 : (Cond.code yX0_node cX0_node 8 (some .int) : Cond) ∈ G := List.mem_append_left _ (List.mem_append_right _ (List.mem_append_right _ (List.mem_append_right _ (List.mem_append_right _ (List.mem_append_right _ ((List.mem_of_getElem? (i := 13) rfl : _ ∈ gW5)))))))
theorem wq214 : (Cond.code yX10_init cX10_init 3 none : Cond) ∈ G := List.mem_append_left _ (List.mem_append_right _ (List.mem_append_right _ (List.mem_append_right _ (List.mem_append_right _ (List.mem_append_right _ ((List.mem_of_getElem? (i := 14) rfl : _ ∈ gW5)))))))
theorem wq215 : (Cond.code yX11_init cX11_init 1 none : Cond) ∈ G := List.mem_append_left _ (List.mem_append_right _ (List.mem_append_right _ (List.mem_append_right _ (List.mem_append_right _ (List.mem_append_right _ ((List.mem_of_getElem? (i := 15) rfl : _ ∈ gW5)))))))
theorem wq216 : (Cond.initialized RX11 : Cond) ∈ G := List.mem_append_left _ (List.mem_append_right _ (List.mem_append_right _ (List.mem_append_right _ (List.mem_append_right _ (List.mem_append_right _ ((List.mem_of_getElem? (i := 16) rfl : _ ∈ gW5)))))))
theorem wq217 : (Cond.code yX12_init cX12_init 1 none : Cond) ∈ G := List.mem_append_left _ (List.mem_append_right _ (List.mem_append_right _ (List.mem_append_right _ (List.mem_append_right _ (List.mem_append_right _ ((List.mem_of_getElem? (i := 17) rfl : _ ∈ gW5)))))))
theorem wq218 : (Cond.initialized RX12 : Cond) ∈ G := List.mem_append_left _ (List.mem_append_right _ (List.mem_append_right _ (List.mem_append_right _ (List.mem_append_right _ (List.mem_append_right _ ((List.mem_of_getElem? (i := 18) rfl : _ ∈ gW5)))))))
theorem wq219 : (Cond.code yX1_init cX1_init 3 none : Cond) ∈ G := List.mem_append_left _ (List.mem_append_right _ (List.mem_append_right _ (List.mem_append_right _ (List.mem_append_right _ (List.mem_append_right _ ((List.mem_of_getElem? (i := 19) rfl : _ ∈ gW5)))))))
theorem wq220 : (Cond.code yX2_init cX2_init 6 none : Cond) ∈ G := List.mem_append_left _ (List.mem_append_right _ (List.mem_append_right _ (List.mem_append_right _ (List.mem_append_right _ (List.mem_append_right _ ((List.mem_of_getElem? (i := 20) rfl : _ ∈ gW5)))))))
theorem wq221 : (Cond.code yX3_init cX3_init 4 none : Cond) ∈ G := List.mem_append_left _ (List.mem_append_right _ (List.mem_append_right _ (List.mem_append_right _ (List.mem_append_right _ (List.mem_append_right _ ((List.mem_of_getElem? (i := 21) rfl : _ ∈ gW5)))))))
theorem wq222 : (Cond.code yX4_init cX4_init 7 none : Cond) ∈ G := List.mem_append_left _ (List.mem_append_right _ (List.mem_append_right _ (List.mem_append_right _ (List.mem_append_right _ (List.mem_append_right _ ((List.mem_of_getElem? (i := 22) rfl : _ ∈ gW5)))))))
theorem wq223 : (Cond.code yX5_init cX5_init 4 none : Cond) ∈ G := List.mem_append_left _ (List.mem_append_right _ (List.mem_append_right _ (List.mem_append_right _ (List.mem_append_right _ (List.mem_append_right _ ((List.mem_of_getElem? (i := 23) rfl : _ ∈ gW5)))))))
theorem wq224 : (Cond.code yX6_init cX6_init 5 none : Cond) ∈ G := List.mem_append_left _ (List.mem_append_right _ (List.mem_append_right _ (List.mem_append_right _ (List.mem_append_right _ (List.mem_append_right _ ((List.mem_of_getElem? (i := 24) rfl : _ ∈ gW5)))))))
theorem wq225 : (Cond.code yX7_init cX7_init 2 none : Cond) ∈ G := List.mem_append_left _ (List.mem_append_right _ (List.mem_append_right _ (List.mem_append_right _ (List.mem_append_right _ (List.mem_append_right _ ((List.mem_of_getElem? (i := 25) rfl : _ ∈ gW5)))))))
theorem wq226 : (Cond.code yX8_init cX8_init 7 none : Cond) ∈ G := List.mem_append_left _ (List.mem_append_right _ (List.mem_append_right _ (List.mem_append_right _ (List.mem_append_right _ (List.mem_append_right _ ((List.mem_of_getElem? (i := 26) rfl : _ ∈ gW5)))))))
theorem wq227 : (Cond.code yX8_isLetter cX8_isLetter 1 (some .boolean) : Cond) ∈ G := List.mem_append_left _ (List.mem_append_right _ (List.mem_append_right _ (List.mem_append_right _ (List.mem_append_right _ (List.mem_append_right _ ((List.mem_of_getElem? (i := 27) rfl : _ ∈ gW5)))))))
theorem wq228 : (Cond.code yX8_padded cX8_padded 4 (some .int) : Cond) ∈ G := List.mem_append_left _ (List.mem_append_right _ (List.mem_append_right _ (List.mem_append_right _ (List.mem_append_right _ (List.mem_append_right _ ((List.mem_of_getElem? (i := 28) rfl : _ ∈ gW5)))))))
theorem wq229 : (Cond.code yX9_init cX9_init 2 none : Cond) ∈ G := List.mem_append_left _ (List.mem_append_right _ (List.mem_append_right _ (List.mem_append_right _ (List.mem_append_right _ (List.mem_append_right _ ((List.mem_of_getElem? (i := 29) rfl : _ ∈ gW5)))))))
theorem iX0 : ∀ w ∈ u_ws RX0 TX0 14, w ∈ G := fun w h => List.mem_append_right _ (List.mem_append_left _ (List.mem_append_left _ (List.mem_append_left _ (List.mem_append_left _ (List.mem_append_left _ (List.mem_append_left _ (List.mem_append_left _ (List.mem_append_left _ (List.mem_append_left _ (List.mem_append_left _ (List.mem_append_left _ (List.mem_append_left _ (h)))))))))))))
theorem iX1 : ∀ w ∈ u_ws RX1 TX1 6, w ∈ G := fun w h => List.mem_append_right _ (List.mem_append_left _ (List.mem_append_left _ (List.mem_append_left _ (List.mem_append_left _ (List.mem_append_left _ (List.mem_append_left _ (List.mem_append_left _ (List.mem_append_left _ (List.mem_append_left _ (List.mem_append_left _ (List.mem_append_left _ (List.mem_append_right _ h))))))))))))
theorem iX2 : ∀ w ∈ u_ws RX2 TX2 12, w ∈ G := fun w h => List.mem_append_right _ (List.mem_append_left _ (List.mem_append_left _ (List.mem_append_left _ (List.mem_append_left _ (List.mem_append_left _ (List.mem_append_left _ (List.mem_append_left _ (List.mem_append_left _ (List.mem_append_left _ (List.mem_append_left _ (List.mem_append_right _ h)))))))))))
theorem iX3 : ∀ w ∈ u_ws RX3 TX3 8, w ∈ G := fun w h => List.mem_append_right _ (List.mem_append_left _ (List.mem_append_left _ (List.mem_append_left _ (List.mem_append_left _ (List.mem_append_left _ (List.mem_append_left _ (List.mem_append_left _ (List.mem_append_left _ (List.mem_append_left _ (List.mem_append_right _ h))))))))))
theorem iX4 : ∀ w ∈ u_ws RX4 TX4 6, w ∈ G := fun w h => List.mem_append_right _ (List.mem_append_left _ (List.mem_append_left _ (List.mem_append_left _ (List.mem_append_left _ (List.mem_append_left _ (List.mem_append_left _ (List.mem_append_left _ (List.mem_append_left _ (List.mem_append_right _ h)))))))))
theorem iX5 : ∀ w ∈ u_ws RX5 TX5 3, w ∈ G := fun w h => List.mem_append_right _ (List.mem_append_left _ (List.mem_append_left _ (List.mem_append_left _ (List.mem_append_left _ (List.mem_append_left _ (List.mem_append_left _ (List.mem_append_left _ (List.mem_append_right _ h))))))))
theorem iX6 : ∀ w ∈ u_ws RX6 TX6 9, w ∈ G := fun w h => List.mem_append_right _ (List.mem_append_left _ (List.mem_append_left _ (List.mem_append_left _ (List.mem_append_left _ (List.mem_append_left _ (List.mem_append_left _ (List.mem_append_right _ h)))))))
theorem iX7 : ∀ w ∈ u_ws RX7 TX7 1, w ∈ G := fun w h => List.mem_append_right _ (List.mem_append_left _ (List.mem_append_left _ (List.mem_append_left _ (List.mem_append_left _ (List.mem_append_left _ (List.mem_append_right _ h))))))
theorem iX8 : ∀ w ∈ u_ws RX8 TX8 12, w ∈ G := fun w h => List.mem_append_right _ (List.mem_append_left _ (List.mem_append_left _ (List.mem_append_left _ (List.mem_append_left _ (List.mem_append_right _ h)))))
theorem iX9 : ∀ w ∈ u_ws RX9 TX9 15, w ∈ G := fun w h => List.mem_append_right _ (List.mem_append_left _ (List.mem_append_left _ (List.mem_append_left _ (List.mem_append_right _ h))))
theorem iX10 : ∀ w ∈ u_ws RX10 TX10 4, w ∈ G := fun w h => List.mem_append_right _ (List.mem_append_left _ (List.mem_append_left _ (List.mem_append_right _ h)))
theorem iX11 : ∀ w ∈ u_ws RX11 TX11 16, w ∈ G := fun w h => List.mem_append_right _ (List.mem_append_left _ (List.mem_append_right _ h))
theorem iX12 : ∀ w ∈ u_ws RX12 TX12 65, w ∈ G := fun w h => List.mem_append_right _ (List.mem_append_right _ h)
theorem wt0 : (Cond.methodLink RX11 1 objectInit : Cond) ∈ lw_tbl := List.mem_append_right _ (List.mem_append_left _ (List.mem_of_getElem? (i := 32) rfl : _ ∈ tables_1_1))
theorem wt1 : (Cond.instanceMethod objectInit : Cond) ∈ lw_tbl := List.mem_append_right _ (List.mem_append_left _ (List.mem_of_getElem? (i := 33) rfl : _ ∈ tables_1_1))
theorem wt2 : (Cond.code objectInit ⟨#[0xb1]⟩ 1 none : Cond) ∈ lw_tbl := List.mem_append_right _ (List.mem_append_left _ (List.mem_of_getElem? (i := 34) rfl : _ ∈ tables_1_1))
theorem wt3 : (Cond.arrayClass .int : Cond) ∈ lw_tbl := List.mem_append_right _ (List.mem_append_left _ (List.mem_of_getElem? (i := 123) rfl : _ ∈ tables_1_1))
theorem wt4 : (Cond.fieldLink RX11 9 "TenRules" "tape" "[I" : Cond) ∈ lw_tbl := List.mem_append_right _ (List.mem_append_right _ (List.mem_append_right _ (List.mem_append_left _ (List.mem_of_getElem? (i := 14) rfl : _ ∈ tables_1_3))))
theorem wt5 : (Cond.classLink RX11 13 RX0 : Cond) ∈ lw_tbl := List.mem_append_right _ (List.mem_append_left _ (List.mem_of_getElem? (i := 35) rfl : _ ∈ tables_1_1))
theorem wt6 : (Cond.instantiable RX0 14 : Cond) ∈ lw_tbl := List.mem_append_right _ (List.mem_append_left _ (List.mem_of_getElem? (i := 36) rfl : _ ∈ tables_1_1))
theorem wt7 : (Cond.initialized RX0 : Cond) ∈ lw_tbl := List.mem_append_right _ (List.mem_append_left _ (List.mem_of_getElem? (i := 2) rfl : _ ∈ tables_1_1))
theorem wt8 : (Cond.methodLink RX0 3 objectInit : Cond) ∈ lw_tbl := List.mem_append_right _ (List.mem_append_left _ (List.mem_of_getElem? (i := 40) rfl : _ ∈ tables_1_1))
theorem wt9 : (Cond.fieldLink RX0 11 "TenRules$Arena" "kinds" "[I" : Cond) ∈ lw_tbl := List.mem_append_right _ (List.mem_append_left _ (List.mem_of_getElem? (i := 80) rfl : _ ∈ tables_1_1))
theorem wt10 : (Cond.fieldLink RX0 15 "TenRules$Arena" "lefts" "[I" : Cond) ∈ lw_tbl := List.mem_append_right _ (List.mem_append_left _ (List.mem_of_getElem? (i := 81) rfl : _ ∈ tables_1_1))
theorem wt11 : (Cond.fieldLink RX0 18 "TenRules$Arena" "rights" "[I" : Cond) ∈ lw_tbl := List.mem_append_right _ (List.mem_append_left _ (List.mem_of_getElem? (i := 82) rfl : _ ∈ tables_1_1))
theorem wt12 : (Cond.fieldLink RX0 21 "TenRules$Arena" "types" "[I" : Cond) ∈ lw_tbl := List.mem_append_right _ (List.mem_append_left _ (List.mem_of_getElem? (i := 83) rfl : _ ∈ tables_1_1))
theorem wt13 : (Cond.fieldLink RX0 24 "TenRules$Arena" "sizes" "[I" : Cond) ∈ lw_tbl := List.mem_append_right _ (List.mem_append_left _ (List.mem_of_getElem? (i := 84) rfl : _ ∈ tables_1_1))
theorem wt14 : (Cond.fieldLink RX0 27 "TenRules$Arena" "looses" "[I" : Cond) ∈ lw_tbl := List.mem_append_right _ (List.mem_append_left _ (List.mem_of_getElem? (i := 85) rfl : _ ∈ tables_1_1))
theorem wt15 : (Cond.fieldLink RX0 30 "TenRules$Arena" "vars" "[I" : Cond) ∈ lw_tbl := List.mem_append_right _ (List.mem_append_left _ (List.mem_of_getElem? (i := 86) rfl : _ ∈ tables_1_1))
theorem wt16 : (Cond.fieldLink RX0 33 "TenRules$Arena" "consts" "[I" : Cond) ∈ lw_tbl := List.mem_append_right _ (List.mem_append_left _ (List.mem_of_getElem? (i := 87) rfl : _ ∈ tables_1_1))
theorem wt17 : (Cond.fieldLink RX0 36 "TenRules$Arena" "hashes" "[I" : Cond) ∈ lw_tbl := List.mem_append_right _ (List.mem_append_left _ (List.mem_of_getElem? (i := 88) rfl : _ ∈ tables_1_1))
theorem wt18 : (Cond.fieldLink RX0 39 "TenRules$Arena" "nexts" "[I" : Cond) ∈ lw_tbl := List.mem_append_right _ (List.mem_append_left _ (List.mem_of_getElem? (i := 89) rfl : _ ∈ tables_1_1))
theorem wt19 : (Cond.fieldLink RX0 42 "TenRules$Arena" "moves" "[I" : Cond) ∈ lw_tbl := List.mem_append_right _ (List.mem_append_left _ (List.mem_of_getElem? (i := 90) rfl : _ ∈ tables_1_1))
theorem wt20 : (Cond.fieldLink RX0 45 "TenRules$Arena" "heads" "[I" : Cond) ∈ lw_tbl := List.mem_append_right _ (List.mem_append_left _ (List.mem_of_getElem? (i := 91) rfl : _ ∈ tables_1_1))
theorem wt21 : (Cond.methodLink RX0 48 yJ7_fill_53178 : Cond) ∈ lw_tbl := List.mem_append_right _ (List.mem_append_left _ (List.mem_of_getElem? (i := 41) rfl : _ ∈ tables_1_1))
theorem wt22 : (Cond.static yJ7_fill_53178 : Cond) ∈ lw_tbl := List.mem_append_right _ (List.mem_append_left _ (List.mem_of_getElem? (i := 42) rfl : _ ∈ tables_1_1))
theorem wt23 : (Cond.fieldLink RX0 62 "TenRules$Arena" "count" "I" : Cond) ∈ lw_tbl := List.mem_append_right _ (List.mem_append_left _ (List.mem_of_getElem? (i := 92) rfl : _ ∈ tables_1_1))
theorem wt24 : (Cond.methodLink RX0 68 yX0_link : Cond) ∈ lw_tbl := List.mem_append_right _ (List.mem_append_left _ (List.mem_of_getElem? (i := 68) rfl : _ ∈ tables_1_1))
theorem wt25 : (Cond.instanceMethod yX0_link : Cond) ∈ lw_tbl := List.mem_append_right _ (List.mem_append_left _ (List.mem_of_getElem? (i := 70) rfl : _ ∈ tables_1_1))
theorem wt26 : (Cond.selects RX0 yX0_link yX0_link : Cond) ∈ lw_tbl := List.mem_append_left _ (List.mem_of_getElem? (i := 0) rfl : _ ∈ k2_sels lw_privs)
theorem wt27 : (Cond.methodLink RX0 72 yX0_measure : Cond) ∈ lw_tbl := List.mem_append_right _ (List.mem_append_left _ (List.mem_of_getElem? (i := 72) rfl : _ ∈ tables_1_1))
theorem wt28 : (Cond.instanceMethod yX0_measure : Cond) ∈ lw_tbl := List.mem_append_right _ (List.mem_append_left _ (List.mem_of_getElem? (i := 74) rfl : _ ∈ tables_1_1))
theorem wt29 : (Cond.selects RX0 yX0_measure yX0_measure : Cond) ∈ lw_tbl := List.mem_append_left _ (List.mem_of_getElem? (i := 1) rfl : _ ∈ k2_sels lw_privs)
theorem wt30 : (Cond.methodLink RX0 54 yX0_node : Cond) ∈ lw_tbl := List.mem_append_right _ (List.mem_append_left _ (List.mem_of_getElem? (i := 44) rfl : _ ∈ tables_1_1))
theorem wt31 : (Cond.instanceMethod yX0_node : Cond) ∈ lw_tbl := List.mem_append_right _ (List.mem_append_left _ (List.mem_of_getElem? (i := 45) rfl : _ ∈ tables_1_1))
theorem wt32 : (Cond.selects RX0 yX0_node yX0_node : Cond) ∈ lw_tbl := List.mem_append_right _ (List.mem_append_left _ (List.mem_of_getElem? (i := 46) rfl : _ ∈ tables_1_1))
theorem wt33 : (Cond.fieldLink RX0 58 "TenRules$Arena" "marked" "I" : Cond) ∈ lw_tbl := List.mem_append_right _ (List.mem_append_left _ (List.mem_of_getElem? (i := 93) rfl : _ ∈ tables_1_1))
theorem wt34 : (Cond.methodLink RX11 15 yX0_init : Cond) ∈ lw_tbl := List.mem_append_right _ (List.mem_append_left _ (List.mem_of_getElem? (i := 37) rfl : _ ∈ tables_1_1))
theorem wt35 : (Cond.instanceMethod yX0_init : Cond) ∈ lw_tbl := List.mem_append_right _ (List.mem_append_left _ (List.mem_of_getElem? (i := 38) rfl : _ ∈ tables_1_1))
theorem wt36 : (Cond.fieldLink RX11 16 "TenRules" "arena" "LTenRules$Arena;" : Cond) ∈ lw_tbl := List.mem_append_right _ (List.mem_append_right _ (List.mem_append_right _ (List.mem_append_left _ (List.mem_of_getElem? (i := 19) rfl : _ ∈ tables_1_3))))
theorem wt37 : (Cond.classLink RX11 20 RX7 : Cond) ∈ lw_tbl := List.mem_append_right _ (List.mem_append_left _ (List.mem_of_getElem? (i := 124) rfl : _ ∈ tables_1_1))
theorem wt38 : (Cond.instantiable RX7 1 : Cond) ∈ lw_tbl := List.mem_append_right _ (List.mem_append_left _ (List.mem_of_getElem? (i := 125) rfl : _ ∈ tables_1_1))
theorem wt39 : (Cond.initialized RX7 : Cond) ∈ lw_tbl := List.mem_append_right _ (List.mem_append_left _ (List.mem_of_getElem? (i := 6) rfl : _ ∈ tables_1_1))
theorem wt40 : (Cond.methodLink RX7 3 objectInit : Cond) ∈ lw_tbl := List.mem_append_right _ (List.mem_append_left _ (List.mem_of_getElem? (i := 129) rfl : _ ∈ tables_1_1))
theorem wt41 : (Cond.fieldLink RX7 9 "TenRules$Terms" "arena" "LTenRules$Arena;" : Cond) ∈ lw_tbl := List.mem_append_right _ (List.mem_append_left _ (List.mem_of_getElem? (i := 130) rfl : _ ∈ tables_1_1))
theorem wt42 : (Cond.methodLink RX11 22 yX7_init : Cond) ∈ lw_tbl := List.mem_append_right _ (List.mem_append_left _ (List.mem_of_getElem? (i := 126) rfl : _ ∈ tables_1_1))
theorem wt43 : (Cond.instanceMethod yX7_init : Cond) ∈ lw_tbl := List.mem_append_right _ (List.mem_append_left _ (List.mem_of_getElem? (i := 127) rfl : _ ∈ tables_1_1))
theorem wt44 : (Cond.fieldLink RX11 25 "TenRules" "terms" "LTenRules$Terms;" : Cond) ∈ lw_tbl := List.mem_append_right _ (List.mem_append_right _ (List.mem_append_right _ (List.mem_append_left _ (List.mem_of_getElem? (i := 20) rfl : _ ∈ tables_1_3))))
theorem wt45 : (Cond.classLink RX11 29 RX9 : Cond) ∈ lw_tbl := List.mem_append_right _ (List.mem_append_left _ (List.mem_of_getElem? (i := 134) rfl : _ ∈ tables_1_1))
theorem wt46 : (Cond.instantiable RX9 15 : Cond) ∈ lw_tbl := List.mem_append_right _ (List.mem_append_left _ (List.mem_of_getElem? (i := 135) rfl : _ ∈ tables_1_1))
theorem wt47 : (Cond.initialized RX9 : Cond) ∈ lw_tbl := List.mem_append_right _ (List.mem_append_left _ (List.mem_of_getElem? (i := 7) rfl : _ ∈ tables_1_1))
theorem wt48 : (Cond.methodLink RX9 3 objectInit : Cond) ∈ lw_tbl := List.mem_append_right _ (List.mem_append_left _ (List.mem_of_getElem? (i := 139) rfl : _ ∈ tables_1_1))
theorem wt49 : (Cond.fieldLink RX9 9 "TenRules$Told" "varNames" "[I" : Cond) ∈ lw_tbl := List.mem_append_right _ (List.mem_append_left _ (List.mem_of_getElem? (i := 141) rfl : _ ∈ tables_1_1))
theorem wt50 : (Cond.fieldLink RX9 15 "TenRules$Told" "varTypes" "[I" : Cond) ∈ lw_tbl := List.mem_append_right _ (List.mem_append_left _ (List.mem_of_getElem? (i := 142) rfl : _ ∈ tables_1_1))
theorem wt51 : (Cond.fieldLink RX9 18 "TenRules$Told" "constNames" "[I" : Cond) ∈ lw_tbl := List.mem_append_right _ (List.mem_append_left _ (List.mem_of_getElem? (i := 143) rfl : _ ∈ tables_1_1))
theorem wt52 : (Cond.fieldLink RX9 21 "TenRules$Told" "constTypes" "[I" : Cond) ∈ lw_tbl := List.mem_append_right _ (List.mem_append_left _ (List.mem_of_getElem? (i := 144) rfl : _ ∈ tables_1_1))
theorem wt53 : (Cond.fieldLink RX9 24 "TenRules$Told" "constTheorems" "[I" : Cond) ∈ lw_tbl := List.mem_append_right _ (List.mem_append_left _ (List.mem_of_getElem? (i := 145) rfl : _ ∈ tables_1_1))
theorem wt54 : (Cond.fieldLink RX9 27 "TenRules$Told" "theoremNodes" "[I" : Cond) ∈ lw_tbl := List.mem_append_right _ (List.mem_append_left _ (List.mem_of_getElem? (i := 146) rfl : _ ∈ tables_1_1))
theorem wt55 : (Cond.fieldLink RX9 30 "TenRules$Told" "theoremNames" "[I" : Cond) ∈ lw_tbl := List.mem_append_right _ (List.mem_append_left _ (List.mem_of_getElem? (i := 147) rfl : _ ∈ tables_1_1))
theorem wt56 : (Cond.fieldLink RX9 33 "TenRules$Told" "theoremMakers" "[I" : Cond) ∈ lw_tbl := List.mem_append_right _ (List.mem_append_left _ (List.mem_of_getElem? (i := 148) rfl : _ ∈ tables_1_1))
theorem wt57 : (Cond.fieldLink RX9 36 "TenRules$Told" "arena" "LTenRules$Arena;" : Cond) ∈ lw_tbl := List.mem_append_right _ (List.mem_append_left _ (List.mem_of_getElem? (i := 140) rfl : _ ∈ tables_1_1))
theorem wt58 : (Cond.methodLink RX11 31 yX9_init : Cond) ∈ lw_tbl := List.mem_append_right _ (List.mem_append_left _ (List.mem_of_getElem? (i := 136) rfl : _ ∈ tables_1_1))
theorem wt59 : (Cond.instanceMethod yX9_init : Cond) ∈ lw_tbl := List.mem_append_right _ (List.mem_append_left _ (List.mem_of_getElem? (i := 137) rfl : _ ∈ tables_1_1))
theorem wt60 : (Cond.fieldLink RX11 32 "TenRules" "told" "LTenRules$Told;" : Cond) ∈ lw_tbl := List.mem_append_right _ (List.mem_append_right _ (List.mem_append_right _ (List.mem_append_left _ (List.mem_of_getElem? (i := 21) rfl : _ ∈ tables_1_3))))
theorem wt61 : (Cond.classLink RX11 36 RX5 : Cond) ∈ lw_tbl := List.mem_append_right _ (List.mem_append_left _ (List.mem_of_getElem? (i := 192) rfl : _ ∈ tables_1_1))
theorem wt62 : (Cond.instantiable RX5 3 : Cond) ∈ lw_tbl := List.mem_append_right _ (List.mem_append_left _ (List.mem_of_getElem? (i := 193) rfl : _ ∈ tables_1_1))
theorem wt63 : (Cond.initialized RX5 : Cond) ∈ lw_tbl := List.mem_append_right _ (List.mem_append_left _ (List.mem_of_getElem? (i := 8) rfl : _ ∈ tables_1_1))
theorem wt64 : (Cond.methodLink RX5 3 objectInit : Cond) ∈ lw_tbl := List.mem_append_right _ (List.mem_append_left _ (List.mem_of_getElem? (i := 197) rfl : _ ∈ tables_1_1))
theorem wt65 : (Cond.fieldLink RX5 9 "TenRules$Survey" "arena" "LTenRules$Arena;" : Cond) ∈ lw_tbl := List.mem_append_right _ (List.mem_append_left _ (List.mem_of_getElem? (i := 198) rfl : _ ∈ tables_1_1))
theorem wt66 : (Cond.fieldLink RX5 15 "TenRules$Survey" "terms" "LTenRules$Terms;" : Cond) ∈ lw_tbl := List.mem_append_right _ (List.mem_append_left _ (List.mem_of_getElem? (i := 199) rfl : _ ∈ tables_1_1))
theorem wt67 : (Cond.fieldLink RX5 19 "TenRules$Survey" "told" "LTenRules$Told;" : Cond) ∈ lw_tbl := List.mem_append_right _ (List.mem_append_left _ (List.mem_of_getElem? (i := 200) rfl : _ ∈ tables_1_1))
theorem wt68 : (Cond.methodLink RX11 38 yX5_init : Cond) ∈ lw_tbl := List.mem_append_right _ (List.mem_append_left _ (List.mem_of_getElem? (i := 194) rfl : _ ∈ tables_1_1))
theorem wt69 : (Cond.instanceMethod yX5_init : Cond) ∈ lw_tbl := List.mem_append_right _ (List.mem_append_left _ (List.mem_of_getElem? (i := 195) rfl : _ ∈ tables_1_1))
theorem wt70 : (Cond.fieldLink RX11 41 "TenRules" "survey" "LTenRules$Survey;" : Cond) ∈ lw_tbl := List.mem_append_right _ (List.mem_append_right _ (List.mem_append_right _ (List.mem_append_left _ (List.mem_of_getElem? (i := 22) rfl : _ ∈ tables_1_3))))
theorem wt71 : (Cond.classLink RX11 45 RX3 : Cond) ∈ lw_tbl := List.mem_append_right _ (List.mem_append_left _ (List.mem_of_getElem? (i := 208) rfl : _ ∈ tables_1_1))
theorem wt72 : (Cond.instantiable RX3 8 : Cond) ∈ lw_tbl := List.mem_append_right _ (List.mem_append_left _ (List.mem_of_getElem? (i := 209) rfl : _ ∈ tables_1_1))
theorem wt73 : (Cond.initialized RX3 : Cond) ∈ lw_tbl := List.mem_append_right _ (List.mem_append_left _ (List.mem_of_getElem? (i := 9) rfl : _ ∈ tables_1_1))
theorem wt74 : (Cond.methodLink RX3 3 objectInit : Cond) ∈ lw_tbl := List.mem_append_right _ (List.mem_append_left _ (List.mem_of_getElem? (i := 213) rfl : _ ∈ tables_1_1))
theorem wt75 : (Cond.fieldLink RX3 9 "TenRules$Kernel" "counts" "[I" : Cond) ∈ lw_tbl := List.mem_append_right _ (List.mem_append_left _ (List.mem_of_getElem? (i := 217) rfl : _ ∈ tables_1_1))
theorem wt76 : (Cond.fieldLink RX3 15 "TenRules$Kernel" "markedCounts" "[I" : Cond) ∈ lw_tbl := List.mem_append_right _ (List.mem_append_left _ (List.mem_of_getElem? (i := 218) rfl : _ ∈ tables_1_1))
theorem wt77 : (Cond.fieldLink RX3 18 "TenRules$Kernel" "row" "[I" : Cond) ∈ lw_tbl := List.mem_append_right _ (List.mem_append_left _ (List.mem_of_getElem? (i := 220) rfl : _ ∈ tables_1_1))
theorem wt78 : (Cond.fieldLink RX3 21 "TenRules$Kernel" "arena" "LTenRules$Arena;" : Cond) ∈ lw_tbl := List.mem_append_right _ (List.mem_append_left _ (List.mem_of_getElem? (i := 214) rfl : _ ∈ tables_1_1))
theorem wt79 : (Cond.fieldLink RX3 25 "TenRules$Kernel" "terms" "LTenRules$Terms;" : Cond) ∈ lw_tbl := List.mem_append_right _ (List.mem_append_left _ (List.mem_of_getElem? (i := 215) rfl : _ ∈ tables_1_1))
theorem wt80 : (Cond.fieldLink RX3 29 "TenRules$Kernel" "survey" "LTenRules$Survey;" : Cond) ∈ lw_tbl := List.mem_append_right _ (List.mem_append_left _ (List.mem_of_getElem? (i := 216) rfl : _ ∈ tables_1_1))
theorem wt81 : (Cond.methodLink RX11 47 yX3_init : Cond) ∈ lw_tbl := List.mem_append_right _ (List.mem_append_left _ (List.mem_of_getElem? (i := 210) rfl : _ ∈ tables_1_1))
theorem wt82 : (Cond.instanceMethod yX3_init : Cond) ∈ lw_tbl := List.mem_append_right _ (List.mem_append_left _ (List.mem_of_getElem? (i := 211) rfl : _ ∈ tables_1_1))
theorem wt83 : (Cond.fieldLink RX11 50 "TenRules" "kernel" "LTenRules$Kernel;" : Cond) ∈ lw_tbl := List.mem_append_right _ (List.mem_append_right _ (List.mem_append_right _ (List.mem_append_left _ (List.mem_of_getElem? (i := 23) rfl : _ ∈ tables_1_3))))
theorem wt84 : (Cond.classLink RX11 54 RX8 : Cond) ∈ lw_tbl := List.mem_append_right _ (List.mem_append_left _ (List.mem_of_getElem? (i := 239) rfl : _ ∈ tables_1_1))
theorem wt85 : (Cond.instantiable RX8 12 : Cond) ∈ lw_tbl := List.mem_append_right _ (List.mem_append_right _ (List.mem_append_left _ (List.mem_of_getElem? (i := 0) rfl : _ ∈ tables_1_2)))
theorem wt86 : (Cond.initialized RX8 : Cond) ∈ lw_tbl := List.mem_append_right _ (List.mem_append_left _ (List.mem_of_getElem? (i := 10) rfl : _ ∈ tables_1_1))
theorem wt87 : (Cond.methodLink RX8 3 objectInit : Cond) ∈ lw_tbl := List.mem_append_right _ (List.mem_append_right _ (List.mem_append_left _ (List.mem_of_getElem? (i := 4) rfl : _ ∈ tables_1_2)))
theorem wt88 : (Cond.fieldLink RX8 11 "TenRules$Tokens" "words" "[I" : Cond) ∈ lw_tbl := List.mem_append_right _ (List.mem_append_right _ (List.mem_append_left _ (List.mem_of_getElem? (i := 61) rfl : _ ∈ tables_1_2)))
theorem wt89 : (Cond.fieldLink RX8 15 "TenRules$Tokens" "kinds" "[I" : Cond) ∈ lw_tbl := List.mem_append_right _ (List.mem_append_right _ (List.mem_append_left _ (List.mem_of_getElem? (i := 62) rfl : _ ∈ tables_1_2)))
theorem wt90 : (Cond.fieldLink RX8 18 "TenRules$Tokens" "places" "[I" : Cond) ∈ lw_tbl := List.mem_append_right _ (List.mem_append_right _ (List.mem_append_left _ (List.mem_of_getElem? (i := 63) rfl : _ ∈ tables_1_2)))
theorem wt91 : (Cond.fieldLink RX8 21 "TenRules$Tokens" "values" "[I" : Cond) ∈ lw_tbl := List.mem_append_right _ (List.mem_append_right _ (List.mem_append_left _ (List.mem_of_getElem? (i := 64) rfl : _ ∈ tables_1_2)))
theorem wt92 : (Cond.fieldLink RX8 24 "TenRules$Tokens" "tape" "[I" : Cond) ∈ lw_tbl := List.mem_append_right _ (List.mem_append_right _ (List.mem_append_left _ (List.mem_of_getElem? (i := 60) rfl : _ ∈ tables_1_2)))
theorem wt93 : (Cond.methodLink RX11 56 yX8_init : Cond) ∈ lw_tbl := List.mem_append_right _ (List.mem_append_right _ (List.mem_append_left _ (List.mem_of_getElem? (i := 1) rfl : _ ∈ tables_1_2)))
theorem wt94 : (Cond.instanceMethod yX8_init : Cond) ∈ lw_tbl := List.mem_append_right _ (List.mem_append_right _ (List.mem_append_left _ (List.mem_of_getElem? (i := 2) rfl : _ ∈ tables_1_2)))
theorem wt95 : (Cond.fieldLink RX11 59 "TenRules" "tokens" "LTenRules$Tokens;" : Cond) ∈ lw_tbl := List.mem_append_right _ (List.mem_append_right _ (List.mem_append_right _ (List.mem_append_left _ (List.mem_of_getElem? (i := 24) rfl : _ ∈ tables_1_3))))
theorem wt96 : (Cond.classLink RX11 63 RX6 : Cond) ∈ lw_tbl := List.mem_append_right _ (List.mem_append_right _ (List.mem_append_left _ (List.mem_of_getElem? (i := 107) rfl : _ ∈ tables_1_2)))
theorem wt97 : (Cond.instantiable RX6 9 : Cond) ∈ lw_tbl := List.mem_append_right _ (List.mem_append_right _ (List.mem_append_left _ (List.mem_of_getElem? (i := 108) rfl : _ ∈ tables_1_2)))
theorem wt98 : (Cond.initialized RX6 : Cond) ∈ lw_tbl := List.mem_append_right _ (List.mem_append_left _ (List.mem_of_getElem? (i := 15) rfl : _ ∈ tables_1_1))
theorem wt99 : (Cond.methodLink RX6 3 objectInit : Cond) ∈ lw_tbl := List.mem_append_right _ (List.mem_append_right _ (List.mem_append_left _ (List.mem_of_getElem? (i := 112) rfl : _ ∈ tables_1_2)))
theorem wt100 : (Cond.fieldLink RX6 9 "TenRules$TermReader" "boundNames" "[I" : Cond) ∈ lw_tbl := List.mem_append_right _ (List.mem_append_right _ (List.mem_append_left _ (List.mem_of_getElem? (i := 117) rfl : _ ∈ tables_1_2)))
theorem wt101 : (Cond.fieldLink RX6 15 "TenRules$TermReader" "boundTypes" "[I" : Cond) ∈ lw_tbl := List.mem_append_right _ (List.mem_append_right _ (List.mem_append_left _ (List.mem_of_getElem? (i := 118) rfl : _ ∈ tables_1_2)))
theorem wt102 : (Cond.fieldLink RX6 18 "TenRules$TermReader" "atoms" "[I" : Cond) ∈ lw_tbl := List.mem_append_right _ (List.mem_append_right _ (List.mem_append_left _ (List.mem_of_getElem? (i := 120) rfl : _ ∈ tables_1_2)))
theorem wt103 : (Cond.fieldLink RX6 21 "TenRules$TermReader" "tokens" "LTenRules$Tokens;" : Cond) ∈ lw_tbl := List.mem_append_right _ (List.mem_append_right _ (List.mem_append_left _ (List.mem_of_getElem? (i := 113) rfl : _ ∈ tables_1_2)))
theorem wt104 : (Cond.fieldLink RX6 25 "TenRules$TermReader" "arena" "LTenRules$Arena;" : Cond) ∈ lw_tbl := List.mem_append_right _ (List.mem_append_right _ (List.mem_append_left _ (List.mem_of_getElem? (i := 114) rfl : _ ∈ tables_1_2)))
theorem wt105 : (Cond.fieldLink RX6 29 "TenRules$TermReader" "terms" "LTenRules$Terms;" : Cond) ∈ lw_tbl := List.mem_append_right _ (List.mem_append_right _ (List.mem_append_left _ (List.mem_of_getElem? (i := 115) rfl : _ ∈ tables_1_2)))
theorem wt106 : (Cond.fieldLink RX6 33 "TenRules$TermReader" "told" "LTenRules$Told;" : Cond) ∈ lw_tbl := List.mem_append_right _ (List.mem_append_right _ (List.mem_append_left _ (List.mem_of_getElem? (i := 116) rfl : _ ∈ tables_1_2)))
theorem wt107 : (Cond.methodLink RX11 65 yX6_init : Cond) ∈ lw_tbl := List.mem_append_right _ (List.mem_append_right _ (List.mem_append_left _ (List.mem_of_getElem? (i := 109) rfl : _ ∈ tables_1_2)))
theorem wt108 : (Cond.instanceMethod yX6_init : Cond) ∈ lw_tbl := List.mem_append_right _ (List.mem_append_right _ (List.mem_append_left _ (List.mem_of_getElem? (i := 110) rfl : _ ∈ tables_1_2)))
theorem wt109 : (Cond.fieldLink RX11 68 "TenRules" "termReader" "LTenRules$TermReader;" : Cond) ∈ lw_tbl := List.mem_append_right _ (List.mem_append_right _ (List.mem_append_right _ (List.mem_append_left _ (List.mem_of_getElem? (i := 25) rfl : _ ∈ tables_1_3))))
theorem wt110 : (Cond.classLink RX11 72 RX4 : Cond) ∈ lw_tbl := List.mem_append_right _ (List.mem_append_right _ (List.mem_append_left _ (List.mem_of_getElem? (i := 141) rfl : _ ∈ tables_1_2)))
theorem wt111 : (Cond.instantiable RX4 6 : Cond) ∈ lw_tbl := List.mem_append_right _ (List.mem_append_right _ (List.mem_append_left _ (List.mem_of_getElem? (i := 142) rfl : _ ∈ tables_1_2)))
theorem wt112 : (Cond.initialized RX4 : Cond) ∈ lw_tbl := List.mem_append_right _ (List.mem_append_left _ (List.mem_of_getElem? (i := 16) rfl : _ ∈ tables_1_1))
theorem wt113 : (Cond.methodLink RX4 3 objectInit : Cond) ∈ lw_tbl := List.mem_append_right _ (List.mem_append_right _ (List.mem_append_left _ (List.mem_of_getElem? (i := 146) rfl : _ ∈ tables_1_2)))
theorem wt114 : (Cond.fieldLink RX4 9 "TenRules$LineReader" "tokens" "LTenRules$Tokens;" : Cond) ∈ lw_tbl := List.mem_append_right _ (List.mem_append_right _ (List.mem_append_left _ (List.mem_of_getElem? (i := 147) rfl : _ ∈ tables_1_2)))
theorem wt115 : (Cond.fieldLink RX4 15 "TenRules$LineReader" "termReader" "LTenRules$TermReader;" : Cond) ∈ lw_tbl := List.mem_append_right _ (List.mem_append_right _ (List.mem_append_left _ (List.mem_of_getElem? (i := 148) rfl : _ ∈ tables_1_2)))
theorem wt116 : (Cond.fieldLink RX4 19 "TenRules$LineReader" "arena" "LTenRules$Arena;" : Cond) ∈ lw_tbl := List.mem_append_right _ (List.mem_append_right _ (List.mem_append_left _ (List.mem_of_getElem? (i := 149) rfl : _ ∈ tables_1_2)))
theorem wt117 : (Cond.fieldLink RX4 23 "TenRules$LineReader" "terms" "LTenRules$Terms;" : Cond) ∈ lw_tbl := List.mem_append_right _ (List.mem_append_right _ (List.mem_append_left _ (List.mem_of_getElem? (i := 150) rfl : _ ∈ tables_1_2)))
theorem wt118 : (Cond.fieldLink RX4 27 "TenRules$LineReader" "told" "LTenRules$Told;" : Cond) ∈ lw_tbl := List.mem_append_right _ (List.mem_append_right _ (List.mem_append_left _ (List.mem_of_getElem? (i := 151) rfl : _ ∈ tables_1_2)))
theorem wt119 : (Cond.fieldLink RX4 31 "TenRules$LineReader" "kernel" "LTenRules$Kernel;" : Cond) ∈ lw_tbl := List.mem_append_right _ (List.mem_append_right _ (List.mem_append_left _ (List.mem_of_getElem? (i := 152) rfl : _ ∈ tables_1_2)))
theorem wt120 : (Cond.methodLink RX11 74 yX4_init : Cond) ∈ lw_tbl := List.mem_append_right _ (List.mem_append_right _ (List.mem_append_left _ (List.mem_of_getElem? (i := 143) rfl : _ ∈ tables_1_2)))
theorem wt121 : (Cond.instanceMethod yX4_init : Cond) ∈ lw_tbl := List.mem_append_right _ (List.mem_append_right _ (List.mem_append_left _ (List.mem_of_getElem? (i := 144) rfl : _ ∈ tables_1_2)))
theorem wt122 : (Cond.fieldLink RX11 77 "TenRules" "lineReader" "LTenRules$LineReader;" : Cond) ∈ lw_tbl := List.mem_append_right _ (List.mem_append_right _ (List.mem_append_right _ (List.mem_append_left _ (List.mem_of_getElem? (i := 26) rfl : _ ∈ tables_1_3))))
theorem wt123 : (Cond.classLink RX11 81 RX1 : Cond) ∈ lw_tbl := List.mem_append_right _ (List.mem_append_right _ (List.mem_append_left _ (List.mem_of_getElem? (i := 166) rfl : _ ∈ tables_1_2)))
theorem wt124 : (Cond.instantiable RX1 6 : Cond) ∈ lw_tbl := List.mem_append_right _ (List.mem_append_right _ (List.mem_append_left _ (List.mem_of_getElem? (i := 167) rfl : _ ∈ tables_1_2)))
theorem wt125 : (Cond.initialized RX1 : Cond) ∈ lw_tbl := List.mem_append_right _ (List.mem_append_left _ (List.mem_of_getElem? (i := 17) rfl : _ ∈ tables_1_1))
theorem wt126 : (Cond.methodLink RX1 3 objectInit : Cond) ∈ lw_tbl := List.mem_append_right _ (List.mem_append_right _ (List.mem_append_left _ (List.mem_of_getElem? (i := 171) rfl : _ ∈ tables_1_2)))
theorem wt127 : (Cond.fieldLink RX1 9 "TenRules$Conv" "ops" "[I" : Cond) ∈ lw_tbl := List.mem_append_right _ (List.mem_append_right _ (List.mem_append_left _ (List.mem_of_getElem? (i := 174) rfl : _ ∈ tables_1_2)))
theorem wt128 : (Cond.fieldLink RX1 15 "TenRules$Conv" "firsts" "[I" : Cond) ∈ lw_tbl := List.mem_append_right _ (List.mem_append_right _ (List.mem_append_left _ (List.mem_of_getElem? (i := 175) rfl : _ ∈ tables_1_2)))
theorem wt129 : (Cond.fieldLink RX1 18 "TenRules$Conv" "seconds" "[I" : Cond) ∈ lw_tbl := List.mem_append_right _ (List.mem_append_right _ (List.mem_append_left _ (List.mem_of_getElem? (i := 176) rfl : _ ∈ tables_1_2)))
theorem wt130 : (Cond.fieldLink RX1 21 "TenRules$Conv" "tokens" "LTenRules$Tokens;" : Cond) ∈ lw_tbl := List.mem_append_right _ (List.mem_append_right _ (List.mem_append_left _ (List.mem_of_getElem? (i := 172) rfl : _ ∈ tables_1_2)))
theorem wt131 : (Cond.fieldLink RX1 25 "TenRules$Conv" "told" "LTenRules$Told;" : Cond) ∈ lw_tbl := List.mem_append_right _ (List.mem_append_right _ (List.mem_append_left _ (List.mem_of_getElem? (i := 173) rfl : _ ∈ tables_1_2)))
theorem wt132 : (Cond.methodLink RX11 83 yX1_init : Cond) ∈ lw_tbl := List.mem_append_right _ (List.mem_append_right _ (List.mem_append_left _ (List.mem_of_getElem? (i := 168) rfl : _ ∈ tables_1_2)))
theorem wt133 : (Cond.instanceMethod yX1_init : Cond) ∈ lw_tbl := List.mem_append_right _ (List.mem_append_right _ (List.mem_append_left _ (List.mem_of_getElem? (i := 169) rfl : _ ∈ tables_1_2)))
theorem wt134 : (Cond.fieldLink RX11 86 "TenRules" "conv" "LTenRules$Conv;" : Cond) ∈ lw_tbl := List.mem_append_right _ (List.mem_append_right _ (List.mem_append_right _ (List.mem_append_left _ (List.mem_of_getElem? (i := 27) rfl : _ ∈ tables_1_3))))
theorem wt135 : (Cond.classLink RX11 90 RX2 : Cond) ∈ lw_tbl := List.mem_append_right _ (List.mem_append_right _ (List.mem_append_left _ (List.mem_of_getElem? (i := 191) rfl : _ ∈ tables_1_2)))
theorem wt136 : (Cond.instantiable RX2 12 : Cond) ∈ lw_tbl := List.mem_append_right _ (List.mem_append_right _ (List.mem_append_left _ (List.mem_of_getElem? (i := 192) rfl : _ ∈ tables_1_2)))
theorem wt137 : (Cond.initialized RX2 : Cond) ∈ lw_tbl := List.mem_append_right _ (List.mem_append_left _ (List.mem_of_getElem? (i := 18) rfl : _ ∈ tables_1_1))
theorem wt138 : (Cond.methodLink RX2 3 objectInit : Cond) ∈ lw_tbl := List.mem_append_right _ (List.mem_append_right _ (List.mem_append_left _ (List.mem_of_getElem? (i := 196) rfl : _ ∈ tables_1_2)))
theorem wt139 : (Cond.fieldLink RX2 11 "TenRules$Engine" "nodes" "[I" : Cond) ∈ lw_tbl := List.mem_append_right _ (List.mem_append_right _ (List.mem_append_left _ (List.mem_of_getElem? (i := 202) rfl : _ ∈ tables_1_2)))
theorem wt140 : (Cond.fieldLink RX2 15 "TenRules$Engine" "subjects" "[I" : Cond) ∈ lw_tbl := List.mem_append_right _ (List.mem_append_right _ (List.mem_append_left _ (List.mem_of_getElem? (i := 203) rfl : _ ∈ tables_1_2)))
theorem wt141 : (Cond.fieldLink RX2 18 "TenRules$Engine" "states" "[I" : Cond) ∈ lw_tbl := List.mem_append_right _ (List.mem_append_right _ (List.mem_append_left _ (List.mem_of_getElem? (i := 204) rfl : _ ∈ tables_1_2)))
theorem wt142 : (Cond.fieldLink RX2 21 "TenRules$Engine" "kept" "[I" : Cond) ∈ lw_tbl := List.mem_append_right _ (List.mem_append_right _ (List.mem_append_left _ (List.mem_of_getElem? (i := 205) rfl : _ ∈ tables_1_2)))
theorem wt143 : (Cond.fieldLink RX2 24 "TenRules$Engine" "found" "[I" : Cond) ∈ lw_tbl := List.mem_append_right _ (List.mem_append_right _ (List.mem_append_left _ (List.mem_of_getElem? (i := 208) rfl : _ ∈ tables_1_2)))
theorem wt144 : (Cond.fieldLink RX2 27 "TenRules$Engine" "arena" "LTenRules$Arena;" : Cond) ∈ lw_tbl := List.mem_append_right _ (List.mem_append_right _ (List.mem_append_left _ (List.mem_of_getElem? (i := 197) rfl : _ ∈ tables_1_2)))
theorem wt145 : (Cond.fieldLink RX2 31 "TenRules$Engine" "terms" "LTenRules$Terms;" : Cond) ∈ lw_tbl := List.mem_append_right _ (List.mem_append_right _ (List.mem_append_left _ (List.mem_of_getElem? (i := 198) rfl : _ ∈ tables_1_2)))
theorem wt146 : (Cond.fieldLink RX2 35 "TenRules$Engine" "told" "LTenRules$Told;" : Cond) ∈ lw_tbl := List.mem_append_right _ (List.mem_append_right _ (List.mem_append_left _ (List.mem_of_getElem? (i := 199) rfl : _ ∈ tables_1_2)))
theorem wt147 : (Cond.fieldLink RX2 39 "TenRules$Engine" "kernel" "LTenRules$Kernel;" : Cond) ∈ lw_tbl := List.mem_append_right _ (List.mem_append_right _ (List.mem_append_left _ (List.mem_of_getElem? (i := 200) rfl : _ ∈ tables_1_2)))
theorem wt148 : (Cond.fieldLink RX2 43 "TenRules$Engine" "conv" "LTenRules$Conv;" : Cond) ∈ lw_tbl := List.mem_append_right _ (List.mem_append_right _ (List.mem_append_left _ (List.mem_of_getElem? (i := 201) rfl : _ ∈ tables_1_2)))
theorem wt149 : (Cond.methodLink RX11 92 yX2_init : Cond) ∈ lw_tbl := List.mem_append_right _ (List.mem_append_right _ (List.mem_append_left _ (List.mem_of_getElem? (i := 193) rfl : _ ∈ tables_1_2)))
theorem wt150 : (Cond.instanceMethod yX2_init : Cond) ∈ lw_tbl := List.mem_append_right _ (List.mem_append_right _ (List.mem_append_left _ (List.mem_of_getElem? (i := 194) rfl : _ ∈ tables_1_2)))
theorem wt151 : (Cond.fieldLink RX11 95 "TenRules" "engine" "LTenRules$Engine;" : Cond) ∈ lw_tbl := List.mem_append_right _ (List.mem_append_right _ (List.mem_append_right _ (List.mem_append_left _ (List.mem_of_getElem? (i := 28) rfl : _ ∈ tables_1_3))))
theorem wt152 : (Cond.classLink RX11 99 RX10 : Cond) ∈ lw_tbl := List.mem_append_right _ (List.mem_append_right _ (List.mem_append_left _ (List.mem_of_getElem? (i := 234) rfl : _ ∈ tables_1_2)))
theorem wt153 : (Cond.instantiable RX10 4 : Cond) ∈ lw_tbl := List.mem_append_right _ (List.mem_append_right _ (List.mem_append_left _ (List.mem_of_getElem? (i := 235) rfl : _ ∈ tables_1_2)))
theorem wt154 : (Cond.initialized RX10 : Cond) ∈ lw_tbl := List.mem_append_right _ (List.mem_append_left _ (List.mem_of_getElem? (i := 19) rfl : _ ∈ tables_1_1))
theorem wt155 : (Cond.methodLink RX10 3 objectInit : Cond) ∈ lw_tbl := List.mem_append_right _ (List.mem_append_right _ (List.mem_append_left _ (List.mem_of_getElem? (i := 239) rfl : _ ∈ tables_1_2)))
theorem wt156 : (Cond.fieldLink RX10 11 "TenRules$Writer" "row" "[I" : Cond) ∈ lw_tbl := List.mem_append_right _ (List.mem_append_right _ (List.mem_append_right _ (List.mem_append_left _ (List.mem_of_getElem? (i := 2) rfl : _ ∈ tables_1_3))))
theorem wt157 : (Cond.fieldLink RX10 15 "TenRules$Writer" "arena" "LTenRules$Arena;" : Cond) ∈ lw_tbl := List.mem_append_right _ (List.mem_append_right _ (List.mem_append_right _ (List.mem_append_left _ (List.mem_of_getElem? (i := 0) rfl : _ ∈ tables_1_3))))
theorem wt158 : (Cond.fieldLink RX10 19 "TenRules$Writer" "told" "LTenRules$Told;" : Cond) ∈ lw_tbl := List.mem_append_right _ (List.mem_append_right _ (List.mem_append_right _ (List.mem_append_left _ (List.mem_of_getElem? (i := 1) rfl : _ ∈ tables_1_3))))
theorem wt159 : (Cond.methodLink RX11 101 yX10_init : Cond) ∈ lw_tbl := List.mem_append_right _ (List.mem_append_right _ (List.mem_append_left _ (List.mem_of_getElem? (i := 236) rfl : _ ∈ tables_1_2)))
theorem wt160 : (Cond.instanceMethod yX10_init : Cond) ∈ lw_tbl := List.mem_append_right _ (List.mem_append_right _ (List.mem_append_left _ (List.mem_of_getElem? (i := 237) rfl : _ ∈ tables_1_2)))
theorem wt161 : (Cond.fieldLink RX11 104 "TenRules" "writer" "LTenRules$Writer;" : Cond) ∈ lw_tbl := List.mem_append_right _ (List.mem_append_right _ (List.mem_append_right _ (List.mem_append_left _ (List.mem_of_getElem? (i := 29) rfl : _ ∈ tables_1_3))))
theorem wt162 : (Cond.methodLink RX12 3 objectInit : Cond) ∈ lw_tbl := List.mem_append_right _ (List.mem_append_right _ (List.mem_append_right _ (List.mem_append_right _ (List.mem_append_right _ (List.mem_append_right _ (List.mem_append_right _ (List.mem_append_left _ (List.mem_of_getElem? (i := 213) rfl : _ ∈ tables_1_7))))))))
theorem wt163 : (Cond.fieldLink RX12 9 "TenRulesModel" "wrongAt" "I" : Cond) ∈ lw_tbl := List.mem_append_right _ (List.mem_append_right _ (List.mem_append_right _ (List.mem_append_right _ (List.mem_append_right _ (List.mem_append_right _ (List.mem_append_right _ (List.mem_append_left _ (List.mem_of_getElem? (i := 219) rfl : _ ∈ tables_1_7))))))))
theorem wt164 : (Cond.fieldLink RX12 13 "TenRulesModel" "tape" "[I" : Cond) ∈ lw_tbl := List.mem_append_right _ (List.mem_append_right _ (List.mem_append_right _ (List.mem_append_right _ (List.mem_append_right _ (List.mem_append_right _ (List.mem_append_right _ (List.mem_append_left _ (List.mem_of_getElem? (i := 220) rfl : _ ∈ tables_1_7))))))))
theorem wt165 : (Cond.constant RX12 17 (60000) : Cond) ∈ lw_tbl := List.mem_append_right _ (List.mem_append_right _ (List.mem_append_right _ (List.mem_append_right _ (List.mem_append_right _ (List.mem_append_right _ (List.mem_append_right _ (List.mem_append_left _ (List.mem_of_getElem? (i := 214) rfl : _ ∈ tables_1_7))))))))
theorem wt166 : (Cond.fieldLink RX12 18 "TenRulesModel" "takes" "[I" : Cond) ∈ lw_tbl := List.mem_append_right _ (List.mem_append_right _ (List.mem_append_right _ (List.mem_append_right _ (List.mem_append_right _ (List.mem_append_right _ (List.mem_append_right _ (List.mem_append_left _ (List.mem_of_getElem? (i := 231) rfl : _ ∈ tables_1_7))))))))
theorem wt167 : (Cond.fieldLink RX12 21 "TenRulesModel" "gives" "[I" : Cond) ∈ lw_tbl := List.mem_append_right _ (List.mem_append_right _ (List.mem_append_right _ (List.mem_append_right _ (List.mem_append_right _ (List.mem_append_right _ (List.mem_append_right _ (List.mem_append_left _ (List.mem_of_getElem? (i := 232) rfl : _ ∈ tables_1_7))))))))
theorem wt168 : (Cond.fieldLink RX12 24 "TenRulesModel" "nextType" "[I" : Cond) ∈ lw_tbl := List.mem_append_right _ (List.mem_append_right _ (List.mem_append_right _ (List.mem_append_right _ (List.mem_append_right _ (List.mem_append_right _ (List.mem_append_right _ (List.mem_append_left _ (List.mem_of_getElem? (i := 233) rfl : _ ∈ tables_1_7))))))))
theorem wt169 : (Cond.fieldLink RX12 27 "TenRulesModel" "heads" "[I" : Cond) ∈ lw_tbl := List.mem_append_right _ (List.mem_append_right _ (List.mem_append_right _ (List.mem_append_right _ (List.mem_append_right _ (List.mem_append_right _ (List.mem_append_right _ (List.mem_append_left _ (List.mem_of_getElem? (i := 234) rfl : _ ∈ tables_1_7))))))))
theorem wt170 : (Cond.fieldLink RX12 30 "TenRulesModel" "types" "I" : Cond) ∈ lw_tbl := List.mem_append_right _ (List.mem_append_right _ (List.mem_append_right _ (List.mem_append_right _ (List.mem_append_right _ (List.mem_append_right _ (List.mem_append_right _ (List.mem_append_left _ (List.mem_of_getElem? (i := 235) rfl : _ ∈ tables_1_7))))))))
theorem wt171 : (Cond.arrayClass .long : Cond) ∈ lw_tbl := List.mem_append_right _ (List.mem_append_right _ (List.mem_append_right _ (List.mem_append_right _ (List.mem_append_right _ (List.mem_append_right _ (List.mem_append_right _ (List.mem_append_right _ (List.mem_append_left _ (List.mem_of_getElem? (i := 173) rfl : _ ∈ tables_1_8)))))))))
theorem wt172 : (Cond.fieldLink RX12 33 "TenRulesModel" "varName" "[J" : Cond) ∈ lw_tbl := List.mem_append_right _ (List.mem_append_right _ (List.mem_append_right _ (List.mem_append_right _ (List.mem_append_right _ (List.mem_append_right _ (List.mem_append_right _ (List.mem_append_left _ (List.mem_of_getElem? (i := 237) rfl : _ ∈ tables_1_7))))))))
theorem wt173 : (Cond.fieldLink RX12 37 "TenRulesModel" "constName" "[J" : Cond) ∈ lw_tbl := List.mem_append_right _ (List.mem_append_right _ (List.mem_append_right _ (List.mem_append_right _ (List.mem_append_right _ (List.mem_append_right _ (List.mem_append_right _ (List.mem_append_left _ (List.mem_of_getElem? (i := 238) rfl : _ ∈ tables_1_7))))))))
theorem wt174 : (Cond.fieldLink RX12 40 "TenRulesModel" "thmName" "[J" : Cond) ∈ lw_tbl := List.mem_append_right _ (List.mem_append_right _ (List.mem_append_right _ (List.mem_append_right _ (List.mem_append_right _ (List.mem_append_right _ (List.mem_append_right _ (List.mem_append_left _ (List.mem_of_getElem? (i := 239) rfl : _ ∈ tables_1_7))))))))
theorem wt175 : (Cond.fieldLink RX12 43 "TenRulesModel" "varType" "[I" : Cond) ∈ lw_tbl := List.mem_append_right _ (List.mem_append_right _ (List.mem_append_right _ (List.mem_append_right _ (List.mem_append_right _ (List.mem_append_right _ (List.mem_append_right _ (List.mem_append_right _ (List.mem_append_left _ (List.mem_of_getElem? (i := 0) rfl : _ ∈ tables_1_8)))))))))
theorem wt176 : (Cond.fieldLink RX12 46 "TenRulesModel" "constType" "[I" : Cond) ∈ lw_tbl := List.mem_append_right _ (List.mem_append_right _ (List.mem_append_right _ (List.mem_append_right _ (List.mem_append_right _ (List.mem_append_right _ (List.mem_append_right _ (List.mem_append_right _ (List.mem_append_left _ (List.mem_of_getElem? (i := 1) rfl : _ ∈ tables_1_8)))))))))
theorem wt177 : (Cond.fieldLink RX12 49 "TenRulesModel" "constThm" "[I" : Cond) ∈ lw_tbl := List.mem_append_right _ (List.mem_append_right _ (List.mem_append_right _ (List.mem_append_right _ (List.mem_append_right _ (List.mem_append_right _ (List.mem_append_right _ (List.mem_append_right _ (List.mem_append_left _ (List.mem_of_getElem? (i := 2) rfl : _ ∈ tables_1_8)))))))))
theorem wt178 : (Cond.fieldLink RX12 52 "TenRulesModel" "read" "[I" : Cond) ∈ lw_tbl := List.mem_append_right _ (List.mem_append_right _ (List.mem_append_right _ (List.mem_append_right _ (List.mem_append_right _ (List.mem_append_right _ (List.mem_append_right _ (List.mem_append_right _ (List.mem_append_left _ (List.mem_of_getElem? (i := 7) rfl : _ ∈ tables_1_8)))))))))
theorem wt179 : (Cond.fieldLink RX12 55 "TenRulesModel" "boundType" "[I" : Cond) ∈ lw_tbl := List.mem_append_right _ (List.mem_append_right _ (List.mem_append_right _ (List.mem_append_right _ (List.mem_append_right _ (List.mem_append_right _ (List.mem_append_right _ (List.mem_append_right _ (List.mem_append_left _ (List.mem_of_getElem? (i := 8) rfl : _ ∈ tables_1_8)))))))))
theorem wt180 : (Cond.fieldLink RX12 58 "TenRulesModel" "boundName" "[J" : Cond) ∈ lw_tbl := List.mem_append_right _ (List.mem_append_right _ (List.mem_append_right _ (List.mem_append_right _ (List.mem_append_right _ (List.mem_append_right _ (List.mem_append_right _ (List.mem_append_right _ (List.mem_append_left _ (List.mem_of_getElem? (i := 9) rfl : _ ∈ tables_1_8)))))))))
theorem wt181 : (Cond.constant RX12 61 (330720) : Cond) ∈ lw_tbl := List.mem_append_right _ (List.mem_append_right _ (List.mem_append_right _ (List.mem_append_right _ (List.mem_append_right _ (List.mem_append_right _ (List.mem_append_right _ (List.mem_append_left _ (List.mem_of_getElem? (i := 215) rfl : _ ∈ tables_1_7))))))))
theorem wt182 : (Cond.fieldLink RX12 62 "TenRulesModel" "m" "[I" : Cond) ∈ lw_tbl := List.mem_append_right _ (List.mem_append_right _ (List.mem_append_right _ (List.mem_append_right _ (List.mem_append_right _ (List.mem_append_right _ (List.mem_append_right _ (List.mem_append_right _ (List.mem_append_left _ (List.mem_of_getElem? (i := 13) rfl : _ ∈ tables_1_8)))))))))
theorem wt183 : (Cond.fieldLink RX12 65 "TenRulesModel" "len" "[I" : Cond) ∈ lw_tbl := List.mem_append_right _ (List.mem_append_right _ (List.mem_append_right _ (List.mem_append_right _ (List.mem_append_right _ (List.mem_append_right _ (List.mem_append_right _ (List.mem_append_right _ (List.mem_append_left _ (List.mem_of_getElem? (i := 14) rfl : _ ∈ tables_1_8)))))))))
theorem wt184 : (Cond.fieldLink RX12 68 "TenRulesModel" "regLen" "[I" : Cond) ∈ lw_tbl := List.mem_append_right _ (List.mem_append_right _ (List.mem_append_right _ (List.mem_append_right _ (List.mem_append_right _ (List.mem_append_right _ (List.mem_append_right _ (List.mem_append_right _ (List.mem_append_left _ (List.mem_of_getElem? (i := 15) rfl : _ ∈ tables_1_8)))))))))
theorem wt185 : (Cond.fieldLink RX12 71 "TenRulesModel" "hyps" "[I" : Cond) ∈ lw_tbl := List.mem_append_right _ (List.mem_append_right _ (List.mem_append_right _ (List.mem_append_right _ (List.mem_append_right _ (List.mem_append_right _ (List.mem_append_right _ (List.mem_append_right _ (List.mem_append_left _ (List.mem_of_getElem? (i := 16) rfl : _ ∈ tables_1_8)))))))))
theorem wt186 : (Cond.fieldLink RX12 74 "TenRulesModel" "madeBy" "[I" : Cond) ∈ lw_tbl := List.mem_append_right _ (List.mem_append_right _ (List.mem_append_right _ (List.mem_append_right _ (List.mem_append_right _ (List.mem_append_right _ (List.mem_append_right _ (List.mem_append_right _ (List.mem_append_left _ (List.mem_of_getElem? (i := 17) rfl : _ ∈ tables_1_8)))))))))
theorem wt187 : (Cond.fieldLink RX12 77 "TenRulesModel" "top" "I" : Cond) ∈ lw_tbl := List.mem_append_right _ (List.mem_append_right _ (List.mem_append_right _ (List.mem_append_right _ (List.mem_append_right _ (List.mem_append_right _ (List.mem_append_right _ (List.mem_append_right _ (List.mem_append_left _ (List.mem_of_getElem? (i := 18) rfl : _ ∈ tables_1_8)))))))))
theorem wt188 : (Cond.fieldLink RX12 80 "TenRulesModel" "roundType" "[I" : Cond) ∈ lw_tbl := List.mem_append_right _ (List.mem_append_right _ (List.mem_append_right _ (List.mem_append_right _ (List.mem_append_right _ (List.mem_append_right _ (List.mem_append_right _ (List.mem_append_right _ (List.mem_append_left _ (List.mem_of_getElem? (i := 20) rfl : _ ∈ tables_1_8)))))))))
theorem wt189 : (Cond.constant RX12 83 (36000) : Cond) ∈ lw_tbl := List.mem_append_right _ (List.mem_append_right _ (List.mem_append_right _ (List.mem_append_right _ (List.mem_append_right _ (List.mem_append_right _ (List.mem_append_right _ (List.mem_append_left _ (List.mem_of_getElem? (i := 216) rfl : _ ∈ tables_1_7))))))))
theorem wt190 : (Cond.fieldLink RX12 84 "TenRulesModel" "ink" "[I" : Cond) ∈ lw_tbl := List.mem_append_right _ (List.mem_append_right _ (List.mem_append_right _ (List.mem_append_right _ (List.mem_append_right _ (List.mem_append_right _ (List.mem_append_right _ (List.mem_append_right _ (List.mem_append_left _ (List.mem_of_getElem? (i := 23) rfl : _ ∈ tables_1_8)))))))))
theorem wt191 : (Cond.fieldLink RX12 87 "TenRulesModel" "inked" "[I" : Cond) ∈ lw_tbl := List.mem_append_right _ (List.mem_append_right _ (List.mem_append_right _ (List.mem_append_right _ (List.mem_append_right _ (List.mem_append_right _ (List.mem_append_right _ (List.mem_append_right _ (List.mem_append_left _ (List.mem_of_getElem? (i := 24) rfl : _ ∈ tables_1_8)))))))))
theorem wt192 : (Cond.fieldLink RX12 90 "TenRulesModel" "calls" "[I" : Cond) ∈ lw_tbl := List.mem_append_right _ (List.mem_append_right _ (List.mem_append_right _ (List.mem_append_right _ (List.mem_append_right _ (List.mem_append_right _ (List.mem_append_right _ (List.mem_append_right _ (List.mem_append_left _ (List.mem_of_getElem? (i := 26) rfl : _ ∈ tables_1_8)))))))))
theorem wt193 : (Cond.fieldLink RX12 93 "TenRulesModel" "used" "[I" : Cond) ∈ lw_tbl := List.mem_append_right _ (List.mem_append_right _ (List.mem_append_right _ (List.mem_append_right _ (List.mem_append_right _ (List.mem_append_right _ (List.mem_append_right _ (List.mem_append_right _ (List.mem_append_left _ (List.mem_of_getElem? (i := 27) rfl : _ ∈ tables_1_8)))))))))
theorem wt194 : (Cond.fieldLink RX12 96 "TenRulesModel" "conv" "[I" : Cond) ∈ lw_tbl := List.mem_append_right _ (List.mem_append_right _ (List.mem_append_right _ (List.mem_append_right _ (List.mem_append_right _ (List.mem_append_right _ (List.mem_append_right _ (List.mem_append_right _ (List.mem_append_left _ (List.mem_of_getElem? (i := 32) rfl : _ ∈ tables_1_8)))))))))
theorem wt195 : (Cond.fieldLink RX12 99 "TenRulesModel" "first" "[I" : Cond) ∈ lw_tbl := List.mem_append_right _ (List.mem_append_right _ (List.mem_append_right _ (List.mem_append_right _ (List.mem_append_right _ (List.mem_append_right _ (List.mem_append_right _ (List.mem_append_right _ (List.mem_append_left _ (List.mem_of_getElem? (i := 33) rfl : _ ∈ tables_1_8)))))))))
theorem wt196 : (Cond.fieldLink RX12 102 "TenRulesModel" "second" "[I" : Cond) ∈ lw_tbl := List.mem_append_right _ (List.mem_append_right _ (List.mem_append_right _ (List.mem_append_right _ (List.mem_append_right _ (List.mem_append_right _ (List.mem_append_right _ (List.mem_append_right _ (List.mem_append_left _ (List.mem_of_getElem? (i := 34) rfl : _ ∈ tables_1_8)))))))))
theorem wt197 : (Cond.fieldLink RX12 105 "TenRulesModel" "found" "[I" : Cond) ∈ lw_tbl := List.mem_append_right _ (List.mem_append_right _ (List.mem_append_right _ (List.mem_append_right _ (List.mem_append_right _ (List.mem_append_right _ (List.mem_append_right _ (List.mem_append_right _ (List.mem_append_left _ (List.mem_of_getElem? (i := 36) rfl : _ ∈ tables_1_8)))))))))
theorem wt198 : (Cond.code yJ0_charAt_5068e cJ0_charAt_5068e 2 (some .char) : Cond) ∈ lw_tbl := List.mem_append_right _ (List.mem_append_right _ (List.mem_append_left _ (List.mem_of_getElem? (i := 19) rfl : _ ∈ tables_1_2)))
theorem wt199 : (Cond.initialized "java/lang/String" : Cond) ∈ lw_tbl := List.mem_append_right _ (List.mem_append_left _ (List.mem_of_getElem? (i := 11) rfl : _ ∈ tables_1_1))
theorem wt200 : (Cond.code yJ0_checkIndex_df160 cJ0_checkIndex_df160 2 none : Cond) ∈ lw_tbl := List.mem_append_right _ (List.mem_append_right _ (List.mem_append_left _ (List.mem_of_getElem? (i := 29) rfl : _ ∈ tables_1_2)))
theorem wt201 : (Cond.code yJ0_coder_7d493 cJ0_coder_7d493 1 (some .byte) : Cond) ∈ lw_tbl := List.mem_append_right _ (List.mem_append_right _ (List.mem_append_left _ (List.mem_of_getElem? (i := 13) rfl : _ ∈ tables_1_2)))
theorem wt202 : (Cond.code yJ0_isLatin1_aae02 cJ0_isLatin1_aae02 1 (some .boolean) : Cond) ∈ lw_tbl := List.mem_append_right _ (List.mem_append_right _ (List.mem_append_left _ (List.mem_of_getElem? (i := 23) rfl : _ ∈ tables_1_2)))
theorem wt203 : (Cond.code yJ0_length_8abf5 cJ0_length_8abf5 1 (some .int) : Cond) ∈ lw_tbl := List.mem_append_right _ (List.mem_append_right _ (List.mem_append_left _ (List.mem_of_getElem? (i := 9) rfl : _ ∈ tables_1_2)))
theorem wt204 : (Cond.code yJ1_charAt_3b067 cJ1_charAt_3b067 2 (some .char) : Cond) ∈ lw_tbl := List.mem_append_right _ (List.mem_append_right _ (List.mem_append_left _ (List.mem_of_getElem? (i := 26) rfl : _ ∈ tables_1_2)))
theorem wt205 : (Cond.initialized "java/lang/StringLatin1" : Cond) ∈ lw_tbl := List.mem_append_right _ (List.mem_append_left _ (List.mem_of_getElem? (i := 12) rfl : _ ∈ tables_1_1))
theorem wt206 : (Cond.code yJ3_checkIndex_8e157 cJ3_checkIndex_8e157 3 (some .int) : Cond) ∈ lw_tbl := List.mem_append_right _ (List.mem_append_right _ (List.mem_append_left _ (List.mem_of_getElem? (i := 34) rfl : _ ∈ tables_1_2)))
theorem wt207 : (Cond.initialized "jdk/internal/util/Preconditions" : Cond) ∈ lw_tbl := List.mem_append_right _ (List.mem_append_left _ (List.mem_of_getElem? (i := 13) rfl : _ ∈ tables_1_1))
theorem wt208 : (Cond.code yJ7_fill_53178 cJ7_fill_53178 4 none : Cond) ∈ lw_tbl := List.mem_append_right _ (List.mem_append_left _ (List.mem_of_getElem? (i := 43) rfl : _ ∈ tables_1_1))
theorem wt209 : (Cond.initialized "java/util/Arrays" : Cond) ∈ lw_tbl := List.mem_append_right _ (List.mem_append_left _ (List.mem_of_getElem? (i := 3) rfl : _ ∈ tables_1_1))
theorem wt210 : (Cond.code yX0_init cX0_init 1 none : Cond) ∈ lw_tbl := List.mem_append_right _ (List.mem_append_left _ (List.mem_of_getElem? (i := 39) rfl : _ ∈ tables_1_1))
theorem wt211 : (Cond.code yX0_link cX0_link 3 none : Cond) ∈ lw_tbl := List.mem_append_right _ (List.mem_append_left _ (List.mem_of_getElem? (i := 71) rfl : _ ∈ tables_1_1))
theorem wt212 : (Cond.code yX0_measure cX0_measure 6 none : Cond) ∈ lw_tbl := List.mem_append_right _ (List.mem_append_left _ (List.mem_of_getElem? (i := 75) rfl : _ ∈ tables_1_1))
theorem wt213 : (Cond.code yX0_node cX0_node 8 (some .int) : Cond) ∈ lw_tbl := List.mem_append_right _ (List.mem_append_left _ (List.mem_of_getElem? (i := 47) rfl : _ ∈ tables_1_1))
theorem wt214 : (Cond.code yX10_init cX10_init 3 none : Cond) ∈ lw_tbl := List.mem_append_right _ (List.mem_append_right _ (List.mem_append_left _ (List.mem_of_getElem? (i := 238) rfl : _ ∈ tables_1_2)))
theorem wt215 : (Cond.code yX11_init cX11_init 1 none : Cond) ∈ lw_tbl := List.mem_append_right _ (List.mem_append_left _ (List.mem_of_getElem? (i := 31) rfl : _ ∈ tables_1_1))
theorem wt216 : (Cond.initialized RX11 : Cond) ∈ lw_tbl := List.mem_append_right _ (List.mem_append_left _ (List.mem_of_getElem? (i := 1) rfl : _ ∈ tables_1_1))
theorem wt217 : (Cond.code yX12_init cX12_init 1 none : Cond) ∈ lw_tbl := List.mem_append_right _ (List.mem_append_right _ (List.mem_append_right _ (List.mem_append_right _ (List.mem_append_right _ (List.mem_append_right _ (List.mem_append_right _ (List.mem_append_left _ (List.mem_of_getElem? (i := 212) rfl : _ ∈ tables_1_7))))))))
theorem wt218 : (Cond.initialized RX12 : Cond) ∈ lw_tbl := List.mem_append_right _ (List.mem_append_left _ (List.mem_of_getElem? (i := 20) rfl : _ ∈ tables_1_1))
theorem wt219 : (Cond.code yX1_init cX1_init 3 none : Cond) ∈ lw_tbl := List.mem_append_right _ (List.mem_append_right _ (List.mem_append_left _ (List.mem_of_getElem? (i := 170) rfl : _ ∈ tables_1_2)))
theorem wt220 : (Cond.code yX2_init cX2_init 6 none : Cond) ∈ lw_tbl := List.mem_append_right _ (List.mem_append_right _ (List.mem_append_left _ (List.mem_of_getElem? (i := 195) rfl : _ ∈ tables_1_2)))
theorem wt221 : (Cond.code yX3_init cX3_init 4 none : Cond) ∈ lw_tbl := List.mem_append_right _ (List.mem_append_left _ (List.mem_of_getElem? (i := 212) rfl : _ ∈ tables_1_1))
theorem wt222 : (Cond.code yX4_init cX4_init 7 none : Cond) ∈ lw_tbl := List.mem_append_right _ (List.mem_append_right _ (List.mem_append_left _ (List.mem_of_getElem? (i := 145) rfl : _ ∈ tables_1_2)))
theorem wt223 : (Cond.code yX5_init cX5_init 4 none : Cond) ∈ lw_tbl := List.mem_append_right _ (List.mem_append_left _ (List.mem_of_getElem? (i := 196) rfl : _ ∈ tables_1_1))
theorem wt224 : (Cond.code yX6_init cX6_init 5 none : Cond) ∈ lw_tbl := List.mem_append_right _ (List.mem_append_right _ (List.mem_append_left _ (List.mem_of_getElem? (i := 111) rfl : _ ∈ tables_1_2)))
theorem wt225 : (Cond.code yX7_init cX7_init 2 none : Cond) ∈ lw_tbl := List.mem_append_right _ (List.mem_append_left _ (List.mem_of_getElem? (i := 128) rfl : _ ∈ tables_1_1))
theorem wt226 : (Cond.code yX8_init cX8_init 7 none : Cond) ∈ lw_tbl := List.mem_append_right _ (List.mem_append_right _ (List.mem_append_left _ (List.mem_of_getElem? (i := 3) rfl : _ ∈ tables_1_2)))
theorem wt227 : (Cond.code yX8_isLetter cX8_isLetter 1 (some .boolean) : Cond) ∈ lw_tbl := List.mem_append_right _ (List.mem_append_right _ (List.mem_append_left _ (List.mem_of_getElem? (i := 56) rfl : _ ∈ tables_1_2)))
theorem wt228 : (Cond.code yX8_padded cX8_padded 4 (some .int) : Cond) ∈ lw_tbl := List.mem_append_right _ (List.mem_append_right _ (List.mem_append_left _ (List.mem_of_getElem? (i := 59) rfl : _ ∈ tables_1_2)))
theorem wt229 : (Cond.code yX9_init cX9_init 2 none : Cond) ∈ lw_tbl := List.mem_append_right _ (List.mem_append_left _ (List.mem_of_getElem? (i := 138) rfl : _ ∈ tables_1_1))
theorem gM0 : ∀ w ∈ gW0, w ∈ lw_tbl := List.forall_mem_cons.mpr ⟨wt0, List.forall_mem_cons.mpr ⟨wt1, List.forall_mem_cons.mpr ⟨wt2, List.forall_mem_cons.mpr ⟨wt3, List.forall_mem_cons.mpr ⟨wt4, List.forall_mem_cons.mpr ⟨wt5, List.forall_mem_cons.mpr ⟨wt6, List.forall_mem_cons.mpr ⟨wt7, List.forall_mem_cons.mpr ⟨wt8, List.forall_mem_cons.mpr ⟨wt9, List.forall_mem_cons.mpr ⟨wt10, List.forall_mem_cons.mpr ⟨wt11, List.forall_mem_cons.mpr ⟨wt12, List.forall_mem_cons.mpr ⟨wt13, List.forall_mem_cons.mpr ⟨wt14, List.forall_mem_cons.mpr ⟨wt15, List.forall_mem_cons.mpr ⟨wt16, List.forall_mem_cons.mpr ⟨wt17, List.forall_mem_cons.mpr ⟨wt18, List.forall_mem_cons.mpr ⟨wt19, List.forall_mem_cons.mpr ⟨wt20, List.forall_mem_cons.mpr ⟨wt21, List.forall_mem_cons.mpr ⟨wt22, List.forall_mem_cons.mpr ⟨wt23, List.forall_mem_cons.mpr ⟨wt24, List.forall_mem_cons.mpr ⟨wt25, List.forall_mem_cons.mpr ⟨wt26, List.forall_mem_cons.mpr ⟨wt27, List.forall_mem_cons.mpr ⟨wt28, List.forall_mem_cons.mpr ⟨wt29, List.forall_mem_cons.mpr ⟨wt30, List.forall_mem_cons.mpr ⟨wt31, List.forall_mem_cons.mpr ⟨wt32, List.forall_mem_cons.mpr ⟨wt33, List.forall_mem_cons.mpr ⟨wt34, List.forall_mem_cons.mpr ⟨wt35, List.forall_mem_cons.mpr ⟨wt36, List.forall_mem_cons.mpr ⟨wt37, List.forall_mem_cons.mpr ⟨wt38, List.forall_mem_cons.mpr ⟨wt39, fun _ h => absurd h List.not_mem_nil⟩⟩⟩⟩⟩⟩⟩⟩⟩⟩⟩⟩⟩⟩⟩⟩⟩⟩⟩⟩⟩⟩⟩⟩⟩⟩⟩⟩⟩⟩⟩⟩⟩⟩⟩⟩⟩⟩⟩⟩
theorem gI0 : GoodIn lw_tbl gW0 := fun w h => ⟨gM0 w h, good_of_word (List.all_eq_true.mp (by decide +kernel : gW0.all goodWord = true) w h)⟩
theorem gM1 : ∀ w ∈ gW1, w ∈ lw_tbl := List.forall_mem_cons.mpr ⟨wt40, List.forall_mem_cons.mpr ⟨wt41, List.forall_mem_cons.mpr ⟨wt42, List.forall_mem_cons.mpr ⟨wt43, List.forall_mem_cons.mpr ⟨wt44, List.forall_mem_cons.mpr ⟨wt45, List.forall_mem_cons.mpr ⟨wt46, List.forall_mem_cons.mpr ⟨wt47, List.forall_mem_cons.mpr ⟨wt48, List.forall_mem_cons.mpr ⟨wt49, List.forall_mem_cons.mpr ⟨wt50, List.forall_mem_cons.mpr ⟨wt51, List.forall_mem_cons.mpr ⟨wt52, List.forall_mem_cons.mpr ⟨wt53, List.forall_mem_cons.mpr ⟨wt54, List.forall_mem_cons.mpr ⟨wt55, List.forall_mem_cons.mpr ⟨wt56, List.forall_mem_cons.mpr ⟨wt57, List.forall_mem_cons.mpr ⟨wt58, List.forall_mem_cons.mpr ⟨wt59, List.forall_mem_cons.mpr ⟨wt60, List.forall_mem_cons.mpr ⟨wt61, List.forall_mem_cons.mpr ⟨wt62, List.forall_mem_cons.mpr ⟨wt63, List.forall_mem_cons.mpr ⟨wt64, List.forall_mem_cons.mpr ⟨wt65, List.forall_mem_cons.mpr ⟨wt66, List.forall_mem_cons.mpr ⟨wt67, List.forall_mem_cons.mpr ⟨wt68, List.forall_mem_cons.mpr ⟨wt69, List.forall_mem_cons.mpr ⟨wt70, List.forall_mem_cons.mpr ⟨wt71, List.forall_mem_cons.mpr ⟨wt72, List.forall_mem_cons.mpr ⟨wt73, List.forall_mem_cons.mpr ⟨wt74, List.forall_mem_cons.mpr ⟨wt75, List.forall_mem_cons.mpr ⟨wt76, List.forall_mem_cons.mpr ⟨wt77, List.forall_mem_cons.mpr ⟨wt78, List.forall_mem_cons.mpr ⟨wt79, fun _ h => absurd h List.not_mem_nil⟩⟩⟩⟩⟩⟩⟩⟩⟩⟩⟩⟩⟩⟩⟩⟩⟩⟩⟩⟩⟩⟩⟩⟩⟩⟩⟩⟩⟩⟩⟩⟩⟩⟩⟩⟩⟩⟩⟩⟩
theorem gI1 : GoodIn lw_tbl gW1 := fun w h => ⟨gM1 w h, good_of_word (List.all_eq_true.mp (by decide +kernel : gW1.all goodWord = true) w h)⟩
theorem gM2 : ∀ w ∈ gW2, w ∈ lw_tbl := List.forall_mem_cons.mpr ⟨wt80, List.forall_mem_cons.mpr ⟨wt81, List.forall_mem_cons.mpr ⟨wt82, List.forall_mem_cons.mpr ⟨wt83, List.forall_mem_cons.mpr ⟨wt84, List.forall_mem_cons.mpr ⟨wt85, List.forall_mem_cons.mpr ⟨wt86, List.forall_mem_cons.mpr ⟨wt87, List.forall_mem_cons.mpr ⟨wt88, List.forall_mem_cons.mpr ⟨wt89, List.forall_mem_cons.mpr ⟨wt90, List.forall_mem_cons.mpr ⟨wt91, List.forall_mem_cons.mpr ⟨wt92, List.forall_mem_cons.mpr ⟨wt93, List.forall_mem_cons.mpr ⟨wt94, List.forall_mem_cons.mpr ⟨wt95, List.forall_mem_cons.mpr ⟨wt96, List.forall_mem_cons.mpr ⟨wt97, List.forall_mem_cons.mpr ⟨wt98, List.forall_mem_cons.mpr ⟨wt99, List.forall_mem_cons.mpr ⟨wt100, List.forall_mem_cons.mpr ⟨wt101, List.forall_mem_cons.mpr ⟨wt102, List.forall_mem_cons.mpr ⟨wt103, List.forall_mem_cons.mpr ⟨wt104, List.forall_mem_cons.mpr ⟨wt105, List.forall_mem_cons.mpr ⟨wt106, List.forall_mem_cons.mpr ⟨wt107, List.forall_mem_cons.mpr ⟨wt108, List.forall_mem_cons.mpr ⟨wt109, List.forall_mem_cons.mpr ⟨wt110, List.forall_mem_cons.mpr ⟨wt111, List.forall_mem_cons.mpr ⟨wt112, List.forall_mem_cons.mpr ⟨wt113, List.forall_mem_cons.mpr ⟨wt114, List.forall_mem_cons.mpr ⟨wt115, List.forall_mem_cons.mpr ⟨wt116, List.forall_mem_cons.mpr ⟨wt117, List.forall_mem_cons.mpr ⟨wt118, List.forall_mem_cons.mpr ⟨wt119, fun _ h => absurd h List.not_mem_nil⟩⟩⟩⟩⟩⟩⟩⟩⟩⟩⟩⟩⟩⟩⟩⟩⟩⟩⟩⟩⟩⟩⟩⟩⟩⟩⟩⟩⟩⟩⟩⟩⟩⟩⟩⟩⟩⟩⟩⟩
theorem gI2 : GoodIn lw_tbl gW2 := fun w h => ⟨gM2 w h, good_of_word (List.all_eq_true.mp (by decide +kernel : gW2.all goodWord = true) w h)⟩
theorem gM3 : ∀ w ∈ gW3, w ∈ lw_tbl := List.forall_mem_cons.mpr ⟨wt120, List.forall_mem_cons.mpr ⟨wt121, List.forall_mem_cons.mpr ⟨wt122, List.forall_mem_cons.mpr ⟨wt123, List.forall_mem_cons.mpr ⟨wt124, List.forall_mem_cons.mpr ⟨wt125, List.forall_mem_cons.mpr ⟨wt126, List.forall_mem_cons.mpr ⟨wt127, List.forall_mem_cons.mpr ⟨wt128, List.forall_mem_cons.mpr ⟨wt129, List.forall_mem_cons.mpr ⟨wt130, List.forall_mem_cons.mpr ⟨wt131, List.forall_mem_cons.mpr ⟨wt132, List.forall_mem_cons.mpr ⟨wt133, List.forall_mem_cons.mpr ⟨wt134, List.forall_mem_cons.mpr ⟨wt135, List.forall_mem_cons.mpr ⟨wt136, List.forall_mem_cons.mpr ⟨wt137, List.forall_mem_cons.mpr ⟨wt138, List.forall_mem_cons.mpr ⟨wt139, List.forall_mem_cons.mpr ⟨wt140, List.forall_mem_cons.mpr ⟨wt141, List.forall_mem_cons.mpr ⟨wt142, List.forall_mem_cons.mpr ⟨wt143, List.forall_mem_cons.mpr ⟨wt144, List.forall_mem_cons.mpr ⟨wt145, List.forall_mem_cons.mpr ⟨wt146, List.forall_mem_cons.mpr ⟨wt147, List.forall_mem_cons.mpr ⟨wt148, List.forall_mem_cons.mpr ⟨wt149, List.forall_mem_cons.mpr ⟨wt150, List.forall_mem_cons.mpr ⟨wt151, List.forall_mem_cons.mpr ⟨wt152, List.forall_mem_cons.mpr ⟨wt153, List.forall_mem_cons.mpr ⟨wt154, List.forall_mem_cons.mpr ⟨wt155, List.forall_mem_cons.mpr ⟨wt156, List.forall_mem_cons.mpr ⟨wt157, List.forall_mem_cons.mpr ⟨wt158, List.forall_mem_cons.mpr ⟨wt159, fun _ h => absurd h List.not_mem_nil⟩⟩⟩⟩⟩⟩⟩⟩⟩⟩⟩⟩⟩⟩⟩⟩⟩⟩⟩⟩⟩⟩⟩⟩⟩⟩⟩⟩⟩⟩⟩⟩⟩⟩⟩⟩⟩⟩⟩⟩
theorem gI3 : GoodIn lw_tbl gW3 := fun w h => ⟨gM3 w h, good_of_word (List.all_eq_true.mp (by decide +kernel : gW3.all goodWord = true) w h)⟩
theorem gM4 : ∀ w ∈ gW4, w ∈ lw_tbl := List.forall_mem_cons.mpr ⟨wt160, List.forall_mem_cons.mpr ⟨wt161, List.forall_mem_cons.mpr ⟨wt162, List.forall_mem_cons.mpr ⟨wt163, List.forall_mem_cons.mpr ⟨wt164, List.forall_mem_cons.mpr ⟨wt165, List.forall_mem_cons.mpr ⟨wt166, List.forall_mem_cons.mpr ⟨wt167, List.forall_mem_cons.mpr ⟨wt168, List.forall_mem_cons.mpr ⟨wt169, List.forall_mem_cons.mpr ⟨wt170, List.forall_mem_cons.mpr ⟨wt171, List.forall_mem_cons.mpr ⟨wt172, List.forall_mem_cons.mpr ⟨wt173, List.forall_mem_cons.mpr ⟨wt174, List.forall_mem_cons.mpr ⟨wt175, List.forall_mem_cons.mpr ⟨wt176, List.forall_mem_cons.mpr ⟨wt177, List.forall_mem_cons.mpr ⟨wt178, List.forall_mem_cons.mpr ⟨wt179, List.forall_mem_cons.mpr ⟨wt180, List.forall_mem_cons.mpr ⟨wt181, List.forall_mem_cons.mpr ⟨wt182, List.forall_mem_cons.mpr ⟨wt183, List.forall_mem_cons.mpr ⟨wt184, List.forall_mem_cons.mpr ⟨wt185, List.forall_mem_cons.mpr ⟨wt186, List.forall_mem_cons.mpr ⟨wt187, List.forall_mem_cons.mpr ⟨wt188, List.forall_mem_cons.mpr ⟨wt189, List.forall_mem_cons.mpr ⟨wt190, List.forall_mem_cons.mpr ⟨wt191, List.forall_mem_cons.mpr ⟨wt192, List.forall_mem_cons.mpr ⟨wt193, List.forall_mem_cons.mpr ⟨wt194, List.forall_mem_cons.mpr ⟨wt195, List.forall_mem_cons.mpr ⟨wt196, List.forall_mem_cons.mpr ⟨wt197, List.forall_mem_cons.mpr ⟨wt198, List.forall_mem_cons.mpr ⟨wt199, fun _ h => absurd h List.not_mem_nil⟩⟩⟩⟩⟩⟩⟩⟩⟩⟩⟩⟩⟩⟩⟩⟩⟩⟩⟩⟩⟩⟩⟩⟩⟩⟩⟩⟩⟩⟩⟩⟩⟩⟩⟩⟩⟩⟩⟩⟩
theorem gI4 : GoodIn lw_tbl gW4 := fun w h => ⟨gM4 w h, good_of_word (List.all_eq_true.mp (by decide +kernel : gW4.all goodWord = true) w h)⟩
theorem gM5 : ∀ w ∈ gW5, w ∈ lw_tbl := List.forall_mem_cons.mpr ⟨wt200, List.forall_mem_cons.mpr ⟨wt201, List.forall_mem_cons.mpr ⟨wt202, List.forall_mem_cons.mpr ⟨wt203, List.forall_mem_cons.mpr ⟨wt204, List.forall_mem_cons.mpr ⟨wt205, List.forall_mem_cons.mpr ⟨wt206, List.forall_mem_cons.mpr ⟨wt207, List.forall_mem_cons.mpr ⟨wt208, List.forall_mem_cons.mpr ⟨wt209, List.forall_mem_cons.mpr ⟨wt210, List.forall_mem_cons.mpr ⟨wt211, List.forall_mem_cons.mpr ⟨wt212, List.forall_mem_cons.mpr ⟨wt213, List.forall_mem_cons.mpr ⟨wt214, List.forall_mem_cons.mpr ⟨wt215, List.forall_mem_cons.mpr ⟨wt216, List.forall_mem_cons.mpr ⟨wt217, List.forall_mem_cons.mpr ⟨wt218, List.forall_mem_cons.mpr ⟨wt219, List.forall_mem_cons.mpr ⟨wt220, List.forall_mem_cons.mpr ⟨wt221, List.forall_mem_cons.mpr ⟨wt222, List.forall_mem_cons.mpr ⟨wt223, List.forall_mem_cons.mpr ⟨wt224, List.forall_mem_cons.mpr ⟨wt225, List.forall_mem_cons.mpr ⟨wt226, List.forall_mem_cons.mpr ⟨wt227, List.forall_mem_cons.mpr ⟨wt228, List.forall_mem_cons.mpr ⟨wt229, fun _ h => absurd h List.not_mem_nil⟩⟩⟩⟩⟩⟩⟩⟩⟩⟩⟩⟩⟩⟩⟩⟩⟩⟩⟩⟩⟩⟩⟩⟩⟩⟩⟩⟩⟩⟩
theorem gI5 : GoodIn lw_tbl gW5 := fun w h => ⟨gM5 w h, good_of_word (List.all_eq_true.mp (by decide +kernel : gW5.all goodWord = true) w h)⟩
set_option maxRecDepth 20000 in
theorem gJ0 : GoodIn lw_tbl wsX00 := goodIn_r _ [96, 98, 100, 102, 104, 106, 108, 110, 112, 114, 116, 118, 120, 122] (by decide +kernel) (by decide +kernel)
set_option maxRecDepth 20000 in
theorem gJ1 : GoodIn lw_tbl wsX10 := goodIn_r _ [420, 422, 424, 426, 428, 430] (by decide +kernel) (by decide +kernel)
set_option maxRecDepth 20000 in
theorem gJ2 : GoodIn lw_tbl wsX20 := goodIn_r _ [451, 453, 455, 457, 459, 461, 463, 465, 467, 469, 471, 473] (by decide +kernel) (by decide +kernel)
set_option maxRecDepth 20000 in
theorem gJ3 : GoodIn lw_tbl wsX30 := goodIn_r _ [224, 226, 228, 230, 232, 234, 236, 238] (by decide +kernel) (by decide +kernel)
set_option maxRecDepth 20000 in
theorem gJ4 : GoodIn lw_tbl wsX40 := goodIn_r _ [395, 397, 399, 401, 403, 405] (by decide +kernel) (by decide +kernel)
set_option maxRecDepth 20000 in
theorem gJ5 : GoodIn lw_tbl wsX50 := goodIn_r _ [203, 205, 207] (by decide +kernel) (by decide +kernel)
set_option maxRecDepth 20000 in
theorem gJ6 : GoodIn lw_tbl wsX60 := goodIn_r _ [364, 366, 368, 370, 372, 374, 376, 378, 380] (by decide +kernel) (by decide +kernel)
set_option maxRecDepth 20000 in
theorem gJ7 : GoodIn lw_tbl wsX70 := goodIn_r _ [133] (by decide +kernel) (by decide +kernel)
set_option maxRecDepth 20000 in
theorem gJ8 : GoodIn lw_tbl wsX80 := goodIn_r _ [323, 325, 327, 329, 331, 333, 335, 337, 339, 341, 343, 345] (by decide +kernel) (by decide +kernel)
set_option maxRecDepth 20000 in
theorem gJ9 : GoodIn lw_tbl wsX90 := goodIn_r _ [163, 165, 167, 169, 171, 173, 175, 177, 179, 181, 183, 185, 187, 189, 191] (by decide +kernel) (by decide +kernel)
set_option maxRecDepth 20000 in
theorem gJ10 : GoodIn lw_tbl wsX100 := goodIn_r _ [487, 489, 491, 493] (by decide +kernel) (by decide +kernel)
set_option maxRecDepth 20000 in
theorem gJ11 : GoodIn lw_tbl wsX110 := goodIn_r _ [512, 514, 516, 518, 520, 522, 524, 526, 528, 530, 532, 534, 536, 538, 540, 542] (by decide +kernel) (by decide +kernel)
set_option maxRecDepth 20000 in
theorem gJ12 : GoodIn lw_tbl wsX120 := goodIn_r _ [1724, 1726, 1728, 1730, 1732, 1734, 1736, 1738, 1740, 1742, 1744, 1746, 1748, 1750, 1752, 1754, 1756, 1758, 1760, 1762, 1764, 1766, 1768, 1770, 1772, 1774, 1776, 1778, 1780, 1782, 1784, 1786, 1788, 1790, 1792, 1794, 1796, 1798, 1800, 1802, 1804, 1806, 1808, 1810, 1812, 1814, 1816, 1818, 1820, 1822, 1824, 1826, 1828, 1830, 1832, 1834, 1836, 1838, 1840, 1842, 1844, 1846, 1848, 1850, 1852] (by decide +kernel) (by decide +kernel)
theorem gG : GoodIn lw_tbl G := goodIn_app (goodIn_app gI0 (goodIn_app gI1 (goodIn_app gI2 (goodIn_app gI3 (goodIn_app gI4 gI5))))) (goodIn_app (goodIn_app (goodIn_app (goodIn_app (goodIn_app (goodIn_app (goodIn_app (goodIn_app (goodIn_app (goodIn_app (goodIn_app (goodIn_app gJ0 gJ1) gJ2) gJ3) gJ4) gJ5) gJ6) gJ7) gJ8) gJ9) gJ10) gJ11) gJ12)
def xNestL : List (String × Nat × String × String × String × String) := []
def xWORDS : String := "refl trans comb abs beta assume eqmp deduct inst eta var const def thm all no by try rep left right in once then else "
def xStrL : List (String × Nat × String) := []
end
section
/-! ===== BEGIN exceptions that leave a method, and their catching by the caller (launches without stack traces) ===== -/
section VXA
/-! The laws vx_back, vx_callV, vx_callS, vx_callSW, vx_throw0, vx_throwS follow proofs of the library, with one case more: JvmDerived/Free/Laws.lean (Back.of_free), Shelf42/LK1.lean (callV, callS), Shelf/KitTraced.lean (throwNew0V, throwNewS). -/
/-- where a method has thrown q: the class by its name, the cell, what was written, the world -/
def vx_T (XC : String → State → State → Prop) (st : State) (q : Addr) (t : State) (mc ms : Nat) (free : Addr → Prop) : Prop :=
  ∃ (E : String) (ce : Cell) (L : List Loc), XC E st t ∧ t.heap[q]? = some ce ∧ ce.vm = .none ∧ st.vm.findClass E = some ce.cls ∧ st.WarmedH t.vm ∧ st.sameButNew ({ t with vm := st.vm } : State) L mc ms ∧ ∀ z ∈ L, free z.base
def vx_Q (Qc : Array Value → State → Outcome → State → Prop) (XC : String → State → State → Prop) (mc ms : Nat) (free : Addr → Prop) : Array Value → State → Outcome → State → Prop := fun a st o t =>
  (Qc a st o t ∧ ∃ L, FrameEnd st o t L mc ms ∧ ∀ q ∈ L, free q.base) ∨ ∃ q, o = .threw q ∧ vx_T XC st q t mc ms free
/-- a callee that returns or throws -/
def vx_Met (l : Launch) (y : MethodName) (ws : List Cond) (rm : Room) (Pc : Array Value → State → Prop) (Qc : Array Value → State → Outcome → State → Prop) (XC : String → State → State → Prop) (mc ms : Nat) (free : Addr → Prop) : Prop :=
  MetFree l y (headSpec ws rm) Pc (fun _ _ _ _ _ => True) (vx_Q Qc XC mc ms free)
def vx_Post (XC : String → State → State → Prop) (mc ms : Nat) (free : Addr → Prop) : Pt → Array Value → Addr → Pt → Prop := fun A a q B =>
  ∃ (g : JFrame) (mk : MethodId) (t : State) (L : List Loc) (E : String) (ce : Cell), B.U.heap = t.heap ∧ B.U.vm = t.vm ∧ XC E (A.U.calling g mk a) t ∧ t.heap[q]? = some ce ∧ ce.vm = .none ∧ A.U.vm.findClass E = some ce.cls ∧ B.locs = A.locs ++ L ∧ (∀ z ∈ L, free z.base) ∧ B.cells = A.cells + mc ∧ B.slots = A.slots + ms
def vx_Back (l : Launch) (R : Room) (p : Program) (e : Env) (below : List Frame) (s : State) (sargs : Array Value) (y : MethodName) (len W9 : Nat)
    (Pre : Pt → Array Value → Prop) (Post : Pt → Array Value → Option Value → Pt → Prop) (PostX : Pt → Array Value → Addr → Pt → Prop) : Prop :=
  ∀ (m : MethodId) (meth : Method) (c : Code) (A : Pt) (g : JFrame) (ig : Instr) (mk : MethodId) (a : Array Value),
    Stand p l e R s m sargs below meth c A.U A.locs A.cells A.slots → g.method = m → g.locals.size = c.maxLocals → decode c.code g.pc = .ok (ig, len) →
    2 * g.monitorRoom + (g.stack.map fun v => v.category).sum ≤ W9 → A.U.methodNamed? y = some mk → Pre A a →
    (∃ (v : Option Value) (B : Pt), Stand p l e R s m sargs below meth c B.U B.locs B.cells B.slots ∧ Post A a v B ∧
      Steps p.tables e below (doInvoke e (A.U.setTop g) [] mk a).1 (B.U.setTop { g with pc := g.pc + len, stack := v.toList ++ g.stack })) ∨
    (∃ (q : Addr) (B : Pt), Stand p l e R s m sargs below meth c B.U B.locs B.cells B.slots ∧ PostX A a q B ∧
      Steps p.tables e below (doInvoke e (A.U.setTop g) [] mk a).1 ((B.U.setTop g).pushFrame (.throwing q)))
section Payer
variable {l : Launch} {R : Room} {p : Program} {e : Env} {below : List Frame} {s : State} {sargs : Array Value} {y : MethodName} {len W9 : Nat}
theorem vx_back {ws : List Cond} {rm : Room} {Pc : Array Value → State → Prop} {Qc : Array Value → State → Outcome → State → Prop} {XC : String → State → State → Prop} {mc ms : Nat} {free : Addr → Prop} {bytes : ByteArray} {maxL : Nat} {ret : Option FieldType}
    (hM : vx_Met l y ws rm Pc Qc XC mc ms free) (hblind : FrameBlind Pc) (hrc : rm.cells = mc) (hrs : rm.slots = ms)
    (hframes : rm.frames + 1 ≤ R.frames) (hlocals : W9 + (maxL + 11) + rm.locals ≤ R.locals)
    (hws : ∀ w ∈ ws, ∀ a' U, s.WarmedH U.vm → w.before a' U = true) (hcode : Cond.code y bytes maxL ret ∈ ws) (hinit : ∀ a' U, s.WarmedH U.vm → (Cond.initialized y.cls).before a' U = true) :
    vx_Back l R p e below s sargs y len W9 (PreOf R mc ms Pc) (PostOf Qc mc ms free) (vx_Post XC mc ms free) := by
  intro m meth c A g ig mk a X hg hsize hdg hW hn hp
  have h1 : (headSpec ws rm).pre.before a A.U = true := atoms_intro fun w hw => hws w hw _ _ X.warmed
  have h2 : (Cond.code y bytes maxL ret).before a A.U = true := hws _ hcode _ _ X.warmed
  have h3 : (Cond.initialized y.cls).before a A.U = true := hinit _ _ X.warmed
  have h4 : A.cells + (headSpec ws rm).room.cells ≤ R.cells := by rw [show (headSpec ws rm).room.cells = mc from hrc]; exact hp.1
  have h5 : A.slots + (headSpec ws rm).room.slots ≤ R.slots := by rw [show (headSpec ws rm).room.slots = ms from hrs]; exact hp.2.1
  have hPc : Pc a (A.U.calling g mk a) := hblind _ _ _ _ hp.2.2
  obtain ⟨U, Ls, c0, s0⟩ := A
  dsimp only [Pt.U, Pt.locs, Pt.cells, Pt.slots] at h1 h2 h3 h4 h5 X hn hPc ⊢
  obtain ⟨methY, cY, hmY, hcY, -, hlY, -, -, -, -⟩ := Cond.code_spec hn h2
  obtain ⟨kY, hkY, -⟩ := className_of_methodNamed hn
  have hinitY : kY.init = .initialized := Cond.initialized_spec (findClass_of_methodNamed hn) hkY h3
  have h : At U g.method c below := by rw [hg]; exact X.here
  have hlocals9 : W9 + (maxL + 11) + (headSpec ws rm).room.locals ≤ R.locals := hlocals
  have happ : (headSpec ws rm).appliesLoose y e.platform (U.calling g mk a) = true :=
    Spec.appliesLoose_calling (g := g) h hdg hn hkY hinitY
      (X.room_calling (g := g) (R' := (headSpec ws rm).room) hsize hmY hcY hframes (by rw [hlY]; omega) h4 h5) h1
  obtain ⟨mid, hmid⟩ := h.above
  have hfr : (U.setTop g).frames = (.java g :: mid) ++ below := by rw [State.frames_setTop' g h.top, hmid]; rfl
  obtain ⟨o, s₂, hsteps, -, hend, hq⟩ := Steps.callFree hM p X.admits X.cas X.clock (acts := []) hfr happ hPc trivial
  have hq' : vx_Q Qc XC mc ms free a (U.calling g mk a) o s₂ := hq
  rw [State.frames_setTop' g h.top] at hend
  obtain ⟨g₀, hg0⟩ := Option.isSome_iff_exists.mp h.top
  obtain ⟨r, hr⟩ := State.topJava?_eq_some.mp hg0
  have hr' : (({ U with heap := s₂.heap, slotsUsed := s₂.slotsUsed } : State).setVm s₂.vm).frames = .java g₀ :: r := hr
  rcases hq' with ⟨hqc, L, hfe, hL⟩ | ⟨q, rfl, E, ce, L, hx, hce, hcv, hcl, hW₂, hsm, hL⟩
  · obtain ⟨⟨v, rfl⟩, hW₂, e2, q2, q3, q4, q5, q6⟩ := id hfe
    have e3 : s₂ = ({ (U.calling g mk a).setFrames s₂.frames with heap := s₂.heap, slotsUsed := s₂.slotsUsed } : State).setVm s₂.vm := by
      have : s₂ = ({ s₂ with vm := (U.calling g mk a).vm } : State).setVm s₂.vm := rfl
      rw [e2] at this
      exact this
    obtain ⟨c₂, i₂, len₂, hc₂, hd₂, hf₂⟩ := hend
    have hW' : U.WarmedH s₂.vm := hW₂
    have hcc : c₂ = c := by
      have h1 : s₂.code? g.method = U.code? g.method := by
        rw [State.code?_eq, State.code?_eq, hW'.alike.method?]
      exact Option.some.inj (hc₂.symm.trans (h1.trans h.code))
    subst hcc
    have hlen : len₂ = len := by rw [hdg] at hd₂; cases hd₂; rfl
    subst hlen
    have hs₂ : s₂ = (({ U with heap := s₂.heap, slotsUsed := s₂.slotsUsed } : State).setVm s₂.vm).setTop { g with pc := g.pc + len₂, stack := v.toList ++ g.stack } := by
      refine e3.trans ?_
      rw [hf₂, State.calling_eq h.top, State.setFrames_setFrames, State.setTop_of_frames _ hr', hr]
      rfl
    have hsame : U.sameButNew ({ U with heap := s₂.heap, slotsUsed := s₂.slotsUsed } : State) L mc ms := by
      refine ⟨?_, q2, q3, q4, q5, q6⟩
      obtain ⟨t, ht, -⟩ := State.frames_cons hr
      show ({ U with heap := s₂.heap, slotsUsed := s₂.slotsUsed } : State) = { U.setFrames U.frames with heap := s₂.heap, slotsUsed := s₂.slotsUsed }
      rw [State.setFrames_self ht]
    subst hg
    refine Or.inl ⟨v, ⟨(({ U with heap := s₂.heap, slotsUsed := s₂.slotsUsed } : State).setVm s₂.vm), Ls ++ L, c0 + mc, s0 + ms⟩,
      ⟨X.admits, X.cas, X.clock, X.frames, X.room, X.hears, X.method, X.code, (X.here.setHeapUsed s₂.heap s₂.slotsUsed).setVm hW'.alike, X.tail, State.WarmedH.trans X.warmed hW', X.limits, X.bytes, X.same.trans (hsame.setVm s.vm)⟩,
      ⟨g, mk, s₂, L, rfl, rfl, hqc, rfl, hL, rfl, rfl⟩, ?_⟩
    show Steps p.tables e below _ ((({ U with heap := s₂.heap, slotsUsed := s₂.slotsUsed } : State).setVm s₂.vm).setTop { g with pc := g.pc + len₂, stack := v.toList ++ g.stack })
    rw [← hs₂]
    exact hsteps
  · obtain ⟨e2, q2, q3, q4, q5, q6⟩ := id hsm
    have e3 : s₂ = ({ (U.calling g mk a).setFrames s₂.frames with heap := s₂.heap, slotsUsed := s₂.slotsUsed } : State).setVm s₂.vm := by
      have : s₂ = ({ s₂ with vm := (U.calling g mk a).vm } : State).setVm s₂.vm := rfl
      rw [e2] at this
      exact this
    have hf₂ : s₂.frames = .throwing q :: .java g :: U.frames.tail := hend
    have hW' : U.WarmedH s₂.vm := hW₂
    have hs₂ : s₂ = ((({ U with heap := s₂.heap, slotsUsed := s₂.slotsUsed } : State).setVm s₂.vm).setTop g).pushFrame (.throwing q) := by
      refine e3.trans ?_
      rw [hf₂, State.calling_eq h.top, State.setFrames_setFrames, State.pushFrame, State.frames_setTop _ hr', State.setTop_of_frames _ hr', State.setFrames_setFrames, hr]
      rfl
    have hsame : U.sameButNew ({ U with heap := s₂.heap, slotsUsed := s₂.slotsUsed } : State) L mc ms := by
      refine ⟨?_, q2, q3, q4, q5, q6⟩
      obtain ⟨t, ht, -⟩ := State.frames_cons hr
      show ({ U with heap := s₂.heap, slotsUsed := s₂.slotsUsed } : State) = { U.setFrames U.frames with heap := s₂.heap, slotsUsed := s₂.slotsUsed }
      rw [State.setFrames_self ht]
    subst hg
    refine Or.inr ⟨q, ⟨(({ U with heap := s₂.heap, slotsUsed := s₂.slotsUsed } : State).setVm s₂.vm), Ls ++ L, c0 + mc, s0 + ms⟩,
      ⟨X.admits, X.cas, X.clock, X.frames, X.room, X.hears, X.method, X.code, (X.here.setHeapUsed s₂.heap s₂.slotsUsed).setVm hW'.alike, X.tail, State.WarmedH.trans X.warmed hW', X.limits, X.bytes, X.same.trans (hsame.setVm s.vm)⟩,
      ⟨g, mk, s₂, L, E, ce, rfl, rfl, hx, hce, hcv, hcl, rfl, hL, rfl, rfl⟩, ?_⟩
    show Steps p.tables e below _ (((({ U with heap := s₂.heap, slotsUsed := s₂.slotsUsed } : State).setVm s₂.vm).setTop g).pushFrame (.throwing q))
    rw [← hs₂]
    exact hsteps
end Payer
section Calls
variable {p : Program} {l : Launch} {e : Env} {R : Room} {s : State} {m : MethodId} {args : Array Value} {below : List Frame} {meth : Method} {c : Code} {T : State} {locs : List Loc} {cells slots : Nat}
theorem vx_callV (X : Stand p l e R s m args below meth c T locs cells slots) (hexec : p.tables.exec = Jvm.exec) {own C : String} {index : Nat} {y : MethodName} {bytes : ByteArray} {maxL : Nat} {ret : Option FieldType}
    (hown : s.vm.findClass own = some m.cls) (hlink : (Cond.methodLink own index y).before args s = true) (hinst : (Cond.instanceMethod y).before args s = true) (hsel : (Cond.selects C y y).before args s = true)
    (hcode : (Cond.code y bytes maxL ret).before args s = true) (hy : y.cls ≠ "java/lang/invoke/MethodHandle" ∧ y.cls ≠ "java/lang/invoke/VarHandle")
    {W9 : Nat} {Pre : Pt → Array Value → Prop} {Post : Pt → Array Value → Option Value → Pt → Prop} {PostX : Pt → Array Value → Addr → Pt → Prop} (hK : vx_Back l R p e below s args y 3 W9 Pre Post PostX)
    {b : Addr} {cellB : Cell} (hcell : T.heap[b]? = some cellB) (hobj : cellB.vm.isStatics = false) (hcls : s.vm.findClass C = some cellB.cls)
    {g : JFrame} (hg : g.method = m) (hsize : g.locals.size = c.maxLocals) {argsL rest : List Value} (hlen : ∀ sig, parseMethodDescriptor y.desc = some sig → argsL.length = sig.parameters.length)
    (hstack : g.stack = argsL.reverse ++ .ref b :: rest) (hW : 2 * g.monitorRoom + (rest.map fun v => v.category).sum ≤ W9) (hdg : decode c.code g.pc = .ok (.invokevirtual index, 3))
    (hpre : ∀ vm₁, s.WarmedH vm₁ → Pre ⟨T.setVm vm₁, locs, cells, slots⟩ (Value.ref b :: argsL).toArray) :
    (∃ (v : Option Value) (vm₁ : Vm) (B : Pt), s.WarmedH vm₁ ∧ Stand p l e R s m args below meth c B.U B.locs B.cells B.slots ∧ Post ⟨T.setVm vm₁, locs, cells, slots⟩ (Value.ref b :: argsL).toArray v B ∧
      ∀ target, Steps p.tables e below (B.U.setTop { g with pc := g.pc + 3, stack := v.toList ++ rest }) target → Steps p.tables e below (T.setTop g) target) ∨
    (∃ (q : Addr) (vm₁ : Vm) (B : Pt), s.WarmedH vm₁ ∧ Stand p l e R s m args below meth c B.U B.locs B.cells B.slots ∧ PostX ⟨T.setVm vm₁, locs, cells, slots⟩ (Value.ref b :: argsL).toArray q B ∧
      Steps p.tables e below (T.setTop g) ((B.U.setTop { g with stack := rest }).pushFrame (.throwing q))) := by
  obtain ⟨mk, methM, hnamed, hmethM, hstM, habM⟩ := Cond.instanceMethod_spec hinst
  obtain ⟨methM', cM, hmethM', -, -, -, -, -, -, hsigM⟩ := Cond.code_spec hnamed hcode
  cases hmethM.symm.trans hmethM'
  obtain ⟨c2, r2, m2, q1, q2, q3, q4, kP, hkP, hkPi⟩ := Cond.selects_spec hsel
  cases hcls.symm.trans q1
  cases (State.methodFound?_of_named hnamed hy).symm.trans q2
  cases hnamed.symm.trans q3
  have hselP : selectMethod e.platform s.vm cellB.cls mk = .method mk := by rw [Launch.admits_selectMethod X.admits]; exact q4
  obtain ⟨vm₁, X₁, hstep₁⟩ := X.invokevirtual hexec hown hlink hnamed hmethM hstM hkP hkPi hy (a := b) (cell := cellB) hcell
    (fun z h => by rw [h] at hobj; cases hobj) hselP hmethM habM hkP hkPi (g := g) hg (argsL := argsL) (rest := rest) (hlen _ hsigM) hstack hdg
  rcases hK m meth c ⟨T.setVm vm₁, locs, cells, slots⟩ { g with stack := rest } (.invokevirtual index) mk (Value.ref b :: argsL).toArray X₁ hg hsize hdg hW (X₁.named hnamed) (hpre vm₁ X₁.warmed) with ⟨v, B, X', hpost, hsteps⟩ | ⟨q, B, X', hpost, hsteps⟩
  · exact Or.inl ⟨v, vm₁, B, X₁.warmed, X', hpost, fun target h => hstep₁ _ fun acts => by rw [doInvoke_state]; exact hsteps.trans h⟩
  · exact Or.inr ⟨q, vm₁, B, X₁.warmed, X', hpost, hstep₁ _ fun acts => by rw [doInvoke_state]; exact hsteps⟩
theorem vx_callS (X : Stand p l e R s m args below meth c T locs cells slots) (hexec : p.tables.exec = Jvm.exec) {own : String} {index : Nat} {y : MethodName} {bytes : ByteArray} {maxL : Nat} {ret : Option FieldType}
    (hown : s.vm.findClass own = some m.cls) (hlink : (Cond.methodLink own index y).before args s = true) (hstat : (Cond.static y).before args s = true) (hinit : (Cond.initialized y.cls).before args s = true)
    (hcode : (Cond.code y bytes maxL ret).before args s = true) (hy : y.cls ≠ "java/lang/invoke/MethodHandle" ∧ y.cls ≠ "java/lang/invoke/VarHandle")
    {W9 : Nat} {Pre : Pt → Array Value → Prop} {Post : Pt → Array Value → Option Value → Pt → Prop} {PostX : Pt → Array Value → Addr → Pt → Prop} (hK : vx_Back l R p e below s args y 3 W9 Pre Post PostX)
    {g : JFrame} (hg : g.method = m) (hsize : g.locals.size = c.maxLocals) {argsL rest : List Value} (hlen : ∀ sig, parseMethodDescriptor y.desc = some sig → argsL.length = sig.parameters.length)
    (hstack : g.stack = argsL.reverse ++ rest) (hW : 2 * g.monitorRoom + (rest.map fun v => v.category).sum ≤ W9) (hdg : decode c.code g.pc = .ok (.invokestatic index, 3))
    (hpre : ∀ vm₁, s.WarmedH vm₁ → Pre ⟨T.setVm vm₁, locs, cells, slots⟩ argsL.toArray) :
    (∃ (v : Option Value) (vm₁ : Vm) (B : Pt), s.WarmedH vm₁ ∧ Stand p l e R s m args below meth c B.U B.locs B.cells B.slots ∧ Post ⟨T.setVm vm₁, locs, cells, slots⟩ argsL.toArray v B ∧
      ∀ target, Steps p.tables e below (B.U.setTop { g with pc := g.pc + 3, stack := v.toList ++ rest }) target → Steps p.tables e below (T.setTop g) target) ∨
    (∃ (q : Addr) (vm₁ : Vm) (B : Pt), s.WarmedH vm₁ ∧ Stand p l e R s m args below meth c B.U B.locs B.cells B.slots ∧ PostX ⟨T.setVm vm₁, locs, cells, slots⟩ argsL.toArray q B ∧
      Steps p.tables e below (T.setTop g) ((B.U.setTop { g with stack := rest }).pushFrame (.throwing q))) := by
  obtain ⟨mk, hnamed⟩ := Cond.code_named hcode
  obtain ⟨methM, cM, hmethM, -, -, -, -, -, -, hsigM⟩ := Cond.code_spec hnamed hcode
  have hstatic : methM.isStatic = true := Cond.static_spec hnamed hmethM hstat
  obtain ⟨kP, hkP, -⟩ := className_of_methodNamed hnamed
  have hinitP : kP.init = .initialized := Cond.initialized_spec (findClass_of_methodNamed hnamed) hkP hinit
  obtain ⟨vm₁, X₁, hstep₁⟩ := X.invokestatic hexec hown hlink hnamed hmethM hstatic hkP hinitP hy (g := g) hg (argsL := argsL) (rest := rest) (hlen _ hsigM) hstack hdg
  rcases hK m meth c ⟨T.setVm vm₁, locs, cells, slots⟩ { g with stack := rest } (.invokestatic index) mk argsL.toArray X₁ hg hsize hdg hW (X₁.named hnamed) (hpre vm₁ X₁.warmed) with ⟨v, B, X', hpost, hsteps⟩ | ⟨q, B, X', hpost, hsteps⟩
  · exact Or.inl ⟨v, vm₁, B, X₁.warmed, X', hpost, fun target h => hstep₁ _ fun acts => by rw [doInvoke_state]; exact hsteps.trans h⟩
  · exact Or.inr ⟨q, vm₁, B, X₁.warmed, X', hpost, hstep₁ _ fun acts => by rw [doInvoke_state]; exact hsteps⟩
end Calls
theorem vx_cls {s : State} {T : State} {vm₁ : Vm} {E : String} {k : ClassId} (hW : s.WarmedH vm₁) (h : (T.setVm vm₁).vm.findClass E = some k) : s.vm.findClass E = some k := by
  have h1 : vm₁.findClass E = some k := h
  rw [hW.alike.findClass] at h1
  exact h1
/-- the method's frame g, with q thrown over it -/
def vx_W (p : Program) (l : Launch) (e : Env) (R : Room) (s : State) (m : MethodId) (args : Array Value) (below : List Frame) (meth : Method) (c : Code) (H : Heap) (locs : List Loc) (cells slots : Nat) (Q : State → Prop) (g : JFrame) (q : Addr) : Prop :=
  ∀ T : State, T.heap = H → Stand p l e R s m args below meth c T locs cells slots → ∃ t, Steps p.tables e below ((T.setTop g).pushFrame (.throwing q)) t ∧ Q t
def vx_Run (p : Program) (l : Launch) (e : Env) (R : Room) (s : State) (m : MethodId) (args : Array Value) (below : List Frame) (meth : Method) (c : Code) (H : Heap) (locs : List Loc) (cells slots mc ms : Nat) (g : JFrame) (rest : List Value) (Qa : State → Outcome → State → Prop) (XC : String → State → State → Prop) (free : Addr → Prop) : Prop :=
  ∀ T : State, T.heap = H → Stand p l e R s m args below meth c T locs cells slots →
    (∃ (v : Option Value) (st₀ t T' : State) (L : List Loc), st₀.heap = H ∧ Stand p l e R s m args below meth c T' (locs ++ L) (cells + mc) (slots + ms) ∧ (∀ q ∈ L, free q.base) ∧ T'.heap = t.heap ∧ T'.vm = t.vm ∧ Qa st₀ (.returned v) t ∧
      Goes p e below T g T' { g with pc := g.pc + 3, stack := v.toList ++ rest }) ∨
    (∃ (q : Addr) (st₀ t T' : State) (L : List Loc) (E : String) (ce : Cell), st₀.heap = H ∧ Stand p l e R s m args below meth c T' (locs ++ L) (cells + mc) (slots + ms) ∧ (∀ z ∈ L, free z.base) ∧ T'.heap = t.heap ∧ T'.vm = t.vm ∧ XC E st₀ t ∧ t.heap[q]? = some ce ∧ ce.vm = .none ∧ s.vm.findClass E = some ce.cls ∧
      Steps p.tables e below (T.setTop g) ((T'.setTop { g with stack := rest }).pushFrame (.throwing q)))
def vx_X {S : Type} (px : S → Prop) (B : String → S → State → Prop) (A : Nat → Prop) : String → State → State → Prop := fun E st t => ∃ u : S, px u ∧ B E u t ∧ va_F A st t
section Runs
variable {p : Program} {l : Launch} {e : Env} {R : Room} {s : State} {m : MethodId} {args : Array Value} {below : List Frame} {meth : Method} {c : Code} {H : Heap} {locs : List Loc} {cells slots : Nat}
variable {y : MethodName} {bytes cc : ByteArray} {maxL nL mc ms n index : Nat} {ret : Option FieldType} {ws : List Cond} {rm : Room} {Pc : Array Value → State → Prop} {Qc : Array Value → State → Outcome → State → Prop} {XC : String → State → State → Prop} {free : Addr → Prop} {Ts : List Cond} {own C : String} {b : Addr} {As rest : List Value} {g : JFrame}
theorem vx_callBack (cb : CallB R s args own index y bytes maxL ret ws rm mc ms n) (hM : vx_Met l y ws rm Pc Qc XC mc ms free) (hbl : FrameBlind Pc) : vx_Back l R p e below s args y 3 8 (PreOf R mc ms Pc) (PostOf Qc mc ms free) (vx_Post XC mc ms free) := by
  obtain ⟨hrc, hrs, hfr, hlo, hws, hcw, -, hini, -⟩ := cb
  exact vx_back (bytes := bytes) (maxL := maxL) (ret := ret) hM hbl hrc hrs hfr hlo hws hcw (fun a' U hW => word_at hW (Or.inl (by first | rfl | simp [Cond.onTables, Cond.keeps, Cond.steady])) hini)
theorem vx_runV (S : CallFix p m c cc nL s args Ts own) (hM : vx_Met l y ws rm Pc Qc XC mc ms free) (cw : CallW R s args own C index y bytes maxL ret ws rm mc ms n) (hp : PreV s H C b Pc As)
    (hg : g.method = m) (hn : As.length = n) (hsize : g.locals.size = nL) (hstack : g.stack = As.reverse ++ .ref b :: rest) (hW : 2 * g.monitorRoom + (rest.map fun v => v.category).sum ≤ 8) (hdg : decode cc g.pc = .ok (.invokevirtual index, 3)) (hf : cells + mc ≤ R.cells ∧ slots + ms ≤ R.slots) :
    vx_Run p l e R s m args below meth c H locs cells slots mc ms g rest (Qc (Value.ref b :: As).toArray) XC free := by
  have hK : vx_Back l R p e below s args y 3 8 (PreOf R mc ms Pc) (PostOf Qc mc ms free) (vx_Post XC mc ms free) := vx_callBack cw.1 hM hp.1
  obtain ⟨⟨-, -, -, -, -, -, hcode, -, hy, hlen, hl⟩, hin, hse⟩ := cw
  obtain ⟨hx, hb, hml, ho, -⟩ := S
  obtain ⟨-, ⟨cellB, hcB, hoB, hclB⟩, hPc⟩ := hp
  intro T hT X
  rcases vx_callV X hx (C := C) (bytes := bytes) (maxL := maxL) (ret := ret) ho hl hin hse hcode hy hK (by rw [hT]; exact hcB) hoB hclB hg (hsize.trans hml.symm) (argsL := As) (rest := rest) (fun sig h => hn.trans (hlen sig h)) hstack hW (by rw [hb]; exact hdg)
    (fun vm₁ hW₁ => ⟨hf.1, hf.2, hPc (T.setVm vm₁) hT hW₁⟩) with ⟨v, vm₁, ⟨U', l2, c2, s2⟩, hW₁, X', ⟨g', mk, t, L, e1, e2, hq, h1, hL, h2, h3⟩, st⟩ | ⟨q, vm₁, ⟨U', l2, c2, s2⟩, hW₁, X', ⟨g', mk, t, L, E, ce, e1, e2, hq, hce, hcv, hcl, h1, hL, h2, h3⟩, st⟩
  · dsimp only [Pt.U, Pt.locs, Pt.cells, Pt.slots] at X' e1 e2 h1 h2 h3 st
    subst h1; subst h2; subst h3
    exact Or.inl ⟨v, (T.setVm vm₁).calling g' mk (Value.ref b :: As).toArray, t, U', L, hT, X', hL, e1, e2, hq, st⟩
  · dsimp only [Pt.U, Pt.locs, Pt.cells, Pt.slots] at X' e1 e2 h1 h2 h3 st hcl
    subst h1; subst h2; subst h3
    exact Or.inr ⟨q, (T.setVm vm₁).calling g' mk (Value.ref b :: As).toArray, t, U', L, E, ce, hT, X', hL, e1, e2, hq, hce, hcv, vx_cls hW₁ hcl, st⟩
theorem vx_runS (S : CallFix p m c cc nL s args Ts own) (hM : vx_Met l y ws rm Pc Qc XC mc ms free) (cw : CallB R s args own index y bytes maxL ret ws rm mc ms n ∧ (Cond.static y).before args s = true) (hp : PreS s H Pc As)
    (hg : g.method = m) (hn : As.length = n) (hsize : g.locals.size = nL) (hstack : g.stack = As.reverse ++ rest) (hW : 2 * g.monitorRoom + (rest.map fun v => v.category).sum ≤ 8) (hdg : decode cc g.pc = .ok (.invokestatic index, 3)) (hf : cells + mc ≤ R.cells ∧ slots + ms ≤ R.slots) :
    vx_Run p l e R s m args below meth c H locs cells slots mc ms g rest (Qc As.toArray) XC free := by
  have hK : vx_Back l R p e below s args y 3 8 (PreOf R mc ms Pc) (PostOf Qc mc ms free) (vx_Post XC mc ms free) := vx_callBack cw.1 hM hp.1
  obtain ⟨⟨-, -, -, -, -, -, hcode, hini, hy, hlen, hl⟩, hstt⟩ := cw
  obtain ⟨hx, hb, hml, ho, -⟩ := S
  intro T hT X
  rcases vx_callS X hx (bytes := bytes) (maxL := maxL) (ret := ret) ho hl hstt hini hcode hy hK hg (hsize.trans hml.symm) (argsL := As) (rest := rest) (fun sig h => hn.trans (hlen sig h)) hstack hW (by rw [hb]; exact hdg)
    (fun vm₁ hW₁ => ⟨hf.1, hf.2, hp.2 (T.setVm vm₁) hT hW₁⟩) with ⟨v, vm₁, ⟨U', l2, c2, s2⟩, hW₁, X', ⟨g', mk, t, L, e1, e2, hq, h1, hL, h2, h3⟩, st⟩ | ⟨q, vm₁, ⟨U', l2, c2, s2⟩, hW₁, X', ⟨g', mk, t, L, E, ce, e1, e2, hq, hce, hcv, hcl, h1, hL, h2, h3⟩, st⟩
  · dsimp only [Pt.U, Pt.locs, Pt.cells, Pt.slots] at X' e1 e2 h1 h2 h3 st
    subst h1; subst h2; subst h3
    exact Or.inl ⟨v, (T.setVm vm₁).calling g' mk As.toArray, t, U', L, hT, X', hL, e1, e2, hq, st⟩
  · dsimp only [Pt.U, Pt.locs, Pt.cells, Pt.slots] at X' e1 e2 h1 h2 h3 st hcl
    subst h1; subst h2; subst h3
    exact Or.inr ⟨q, (T.setVm vm₁).calling g' mk As.toArray, t, U', L, E, ce, hT, X', hL, e1, e2, hq, hce, hcv, vx_cls hW₁ hcl, st⟩
end Runs
section Rows
variable {p : Program} {l : Launch} {e : Env} {R : Room} {s : State} {m : MethodId} {args : Array Value} {below : List Frame} {meth : Method} {c : Code} {H : Heap} {locs : List Loc} {cells slots : Nat} {Q : State → Prop}
variable {mc ms : Nat} {free : Addr → Prop} {A0 A1 : Nat → Prop} {H0 : Heap} {a : Array Value} {pc : Nat} {ls : Array Slot} {st0 rest : List Value}
theorem vx_keep {st₀ t T' : State} {L : List Loc} (h0 : st₀.heap = H) (e1 : T'.heap = t.heap) (hS : va_S A0 H0 H locs) (hA : ∀ q, q < H.size → A1 q → A0 q) (hf : ∀ q, free q → A0 q) (hL : ∀ q ∈ L, free q.base) (hF : va_F A1 st₀ t) :
    H.size ≤ T'.heap.size ∧ (∀ q : Nat, q < H.size → ¬ A1 q → T'.heap[q]? = H[q]?) ∧ va_S A0 H0 T'.heap (locs ++ L) := by
  obtain ⟨hz, hk⟩ := hF
  rw [h0] at hz hk
  exact ⟨by rw [e1]; exact hz, fun q h1 h2 => by rw [e1]; exact hk q h1 h2,
    ⟨Nat.le_trans hS.1 (by rw [e1]; exact hz), fun q h1 h2 => by rw [e1, hk q (Nat.lt_of_lt_of_le h1 hS.1) (fun z => h2 (hA q (Nat.lt_of_lt_of_le h1 hS.1) z))]; exact hS.2.1 q h1 h2, fun q hq => by
      rcases List.mem_append.mp hq with h | h
      · exact hS.2.2 q h
      · exact hf _ (hL q h)⟩⟩
theorem vx_calli {S SX : Type} {post : Int32 → S → Prop} {px : SX → Prop} {B : S → State → Prop} {BX : String → SX → State → Prop} {AX : Nat → Prop} (hr : vx_Run p l e R s m args below meth c H locs cells slots mc ms (F0 m pc ls st0) rest (va_Qi post B A1 a) (vx_X px BX AX) free) (hS : va_S A0 H0 H locs) (hA : ∀ q, q < H.size → A1 q → A0 q) (hf : ∀ q, free q → A0 q) (hAX : ∀ q, q < H.size → AX q → A0 q)
    (kx : ∀ (E : String) (ce : Cell) (q9 : Addr) (u : SX) (t : State) (H1 : Heap) (locs1 : List Loc), t.heap = H1 → s.vm.Alike t.vm → px u → BX E u t → H.size ≤ H1.size → (∀ q : Nat, q < H.size → ¬ AX q → H1[q]? = H[q]?) → va_S A0 H0 H1 locs1 → H1[q9]? = some ce → ce.vm = .none → s.vm.findClass E = some ce.cls → vx_W p l e R s m args below meth c H1 locs1 (cells + mc) (slots + ms) Q (F0 m pc ls rest) q9)
    (kk : ∀ (r : Int32) (u : S) (t : State) (H1 : Heap) (locs1 : List Loc), t.heap = H1 → s.vm.Alike t.vm → post r u → B u t → H.size ≤ H1.size → (∀ q : Nat, q < H.size → ¬ A1 q → H1[q]? = H[q]?) → va_S A0 H0 H1 locs1 → W p l e R s m args below meth c H1 locs1 (cells + mc) (slots + ms) Q (F0 m (pc + 3) ls (.int r :: rest))) : W p l e R s m args below meth c H locs cells slots Q (F0 m pc ls st0) := by
  intro T hT X
  rcases hr T hT X with ⟨v, st₀, t, T', L, h0, X', hL, e1, e2, ⟨⟨r, u, hv, hp, hb⟩, hF⟩, st⟩ | ⟨q, st₀, t, T', L, E, ce, h0, X', hL, e1, e2, ⟨u, hp, hb, hF⟩, hce, hcv, hcl, st⟩
  · cases hv
    obtain ⟨k1, k2, k3⟩ := vx_keep h0 e1 hS hA hf hL hF
    obtain ⟨t2, a1, b1⟩ := kk r u t T'.heap (locs ++ L) e1.symm (by rw [← e2]; exact X'.warmed.alike) hp hb k1 k2 k3 T' rfl X'
    exact ⟨t2, st t2 a1, b1⟩
  · obtain ⟨k1, k2, k3⟩ := vx_keep h0 e1 hS hAX hf hL hF
    obtain ⟨t2, a1, b1⟩ := kx E ce q u t T'.heap (locs ++ L) e1.symm (by rw [← e2]; exact X'.warmed.alike) hp hb k1 k2 k3 (by rw [e1]; exact hce) hcv hcl T' rfl X'
    exact ⟨t2, st.trans a1, b1⟩
theorem vx_calll {S SX : Type} {post : Int64 → S → Prop} {px : SX → Prop} {B : S → State → Prop} {BX : String → SX → State → Prop} {AX : Nat → Prop} (hr : vx_Run p l e R s m args below meth c H locs cells slots mc ms (F0 m pc ls st0) rest (va_Ql post B A1 a) (vx_X px BX AX) free) (hS : va_S A0 H0 H locs) (hA : ∀ q, q < H.size → A1 q → A0 q) (hf : ∀ q, free q → A0 q) (hAX : ∀ q, q < H.size → AX q → A0 q)
    (kx : ∀ (E : String) (ce : Cell) (q9 : Addr) (u : SX) (t : State) (H1 : Heap) (locs1 : List Loc), t.heap = H1 → s.vm.Alike t.vm → px u → BX E u t → H.size ≤ H1.size → (∀ q : Nat, q < H.size → ¬ AX q → H1[q]? = H[q]?) → va_S A0 H0 H1 locs1 → H1[q9]? = some ce → ce.vm = .none → s.vm.findClass E = some ce.cls → vx_W p l e R s m args below meth c H1 locs1 (cells + mc) (slots + ms) Q (F0 m pc ls rest) q9)
    (kk : ∀ (r : Int64) (u : S) (t : State) (H1 : Heap) (locs1 : List Loc), t.heap = H1 → s.vm.Alike t.vm → post r u → B u t → H.size ≤ H1.size → (∀ q : Nat, q < H.size → ¬ A1 q → H1[q]? = H[q]?) → va_S A0 H0 H1 locs1 → W p l e R s m args below meth c H1 locs1 (cells + mc) (slots + ms) Q (F0 m (pc + 3) ls (.long r :: rest))) : W p l e R s m args below meth c H locs cells slots Q (F0 m pc ls st0) := by
  intro T hT X
  rcases hr T hT X with ⟨v, st₀, t, T', L, h0, X', hL, e1, e2, ⟨⟨r, u, hv, hp, hb⟩, hF⟩, st⟩ | ⟨q, st₀, t, T', L, E, ce, h0, X', hL, e1, e2, ⟨u, hp, hb, hF⟩, hce, hcv, hcl, st⟩
  · cases hv
    obtain ⟨k1, k2, k3⟩ := vx_keep h0 e1 hS hA hf hL hF
    obtain ⟨t2, a1, b1⟩ := kk r u t T'.heap (locs ++ L) e1.symm (by rw [← e2]; exact X'.warmed.alike) hp hb k1 k2 k3 T' rfl X'
    exact ⟨t2, st t2 a1, b1⟩
  · obtain ⟨k1, k2, k3⟩ := vx_keep h0 e1 hS hAX hf hL hF
    obtain ⟨t2, a1, b1⟩ := kx E ce q u t T'.heap (locs ++ L) e1.symm (by rw [← e2]; exact X'.warmed.alike) hp hb k1 k2 k3 (by rw [e1]; exact hce) hcv hcl T' rfl X'
    exact ⟨t2, st.trans a1, b1⟩
theorem vx_callf {S SX : Type} {post : UInt32 → S → Prop} {px : SX → Prop} {B : S → State → Prop} {BX : String → SX → State → Prop} {AX : Nat → Prop} (hr : vx_Run p l e R s m args below meth c H locs cells slots mc ms (F0 m pc ls st0) rest (va_Qf post B A1 a) (vx_X px BX AX) free) (hS : va_S A0 H0 H locs) (hA : ∀ q, q < H.size → A1 q → A0 q) (hf : ∀ q, free q → A0 q) (hAX : ∀ q, q < H.size → AX q → A0 q)
    (kx : ∀ (E : String) (ce : Cell) (q9 : Addr) (u : SX) (t : State) (H1 : Heap) (locs1 : List Loc), t.heap = H1 → s.vm.Alike t.vm → px u → BX E u t → H.size ≤ H1.size → (∀ q : Nat, q < H.size → ¬ AX q → H1[q]? = H[q]?) → va_S A0 H0 H1 locs1 → H1[q9]? = some ce → ce.vm = .none → s.vm.findClass E = some ce.cls → vx_W p l e R s m args below meth c H1 locs1 (cells + mc) (slots + ms) Q (F0 m pc ls rest) q9)
    (kk : ∀ (r : UInt32) (u : S) (t : State) (H1 : Heap) (locs1 : List Loc), t.heap = H1 → s.vm.Alike t.vm → post r u → B u t → H.size ≤ H1.size → (∀ q : Nat, q < H.size → ¬ A1 q → H1[q]? = H[q]?) → va_S A0 H0 H1 locs1 → W p l e R s m args below meth c H1 locs1 (cells + mc) (slots + ms) Q (F0 m (pc + 3) ls (.float r :: rest))) : W p l e R s m args below meth c H locs cells slots Q (F0 m pc ls st0) := by
  intro T hT X
  rcases hr T hT X with ⟨v, st₀, t, T', L, h0, X', hL, e1, e2, ⟨⟨r, u, hv, hp, hb⟩, hF⟩, st⟩ | ⟨q, st₀, t, T', L, E, ce, h0, X', hL, e1, e2, ⟨u, hp, hb, hF⟩, hce, hcv, hcl, st⟩
  · cases hv
    obtain ⟨k1, k2, k3⟩ := vx_keep h0 e1 hS hA hf hL hF
    obtain ⟨t2, a1, b1⟩ := kk r u t T'.heap (locs ++ L) e1.symm (by rw [← e2]; exact X'.warmed.alike) hp hb k1 k2 k3 T' rfl X'
    exact ⟨t2, st t2 a1, b1⟩
  · obtain ⟨k1, k2, k3⟩ := vx_keep h0 e1 hS hAX hf hL hF
    obtain ⟨t2, a1, b1⟩ := kx E ce q u t T'.heap (locs ++ L) e1.symm (by rw [← e2]; exact X'.warmed.alike) hp hb k1 k2 k3 (by rw [e1]; exact hce) hcv hcl T' rfl X'
    exact ⟨t2, st.trans a1, b1⟩
theorem vx_calld {S SX : Type} {post : UInt64 → S → Prop} {px : SX → Prop} {B : S → State → Prop} {BX : String → SX → State → Prop} {AX : Nat → Prop} (hr : vx_Run p l e R s m args below meth c H locs cells slots mc ms (F0 m pc ls st0) rest (va_Qd post B A1 a) (vx_X px BX AX) free) (hS : va_S A0 H0 H locs) (hA : ∀ q, q < H.size → A1 q → A0 q) (hf : ∀ q, free q → A0 q) (hAX : ∀ q, q < H.size → AX q → A0 q)
    (kx : ∀ (E : String) (ce : Cell) (q9 : Addr) (u : SX) (t : State) (H1 : Heap) (locs1 : List Loc), t.heap = H1 → s.vm.Alike t.vm → px u → BX E u t → H.size ≤ H1.size → (∀ q : Nat, q < H.size → ¬ AX q → H1[q]? = H[q]?) → va_S A0 H0 H1 locs1 → H1[q9]? = some ce → ce.vm = .none → s.vm.findClass E = some ce.cls → vx_W p l e R s m args below meth c H1 locs1 (cells + mc) (slots + ms) Q (F0 m pc ls rest) q9)
    (kk : ∀ (r : UInt64) (u : S) (t : State) (H1 : Heap) (locs1 : List Loc), t.heap = H1 → s.vm.Alike t.vm → post r u → B u t → H.size ≤ H1.size → (∀ q : Nat, q < H.size → ¬ A1 q → H1[q]? = H[q]?) → va_S A0 H0 H1 locs1 → W p l e R s m args below meth c H1 locs1 (cells + mc) (slots + ms) Q (F0 m (pc + 3) ls (.double r :: rest))) : W p l e R s m args below meth c H locs cells slots Q (F0 m pc ls st0) := by
  intro T hT X
  rcases hr T hT X with ⟨v, st₀, t, T', L, h0, X', hL, e1, e2, ⟨⟨r, u, hv, hp, hb⟩, hF⟩, st⟩ | ⟨q, st₀, t, T', L, E, ce, h0, X', hL, e1, e2, ⟨u, hp, hb, hF⟩, hce, hcv, hcl, st⟩
  · cases hv
    obtain ⟨k1, k2, k3⟩ := vx_keep h0 e1 hS hA hf hL hF
    obtain ⟨t2, a1, b1⟩ := kk r u t T'.heap (locs ++ L) e1.symm (by rw [← e2]; exact X'.warmed.alike) hp hb k1 k2 k3 T' rfl X'
    exact ⟨t2, st t2 a1, b1⟩
  · obtain ⟨k1, k2, k3⟩ := vx_keep h0 e1 hS hAX hf hL hF
    obtain ⟨t2, a1, b1⟩ := kx E ce q u t T'.heap (locs ++ L) e1.symm (by rw [← e2]; exact X'.warmed.alike) hp hb k1 k2 k3 (by rw [e1]; exact hce) hcv hcl T' rfl X'
    exact ⟨t2, st.trans a1, b1⟩
theorem vx_callv {S SX : Type} {post : S → Prop} {px : SX → Prop} {B : S → State → Prop} {BX : String → SX → State → Prop} {AX : Nat → Prop} (hr : vx_Run p l e R s m args below meth c H locs cells slots mc ms (F0 m pc ls st0) rest (va_Qv post B A1 a) (vx_X px BX AX) free) (hS : va_S A0 H0 H locs) (hA : ∀ q, q < H.size → A1 q → A0 q) (hf : ∀ q, free q → A0 q) (hAX : ∀ q, q < H.size → AX q → A0 q)
    (kx : ∀ (E : String) (ce : Cell) (q9 : Addr) (u : SX) (t : State) (H1 : Heap) (locs1 : List Loc), t.heap = H1 → s.vm.Alike t.vm → px u → BX E u t → H.size ≤ H1.size → (∀ q : Nat, q < H.size → ¬ AX q → H1[q]? = H[q]?) → va_S A0 H0 H1 locs1 → H1[q9]? = some ce → ce.vm = .none → s.vm.findClass E = some ce.cls → vx_W p l e R s m args below meth c H1 locs1 (cells + mc) (slots + ms) Q (F0 m pc ls rest) q9)
    (kk : ∀ (u : S) (t : State) (H1 : Heap) (locs1 : List Loc), t.heap = H1 → s.vm.Alike t.vm → post u → B u t → H.size ≤ H1.size → (∀ q : Nat, q < H.size → ¬ A1 q → H1[q]? = H[q]?) → va_S A0 H0 H1 locs1 → W p l e R s m args below meth c H1 locs1 (cells + mc) (slots + ms) Q (F0 m (pc + 3) ls (rest))) : W p l e R s m args below meth c H locs cells slots Q (F0 m pc ls st0) := by
  intro T hT X
  rcases hr T hT X with ⟨v, st₀, t, T', L, h0, X', hL, e1, e2, ⟨⟨u, hv, hp, hb⟩, hF⟩, st⟩ | ⟨q, st₀, t, T', L, E, ce, h0, X', hL, e1, e2, ⟨u, hp, hb, hF⟩, hce, hcv, hcl, st⟩
  · cases hv
    obtain ⟨k1, k2, k3⟩ := vx_keep h0 e1 hS hA hf hL hF
    obtain ⟨t2, a1, b1⟩ := kk u t T'.heap (locs ++ L) e1.symm (by rw [← e2]; exact X'.warmed.alike) hp hb k1 k2 k3 T' rfl X'
    exact ⟨t2, st t2 a1, b1⟩
  · obtain ⟨k1, k2, k3⟩ := vx_keep h0 e1 hS hAX hf hL hF
    obtain ⟨t2, a1, b1⟩ := kx E ce q u t T'.heap (locs ++ L) e1.symm (by rw [← e2]; exact X'.warmed.alike) hp hb k1 k2 k3 (by rw [e1]; exact hce) hcv hcl T' rfl X'
    exact ⟨t2, st.trans a1, b1⟩
/-- caught by the row x of this method's table; the rows ahead don't take it -/
theorem vx_catch {own name : String} {E : String} {ce : Cell} {q : Addr} (hown : s.vm.findClass own = some m.cls) (pre : List ExceptionTableEntry) (x : ExceptionTableEntry) (suf : List ExceptionTableEntry) (hsplit : c.exceptionTable.toList = pre ++ x :: suf)
    (hpass : ∀ z ∈ pre, covers z pc = false ∨ (z.catchType ≠ 0 ∧ ∃ nm : String, (Cond.classLink own z.catchType nm).before args s = true ∧ va_Nc E nm s)) (hx : covers x pc = true) (h0 : x.catchType ≠ 0)
    (hlink : (Cond.classLink own x.catchType name).before args s = true) (hcast : (Cond.castable E name).before args s = true) (hcell : H[q]? = some ce) (hv : ce.vm = .none) (hcl : s.vm.findClass E = some ce.cls)
    (kk : W p l e R s m args below meth c H locs cells slots Q (F0 m x.handlerPc ls [.ref q])) : vx_W p l e R s m args below meth c H locs cells slots Q (F0 m pc ls rest) q := by
  intro T hT X
  have hpl : e.platform.magicAccessors = ({} : Platform).magicAccessors := by rw [X.admits.platform]
  obtain ⟨c3, c4, hc3, hc4, hasg⟩ := Cond.castable_spec hcast
  cases Option.some.inj (hc3.symm.trans hcl)
  obtain ⟨c5, hc5, hcl5⟩ := Cond.classLink_spec hown hlink e.platform hpl
  cases Option.some.inj (hc4.symm.trans hc5)
  obtain ⟨vm', X', st⟩ := X.thenCaughtThrough q (g := F0 m pc ls rest) rfl (Steps.refl _) (by rw [hT]; exact hcell) (by rw [hv]; rfl) (by obtain ⟨k9, h9, -⟩ := Vm.findClass_spec hcl; exact ⟨k9, h9⟩) pre x suf hsplit
    (fun z hz => by
      rcases hpass z hz with h | ⟨hz0, nm, hl1, hn1⟩
      · exact Or.inl h
      · obtain ⟨c6, hc6, hcl6⟩ := Cond.classLink_spec hown hl1 e.platform hpl
        obtain ⟨a8, b8, h1, h2, h3⟩ := hn1
        cases Option.some.inj (h1.symm.trans hcl)
        cases Option.some.inj (h2.symm.trans hc6)
        exact Or.inr ⟨hz0, _, hcl6, h3⟩) hx (Or.inr ⟨h0, c4, hcl5, hasg⟩)
  obtain ⟨t, a1, b1⟩ := kk (T.setVm vm') hT X'
  exact ⟨t, st.trans a1, b1⟩
end Rows
section Ends
variable {p : Program} {l : Launch} {e : Env} {R : Room} {s : State} {m : MethodId} {args : Array Value} {below : List Frame} {meth : Method} {c : Code} {H : Heap} {locs : List Loc} {cells slots : Nat} {Q : State → Prop}
variable {mc ms : Nat} {free : Addr → Prop} {A0 A1 : Nat → Prop} {H0 : Heap} {a : Array Value} {ls : Array Slot} {st0 rest : List Value}
variable {Qc : Array Value → State → Outcome → State → Prop} {XC : String → State → State → Prop}
/-- what a body that may throw owes at its end -/
def vx_MQ (below : List Frame) (Qc : Array Value → State → Outcome → State → Prop) (XC : String → State → State → Prop) (a : Array Value) (s : State) (mc ms : Nat) (free : Addr → Prop) : State → Prop := fun t =>
  ∃ o, t.status = .running ∧ Ended t below o ∧ vx_Q Qc XC mc ms free a s o t
theorem vx_ret {g : JFrame} {mc ms : Nat} (k : W p l e R s m args below meth c H locs cells slots (MQ below Qc args s mc ms free) g) : W p l e R s m args below meth c H locs cells slots (vx_MQ below Qc XC args s mc ms free) g := by
  intro T hT X
  obtain ⟨t, a1, o, b1, b2, b3, b4⟩ := k T hT X
  exact ⟨t, a1, o, b1, b2, Or.inl ⟨b3, b4⟩⟩
/-- not caught here: it goes on to the caller -/
theorem vx_widen {g : JFrame} {q : Addr} {k n : Nat} (h1 : cells ≤ k) (h2 : slots ≤ n) (kk : vx_W p l e R s m args below meth c H locs k n Q g q) : vx_W p l e R s m args below meth c H locs cells slots Q g q := fun T hT X => kk T hT (stand_widen X h1 h2)
theorem vx_out {pc : Nat} {E : String} {ce : Cell} {q : Addr} {mc ms : Nat} (hout : ∀ x ∈ c.exceptionTable.toList, covers x pc = false) (hlocks : meth.locks = false) (hcell : H[q]? = some ce) (hv : ce.vm = .none) (hcl : s.vm.findClass E = some ce.cls)
    (hx : ∀ t : State, t.heap = H → s.vm.Alike t.vm → XC E s t) (hf : ∀ z ∈ locs, free z.base) (hc : cells ≤ mc) (hs : slots ≤ ms) :
    vx_W p l e R s m args below meth c H locs cells slots (vx_MQ below Qc XC args s mc ms free) (F0 m pc ls rest) q := by
  intro T hT X
  obtain ⟨st1, hrun, hend, hW, hsm⟩ := X.leaveThrown q (g := F0 m pc ls rest) rfl rfl rfl hout hlocks
  have hcell9 : (T.setFrames (.throwing q :: below)).heap[q]? = some ce := by
    show T.heap[q]? = some ce
    rw [hT]; exact hcell
  exact ⟨_, st1, .threw q, hrun, hend, Or.inr ⟨q, rfl, E, ce, locs, hx _ hT hW.alike, hcell9, hv, hcl, hW, hsm.mono hc hs, hf⟩⟩
theorem vx_frame {U : State} {k n : Nat} (h : s.sameButNew ({ U with vm := s.vm } : State) locs k n) : s.heap.size ≤ U.heap.size ∧ ∀ q : Nat, q < s.heap.size → (∀ z ∈ locs, z.base ≠ q) → U.heap[q]? = s.heap[q]? := by
  obtain ⟨-, h2, -, -, -, h6⟩ := h
  refine ⟨h2, fun q hq hz => ?_⟩
  obtain ⟨c9, e1, e2, e3, e4⟩ := h6 q _ (Array.getElem?_eq_getElem hq)
  have hs : c9.slots = (s.heap[q]).slots := Array.ext_getElem? fun i => e4 i fun hm => hz _ hm rfl
  have h9 : c9 = s.heap[q] := by
    rw [hs] at e2
    exact e2
  have e5 : U.heap[q]? = some c9 := e1
  rw [e5, h9, Array.getElem?_eq_getElem hq]
/-- the words of a throw but the four that speak of the heap -/
def vx_no (w : Cond) : Bool := decide (w ≠ .isRef (.static Bundle.tN "UNASSIGNED_STACK" Bundle.steD)) && decide (w ≠ .isRef (.static Bundle.tN "SUPPRESSED_SENTINEL" Bundle.listD)) && decide (w ≠ .laysStatic Bundle.tN "UNASSIGNED_STACK" Bundle.steD) && decide (w ≠ .laysStatic Bundle.tN "SUPPRESSED_SENTINEL" Bundle.listD)
def vx_at0 (own : String) (ic : Nat) (X : String) (names : List String) : List Cond := (Bundle.ownAtoms0 own ic X names).filter vx_no
def vx_atS (own : String) (ic : Nat) (X : String) (names : List String) : List Cond := (Bundle.ownAtoms own ic X names).filter vx_no
/-- a word that the tables alone decide, or a good one -/
def vx_ot (w : Cond) : Bool := w.onTables || goodWord w
theorem vx_ot_at {args a' : Array Value} {s U : State} {w : Cond} (hW : s.WarmedH U.vm) (hvm : s.vm = U.vm) (hg : vx_ot w = true) (h : w.before args s = true) : w.before a' U = true := by
  simp only [vx_ot, Bool.or_eq_true] at hg
  rcases hg with hg | hg
  · exact va_tabs hg hvm h
  · exact word_at hW (good_of_word hg) h
/-- a list's words: the good ones out of the method's own list, the others by premises of their own -/
theorem vx_hat {args : Array Value} {s : State} {L B : List Cond} (h1 : ∀ w ∈ L.filter goodWord, w.before args s = true) (h2 : ∀ w ∈ L.filter (fun w => !goodWord w), w ∈ B) (h3 : ∀ w ∈ B, w.before args s = true) : ∀ w ∈ L, w.before args s = true := by
  intro w hw
  by_cases g : goodWord w = true
  · exact h1 w (List.mem_filter.mpr ⟨hw, g⟩)
  · refine h3 w (h2 w (List.mem_filter.mpr ⟨hw, ?_⟩))
    show (!goodWord w) = true
    cases hgw : goodWord w
    · rfl
    · exact absurd hgw g
theorem vx_c {args : Array Value} {s : State} {w : Cond} {B : List Cond} (h : w.before args s = true) (t : ∀ w ∈ B, w.before args s = true) : ∀ w' ∈ w :: B, w'.before args s = true := fun w' h' => (List.mem_cons.mp h').elim (fun e => by rw [e]; exact h) (t w')
theorem vx_n {args : Array Value} {s : State} : ∀ w ∈ ([] : List Cond), w.before args s = true := fun _ h => nomatch h
theorem vx_own {args : Array Value} {s : State} {L : List Cond} (h1 : ∀ w ∈ L.filter vx_no, w.before args s = true)
    (hU : (Cond.isRef (.static Bundle.tN "UNASSIGNED_STACK" Bundle.steD)).before args s = true) (hN : (Cond.isRef (.static Bundle.tN "SUPPRESSED_SENTINEL" Bundle.listD)).before args s = true)
    (lU : (Cond.laysStatic Bundle.tN "UNASSIGNED_STACK" Bundle.steD).before args s = true) (lN : (Cond.laysStatic Bundle.tN "SUPPRESSED_SENTINEL" Bundle.listD).before args s = true) : ∀ w ∈ L, w.before args s = true := by
  intro w hw
  by_cases e1 : w = .isRef (.static Bundle.tN "UNASSIGNED_STACK" Bundle.steD)
  · rw [e1]; exact hU
  · by_cases e2 : w = .isRef (.static Bundle.tN "SUPPRESSED_SENTINEL" Bundle.listD)
    · rw [e2]; exact hN
    · by_cases e3 : w = .laysStatic Bundle.tN "UNASSIGNED_STACK" Bundle.steD
      · rw [e3]; exact lU
      · by_cases e4 : w = .laysStatic Bundle.tN "SUPPRESSED_SENTINEL" Bundle.listD
        · rw [e4]; exact lN
        · exact h1 w (List.mem_filter.mpr ⟨hw, by unfold vx_no; rw [decide_eq_true e1, decide_eq_true e2, decide_eq_true e3, decide_eq_true e4]; rfl⟩)
/-- where a static field lies, its class's statics cell in H -/
def vx_L (C n d : String) (A : Nat → Prop) (U : State) (H : Heap) : Prop := ∃ (c : ClassId) (k : Class) (i : Nat) (f : Field) (a : Nat) (cell : Cell), U.vm.findClass C = some c ∧ U.fieldFound? C n d = some (c, k, i, f) ∧ f.isStatic = true ∧ k.statics = some a ∧ H[a]? = some cell ∧ cell.vm.isStatics = true ∧ cell.cls = c ∧ f.slot < cell.slots.size ∧ k.staticTypes[f.slot]? = some f.type ∧ ¬ A a
theorem vx_L.moved {C n d : String} {A : Nat → Prop} {u U : State} {H : Heap} (hvm : u.vm.Alike U.vm) (h : vx_L C n d A u H) : vx_L C n d A U H := by
  obtain ⟨c, k, i, f, a, cell, h1, h2, h3, h4, h5, h6, h7, h8, h9, h10⟩ := h
  obtain ⟨k', hi', he⟩ := State.fieldFound?_setVm hvm h2
  exact ⟨c, k', i, f, a, cell, by rw [hvm.findClass]; exact h1, hi', h3, by rw [he]; exact h4, h5, h6, h7, h8, by rw [he]; exact h9, h10⟩
theorem vx_L.kept {C n d : String} {A : Nat → Prop} {U : State} {H H1 : Heap} (h : vx_L C n d A U H) (hq : ∀ a : Nat, a < H.size → ¬ A a → H1[a]? = H[a]?) : vx_L C n d A U H1 := by
  obtain ⟨c, k, i, f, a, cell, h1, h2, h3, h4, h5, h6, h7, h8, h9, h10⟩ := h
  exact ⟨c, k, i, f, a, cell, h1, h2, h3, h4, by rw [hq a (Array.getElem?_eq_some_iff.mp h5).1 h10]; exact h5, h6, h7, h8, h9, h10⟩
theorem vx_L.narrow {C n d : String} {A B : Nat → Prop} {U : State} {H : Heap} (h : vx_L C n d A U H) (hAB : ∀ q, B q → A q) : vx_L C n d B U H := by
  obtain ⟨c, k, i, f, a, cell, h1, h2, h3, h4, h5, h6, h7, h8, h9, h10⟩ := h
  exact ⟨c, k, i, f, a, cell, h1, h2, h3, h4, h5, h6, h7, h8, h9, fun z => h10 (hAB _ z)⟩
theorem vx_L.word {C n d : String} {A : Nat → Prop} {s : State} {args : Array Value} (h : vx_L C n d A s s.heap) : (Cond.laysStatic C n d).before args s = true := by
  obtain ⟨c, k, i, f, a, cell, h1, h2, h3, h4, h5, h6, h7, h8, h9, -⟩ := h
  show (Cond.laysStatic C n d).holds args s none s [] = true
  exact Cond.laysStatic_of h1 h2 h3 h4 h5 h6 h7 h8 h9
/-- .. and what it holds: null or some reference -/
def vx_Zq (C n d : String) (A : Nat → Prop) (U : State) (H : Heap) : Prop := va_Zq C n d A U H ∧ vx_L C n d A U H
theorem vx_Zq.moved {C n d : String} {A : Nat → Prop} {u U : State} {H : Heap} (hvm : u.vm.Alike U.vm) (h : vx_Zq C n d A u H) : vx_Zq C n d A U H := ⟨va_Zq.moved hvm h.1, vx_L.moved hvm h.2⟩
theorem vx_Zq.kept {C n d : String} {A : Nat → Prop} {U : State} {H H1 : Heap} (h : vx_Zq C n d A U H) (hq : ∀ a : Nat, a < H.size → ¬ A a → H1[a]? = H[a]?) : vx_Zq C n d A U H1 := ⟨va_Zq.kept h.1 hq, vx_L.kept h.2 hq⟩
theorem vx_Zq.narrow {C n d : String} {A B : Nat → Prop} {U : State} {H : Heap} (h : vx_Zq C n d A U H) (hAB : ∀ q, B q → A q) : vx_Zq C n d B U H := ⟨va_Zq.narrow h.1 hAB, vx_L.narrow h.2 hAB⟩
theorem vx_Zqof {args : Array Value} {s : State} {C n d : String} {A : Nat → Prop} (hl : (Cond.laysStatic C n d).before args s = true) (hini : (Cond.initialized C).before args s = true) (h : (Cond.isRef (.static C n d)).before args s = true) (hA : ∀ a : Nat, a < s.heap.size → ¬ A a) : vx_Zq C n d A s s.heap := by
  refine ⟨va_Zqof hl hini h hA, ?_⟩
  obtain ⟨c, k, i, f, a, cell, h1, h2, h3, h4, h5, h6, h7, h8, h9⟩ := Cond.laysStatic_spec hl
  exact ⟨c, k, i, f, a, cell, h1, h2, h3, h4, h5, h6, h7, h8, h9, hA a (Array.getElem?_eq_some_iff.mp h5).1⟩
theorem vx_isRef {C n d : String} {v : Value} {A : Nat → Prop} {s : State} {args : Array Value} (h : va_Z C n d v A s s.heap) (hv : v.isRef = true) : (Cond.isRef (.static C n d)).before args s = true := by
  obtain ⟨cf, kf, fi, f, a, cell, h1, h2, h3, h4, h5, h6, h7, -⟩ := h
  have he : (Term.static C n d).eval args s none [] s = some v := by
    simp [Term.eval, State.fieldNamed?, h1, h2, h4, h5, h6, h7]
  simp only [Cond.before, Cond.holds, Cond.value, he]
  cases v <;> simp_all [Value.isRef]
theorem vx_isRefq {C n d : String} {A : Nat → Prop} {s : State} {args : Array Value} (h : va_Zq C n d A s s.heap) : (Cond.isRef (.static C n d)).before args s = true := by
  rcases h with h | ⟨t, h⟩
  · exact vx_isRef h rfl
  · exact vx_isRef h rfl
/-- the same frame, seen from here: as if the method were called anew in this heap -/
theorem vx_rebase {T : State} (X : Stand p l e R s m args below meth c T locs cells slots) {R' : Room} (hf : R'.frames ≤ R.frames) (hl : R'.locals ≤ R.locals) (hc : cells + R'.cells ≤ R.cells) (hs : slots + R'.slots ≤ R.slots) :
    Stand p l e R' ((T.setVm s.vm).setFrames (.invoking m args :: below)) m args below meth c T [] 0 0 := by
  have htop : (T.setVm s.vm).topJava?.isSome := X.here.top
  have hF : ((T.setVm s.vm).setFrames (.invoking m args :: below)).frames = .invoking m args :: below := State.frames_setFrames _ (State.cur_lt_of_top htop)
  obtain ⟨g₀, hg0⟩ := Option.isSome_iff_exists.mp htop
  obtain ⟨r, hr⟩ := State.topJava?_eq_some.mp hg0
  have hl9 : e.platform.stackLimits (T.setVm s.vm).me = e.platform.stackLimits s.me := X.limits
  have hb9 : (T.setVm s.vm).me.stackBytes = s.me.stackBytes := X.bytes
  refine ⟨X.admits, X.cas, X.clock, hF, ?_, X.hears, X.method, X.code, X.here, X.tail, X.warmed, ?_, ?_, ?_⟩
  · have h := X.room
    have hU : ((T.setVm s.vm).setFrames (.invoking m args :: below)).localsInUse = s.localsInUse := by
      rw [State.localsInUse_invoking hF (meth := meth) (c := c) X.method X.code, State.localsInUse_invoking X.frames X.method X.code]
    simp only [State.hasRoom, Bool.and_eq_true, decide_eq_true_eq] at h ⊢
    obtain ⟨⟨⟨⟨h1, h2, h3, h4, h5, h6⟩, h7⟩, h8⟩, h9⟩ := h
    rw [X.frames, List.length_cons] at h2 h3
    have q1 := X.heapSize
    have q2 := X.used
    simp only [hF, hU, List.length_cons, State.stackLimits_setFrames, State.stackBytes_setFrames, hl9, hb9]
    refine ⟨⟨⟨⟨by omega, by omega, by omega, by omega, by omega, h6⟩, ?_⟩, ?_⟩, X.book⟩
    · show T.heap.size + R'.cells ≤ e.platform.maxCells
      omega
    · show T.slotsUsed + R'.slots ≤ e.platform.maxSlots
      omega
  · rw [State.stackLimits_setFrames]; rfl
  · rw [State.stackBytes_setFrames]; rfl
  · refine ⟨?_, Nat.le_refl _, Nat.le_refl _, ?_, ?_, fun a c9 h9 => ⟨c9, h9, rfl, rfl, fun _ _ => rfl⟩⟩
    · obtain ⟨t, ht, -⟩ := State.frames_cons hr
      show T.setVm s.vm = { ((T.setVm s.vm).setFrames (.invoking m args :: below)).setFrames (T.setVm s.vm).frames with heap := T.heap, slotsUsed := T.slotsUsed }
      rw [State.setFrames_setFrames, State.setFrames_self ht]
      rfl
    · show T.slotsUsed = T.slotsUsed + ((T.heap.toList.drop T.heap.size).map (·.slots.size)).sum
      rw [List.drop_eq_nil_of_le (Nat.le_of_eq Array.length_toList)]
      rfl
    · show ((T.heap.toList.drop T.heap.size).map (·.slots.size)).sum ≤ 0
      rw [List.drop_eq_nil_of_le (Nat.le_of_eq Array.length_toList)]
      exact Nat.le_refl _
/-- 'throw new E()': new; dup; invokespecial; athrow -/
theorem vx_throw0 {cc : ByteArray} {pc : Nat} (hexec : p.tables.exec = Jvm.exec) (hb : c.code = cc) (hl : l.stackTraces = false) {own cls : String} {names : List String} {ik ic mc ms : Nat} {A : Nat → Prop}
    (hown : s.vm.findClass own = some m.cls) (hcls : Bundle.fit cls = true) (hnames : ∀ n ∈ names, Bundle.fit n = true)
    (hk : (Cond.classLink own ik cls).before args s = true) (hini : (Cond.initialized cls).before args s = true) (hat : ∀ w ∈ vx_at0 own ic cls names, w.before args s = true)
    (hgood : ∀ w ∈ Cond.classLink own ik cls :: Cond.initialized cls :: vx_at0 own ic cls names, vx_ot w = true)
    (hU : vx_Zq Bundle.tN "UNASSIGNED_STACK" Bundle.steD A s s.heap) (hN : vx_Zq Bundle.tN "SUPPRESSED_SENTINEL" Bundle.listD A s s.heap) (hS : va_S A s.heap H locs) (hsize : ls.size = c.maxLocals)
    (d0 : decode cc pc = .ok (.new ik, 3)) (d3 : decode cc (pc + 3) = .ok (.dup, 1)) (d4 : decode cc (pc + 4) = .ok (.invokespecial ic, 3)) (d7 : decode cc (pc + 7) = .ok (.athrow, 1))
    (hout : ∀ x ∈ c.exceptionTable.toList, covers x (pc + 7) = false)
    (hRframes : names.length + 3 < R.frames) (hRlocals : (rest.map fun v => v.category).sum + (13 * (names.length + 1) + 42) ≤ R.locals) (hRcells : cells + 1 ≤ R.cells) (hRslots : slots + 6 ≤ R.slots) (hlocks : meth.locks = false)
    (hx : ∀ t : State, s.vm.Alike t.vm → H.size ≤ t.heap.size → (∀ q : Nat, q < H.size → t.heap[q]? = H[q]?) → XC cls s t)
    (hf : ∀ z ∈ locs, free z.base) (hc : cells + 1 ≤ mc) (hs : slots + 6 ≤ ms) :
    W p l e R s m args below meth c H locs cells slots (vx_MQ below Qc XC args s mc ms free) (F0 m pc ls rest) := by
  intro T hT X
  have htr : e.platform.stackTraces = false := (show e.platform.stackTraces = l.stackTraces by rw [X.admits.platform]).trans hl
  have Y := vx_rebase X (R' := { frames := R.frames, locals := R.locals, cells := 1, slots := 6 }) (Nat.le_refl _) (Nat.le_refl _) hRcells hRslots
  obtain ⟨s', hA⟩ : ∃ z, z = (T.setVm s.vm).setFrames (.invoking m args :: below) := ⟨_, rfl⟩
  rw [← hA] at Y
  have hvm : s'.vm = s.vm := by rw [hA]; rfl
  have hhp : s'.heap = H := by rw [hA]; exact hT
  have hW0 : s.WarmedH s'.vm := by rw [hvm]; exact State.WarmedH.refl s
  have hat' : ∀ w ∈ vx_at0 own ic cls names, w.before args s' = true := fun w hw => vx_ot_at hW0 hvm.symm (hgood w (List.mem_cons_of_mem _ (List.mem_cons_of_mem _ hw))) (hat w hw)
  have hk' : (Cond.classLink own ik cls).before args s' = true := vx_ot_at hW0 hvm.symm (hgood _ List.mem_cons_self) hk
  have hini' : (Cond.initialized cls).before args s' = true := vx_ot_at hW0 hvm.symm (hgood _ (List.mem_cons_of_mem _ List.mem_cons_self)) hini
  have hU' : vx_Zq Bundle.tN "UNASSIGNED_STACK" Bundle.steD A s' s'.heap := by rw [hhp]; exact vx_Zq.moved hW0.alike (hU.kept hS.2.1)
  have hN' : vx_Zq Bundle.tN "SUPPRESSED_SENTINEL" Bundle.listD A s' s'.heap := by rw [hhp]; exact vx_Zq.moved hW0.alike (hN.kept hS.2.1)
  have h : ∀ w ∈ Bundle.ownAtoms0 own ic cls names, w.before args s' = true := vx_own hat' (vx_isRefq hU'.1) (vx_isRefq hN'.1) hU'.2.word hN'.2.word
  have hown' : s'.vm.findClass own = some m.cls := by rw [hvm]; exact hown
  have hins : (Cond.instantiable cls 6).before args s' = true := h _ (by simp [Bundle.ownAtoms0])
  obtain ⟨vm₁, cX, kX, hfX, hkX, -, -, X₁, st1⟩ := Y.newCold hexec (own := own) (C := cls) (index := ik) (n := 6) hown' hk' hins hini'
    (g := F0 m pc ls rest) rfl (by rw [hb]; exact d0) (Nat.le_refl _) (Nat.le_refl _)
  generalize hT1 : (T.setVm vm₁).pushCell { cls := cX, slots := kX.instanceTypes.map defaultValue, vm := .none } = T1 at X₁ st1
  have hcat : (Value.ref T.heap.size).category = 1 := rfl
  have hcellA : T1.heap[T.heap.size]? = some (freshCell cX kX) := by rw [← hT1]; exact State.heap_pushCell_size _ _
  have d3' : decode c.code (pc + 3) = .ok (.dup, 1) := by rw [hb]; exact d3
  obtain ⟨U, hsteps, hrun, hend, hW, hsame, ce, hce, hO⟩ := X₁.ctorThrow0 hexec htr (own := own) (cls := cls) (names := names) (ic := ic) hown' hcls hnames h (fun x hx => nomatch hx) hfX hkX hcellA (by rw [hhp, hT]; exact Nat.le_refl _)
    (g := { method := m, pc := pc + 4, locals := ls, stack := .ref T.heap.size :: .ref T.heap.size :: rest, locked := none }) rfl hsize rfl rfl (rest := rest) rfl
    (by rw [hb]; exact d4) (by rw [hb]; exact d7) hout hRframes (by simp only [List.map_cons, List.sum_cons, hcat]; omega) hlocks
  obtain ⟨f1, f2⟩ := vx_frame hsame
  rw [hhp] at f1 f2
  have hWs : s.WarmedH U.vm := State.WarmedH.trans hW0 hW
  have hcl : s.vm.findClass cls = some ce.cls := by
    have h9 := hO.cls
    rw [hvm] at h9
    exact h9
  have hall : s.sameButNew ({ U with vm := s.vm } : State) locs mc ms := by
    subst hA
    obtain ⟨e1, e2⟩ := hsame
    rw [State.setFrames_setFrames] at e1
    have h2 : (T.setVm s.vm).sameButNew ({ U with vm := s.vm } : State) [] (0 + 1) (0 + 6) := ⟨e1, e2⟩
    have h3 := X.same.trans h2
    rw [List.append_nil] at h3
    exact h3.mono hc hs
  refine ⟨U, ?_, .threw T.heap.size, hrun, hend, Or.inr ⟨T.heap.size, rfl, cls, ce, locs, hx U hWs.alike f1 (fun q hq => f2 q hq (fun z hz => nomatch hz)), hce, hO.vm, hcl, hWs, hall, hf⟩⟩
  refine st1 _ ?_
  show Steps p.tables e below (T1.setTop { method := m, pc := pc + 3, locals := ls, stack := .ref T.heap.size :: rest, locked := none }) _
  jvm_step X₁.here [X₁.here.top, hexec, d3', Value.category]
  exact hsteps
/-- 'throw new E("text")': new; dup; ldc; invokespecial; athrow -/
theorem vx_throwS {cc : ByteArray} {pc : Nat} (hexec : p.tables.exec = Jvm.exec) (hb : c.code = cc) (hl : l.stackTraces = false) {own cls text : String} {names : List String} {ik is ic mc ms sa : Nat} {A : Nat → Prop}
    (hown : s.vm.findClass own = some m.cls) (hcls : Bundle.fit cls = true) (hnames : ∀ n ∈ names, Bundle.fit n = true)
    (hk : (Cond.classLink own ik cls).before args s = true) (hini : (Cond.initialized cls).before args s = true) (hstr : vk_R own is text sa s) (hat : ∀ w ∈ vx_atS own ic cls names, w.before args s = true)
    (hgood : ∀ w ∈ Cond.classLink own ik cls :: Cond.initialized cls :: vx_atS own ic cls names, vx_ot w = true)
    (hU : vx_Zq Bundle.tN "UNASSIGNED_STACK" Bundle.steD A s s.heap) (hN : vx_Zq Bundle.tN "SUPPRESSED_SENTINEL" Bundle.listD A s s.heap) (hS : va_S A s.heap H locs) (hsize : ls.size = c.maxLocals)
    (d0 : decode cc pc = .ok (.new ik, 3)) (d3 : decode cc (pc + 3) = .ok (.dup, 1)) (d4 : decode cc (pc + 4) = .ok (.ldc is, 2)) (d6 : decode cc (pc + 6) = .ok (.invokespecial ic, 3)) (d9 : decode cc (pc + 9) = .ok (.athrow, 1))
    (hout : ∀ x ∈ c.exceptionTable.toList, covers x (pc + 9) = false)
    (hRframes : names.length + 3 < R.frames) (hRlocals : (rest.map fun v => v.category).sum + (13 * (names.length + 1) + 43) ≤ R.locals) (hRcells : cells + 1 ≤ R.cells) (hRslots : slots + 6 ≤ R.slots) (hlocks : meth.locks = false)
    (hx : ∀ t : State, s.vm.Alike t.vm → H.size ≤ t.heap.size → (∀ q : Nat, q < H.size → t.heap[q]? = H[q]?) → XC cls s t)
    (hf : ∀ z ∈ locs, free z.base) (hc : cells + 1 ≤ mc) (hs : slots + 6 ≤ ms) :
    W p l e R s m args below meth c H locs cells slots (vx_MQ below Qc XC args s mc ms free) (F0 m pc ls rest) := by
  intro T hT X
  have htr : e.platform.stackTraces = false := (show e.platform.stackTraces = l.stackTraces by rw [X.admits.platform]).trans hl
  have Y := vx_rebase X (R' := { frames := R.frames, locals := R.locals, cells := 1, slots := 6 }) (Nat.le_refl _) (Nat.le_refl _) hRcells hRslots
  obtain ⟨s', hA⟩ : ∃ z, z = (T.setVm s.vm).setFrames (.invoking m args :: below) := ⟨_, rfl⟩
  rw [← hA] at Y
  have hvm : s'.vm = s.vm := by rw [hA]; rfl
  have hhp : s'.heap = H := by rw [hA]; exact hT
  have hW0 : s.WarmedH s'.vm := by rw [hvm]; exact State.WarmedH.refl s
  have hat' : ∀ w ∈ vx_atS own ic cls names, w.before args s' = true := fun w hw => vx_ot_at hW0 hvm.symm (hgood w (List.mem_cons_of_mem _ (List.mem_cons_of_mem _ hw))) (hat w hw)
  have hk' : (Cond.classLink own ik cls).before args s' = true := vx_ot_at hW0 hvm.symm (hgood _ List.mem_cons_self) hk
  have hini' : (Cond.initialized cls).before args s' = true := vx_ot_at hW0 hvm.symm (hgood _ (List.mem_cons_of_mem _ List.mem_cons_self)) hini
  have hU' : vx_Zq Bundle.tN "UNASSIGNED_STACK" Bundle.steD A s' s'.heap := by rw [hhp]; exact vx_Zq.moved hW0.alike (hU.kept hS.2.1)
  have hN' : vx_Zq Bundle.tN "SUPPRESSED_SENTINEL" Bundle.listD A s' s'.heap := by rw [hhp]; exact vx_Zq.moved hW0.alike (hN.kept hS.2.1)
  have h : ∀ w ∈ Bundle.ownAtoms own ic cls names, w.before args s' = true := vx_own hat' (vx_isRefq hU'.1) (vx_isRefq hN'.1) hU'.2.word hN'.2.word
  have hown' : s'.vm.findClass own = some m.cls := by rw [hvm]; exact hown
  have hins : (Cond.instantiable cls 6).before args s' = true := h _ (by simp [Bundle.ownAtoms])
  obtain ⟨vm₁, cX, kX, hfX, hkX, -, -, X₁, st1⟩ := Y.newCold hexec (own := own) (C := cls) (index := ik) (n := 6) hown' hk' hins hini'
    (g := F0 m pc ls rest) rfl (by rw [hb]; exact d0) (Nat.le_refl _) (Nat.le_refl _)
  generalize hT1 : (T.setVm vm₁).pushCell { cls := cX, slots := kX.instanceTypes.map defaultValue, vm := .none } = T1 at X₁ st1
  have hcat : (Value.ref T.heap.size).category = 1 := rfl
  have hcellA : T1.heap[T.heap.size]? = some (freshCell cX kX) := by rw [← hT1]; exact State.heap_pushCell_size _ _
  have d3' : decode c.code (pc + 3) = .ok (.dup, 1) := by rw [hb]; exact d3
  have d4' : decode c.code (pc + 4) = .ok (.ldc is, 2) := by rw [hb]; exact d4
  have hstr' : vk_R own is text sa s' := vk_R.warm hW0 hstr
  obtain ⟨U, hsteps, hrun, hend, hW, hsame, ce, hce, hO⟩ := X₁.ctorThrowS hexec htr (own := own) (cls := cls) (names := names) (ic := ic) hown' hcls hnames h (fun x hx => nomatch hx) hfX hkX hcellA (by rw [hhp, hT]; exact Nat.le_refl _) (msg := .ref sa) rfl
    (g := { method := m, pc := pc + 6, locals := ls, stack := .ref sa :: .ref T.heap.size :: .ref T.heap.size :: rest, locked := none }) rfl hsize rfl rfl (rest := rest) rfl
    (by rw [hb]; exact d6) (by rw [hb]; exact d9) hout hRframes (by simp only [List.map_cons, List.sum_cons, hcat]; omega) hlocks
  obtain ⟨f1, f2⟩ := vx_frame hsame
  rw [hhp] at f1 f2
  have hWs : s.WarmedH U.vm := State.WarmedH.trans hW0 hW
  have hcl : s.vm.findClass cls = some ce.cls := by
    have h9 := hO.cls
    rw [hvm] at h9
    exact h9
  have hall : s.sameButNew ({ U with vm := s.vm } : State) locs mc ms := by
    subst hA
    obtain ⟨e1, e2⟩ := hsame
    rw [State.setFrames_setFrames] at e1
    have h2 : (T.setVm s.vm).sameButNew ({ U with vm := s.vm } : State) [] (0 + 1) (0 + 6) := ⟨e1, e2⟩
    have h3 := X.same.trans h2
    rw [List.append_nil] at h3
    exact h3.mono hc hs
  refine ⟨U, ?_, .threw T.heap.size, hrun, hend, Or.inr ⟨T.heap.size, rfl, cls, ce, locs, hx U hWs.alike f1 (fun q hq => f2 q hq (fun z hz => nomatch hz)), hce, hO.vm, hcl, hWs, hall, hf⟩⟩
  refine st1 _ ?_
  show Steps p.tables e below (T1.setTop { method := m, pc := pc + 3, locals := ls, stack := .ref T.heap.size :: rest, locked := none }) _
  jvm_step X₁.here [X₁.here.top, hexec, d3', Value.category]
  exact X₁.ldcString hexec (own := own) (text := text) (index := is) (a := sa) hown' hstr'.1 hstr'.2
    (g := { method := m, pc := pc + 4, locals := ls, stack := .ref T.heap.size :: .ref T.heap.size :: rest, locked := none }) rfl d4' _ hsteps
/-- 'throw new E("text")', the text by a wide index -/
theorem vx_throwSW {cc : ByteArray} {pc : Nat} (hexec : p.tables.exec = Jvm.exec) (hb : c.code = cc) (hl : l.stackTraces = false) {own cls text : String} {names : List String} {ik is ic mc ms sa : Nat} {A : Nat → Prop}
    (hown : s.vm.findClass own = some m.cls) (hcls : Bundle.fit cls = true) (hnames : ∀ n ∈ names, Bundle.fit n = true)
    (hk : (Cond.classLink own ik cls).before args s = true) (hini : (Cond.initialized cls).before args s = true) (hstr : vk_R own is text sa s) (hat : ∀ w ∈ vx_atS own ic cls names, w.before args s = true)
    (hgood : ∀ w ∈ Cond.classLink own ik cls :: Cond.initialized cls :: vx_atS own ic cls names, vx_ot w = true)
    (hU : vx_Zq Bundle.tN "UNASSIGNED_STACK" Bundle.steD A s s.heap) (hN : vx_Zq Bundle.tN "SUPPRESSED_SENTINEL" Bundle.listD A s s.heap) (hS : va_S A s.heap H locs) (hsize : ls.size = c.maxLocals)
    (d0 : decode cc pc = .ok (.new ik, 3)) (d3 : decode cc (pc + 3) = .ok (.dup, 1)) (d4 : decode cc (pc + 4) = .ok (.ldc_w is, 3)) (d7 : decode cc (pc + 7) = .ok (.invokespecial ic, 3)) (d10 : decode cc (pc + 10) = .ok (.athrow, 1))
    (hout : ∀ x ∈ c.exceptionTable.toList, covers x (pc + 10) = false)
    (hRframes : names.length + 3 < R.frames) (hRlocals : (rest.map fun v => v.category).sum + (13 * (names.length + 1) + 43) ≤ R.locals) (hRcells : cells + 1 ≤ R.cells) (hRslots : slots + 6 ≤ R.slots) (hlocks : meth.locks = false)
    (hx : ∀ t : State, s.vm.Alike t.vm → H.size ≤ t.heap.size → (∀ q : Nat, q < H.size → t.heap[q]? = H[q]?) → XC cls s t)
    (hf : ∀ z ∈ locs, free z.base) (hc : cells + 1 ≤ mc) (hs : slots + 6 ≤ ms) :
    W p l e R s m args below meth c H locs cells slots (vx_MQ below Qc XC args s mc ms free) (F0 m pc ls rest) := by
  intro T hT X
  have htr : e.platform.stackTraces = false := (show e.platform.stackTraces = l.stackTraces by rw [X.admits.platform]).trans hl
  have Y := vx_rebase X (R' := { frames := R.frames, locals := R.locals, cells := 1, slots := 6 }) (Nat.le_refl _) (Nat.le_refl _) hRcells hRslots
  obtain ⟨s', hA⟩ : ∃ z, z = (T.setVm s.vm).setFrames (.invoking m args :: below) := ⟨_, rfl⟩
  rw [← hA] at Y
  have hvm : s'.vm = s.vm := by rw [hA]; rfl
  have hhp : s'.heap = H := by rw [hA]; exact hT
  have hW0 : s.WarmedH s'.vm := by rw [hvm]; exact State.WarmedH.refl s
  have hat' : ∀ w ∈ vx_atS own ic cls names, w.before args s' = true := fun w hw => vx_ot_at hW0 hvm.symm (hgood w (List.mem_cons_of_mem _ (List.mem_cons_of_mem _ hw))) (hat w hw)
  have hk' : (Cond.classLink own ik cls).before args s' = true := vx_ot_at hW0 hvm.symm (hgood _ List.mem_cons_self) hk
  have hini' : (Cond.initialized cls).before args s' = true := vx_ot_at hW0 hvm.symm (hgood _ (List.mem_cons_of_mem _ List.mem_cons_self)) hini
  have hU' : vx_Zq Bundle.tN "UNASSIGNED_STACK" Bundle.steD A s' s'.heap := by rw [hhp]; exact vx_Zq.moved hW0.alike (hU.kept hS.2.1)
  have hN' : vx_Zq Bundle.tN "SUPPRESSED_SENTINEL" Bundle.listD A s' s'.heap := by rw [hhp]; exact vx_Zq.moved hW0.alike (hN.kept hS.2.1)
  have h : ∀ w ∈ Bundle.ownAtoms own ic cls names, w.before args s' = true := vx_own hat' (vx_isRefq hU'.1) (vx_isRefq hN'.1) hU'.2.word hN'.2.word
  have hown' : s'.vm.findClass own = some m.cls := by rw [hvm]; exact hown
  have hins : (Cond.instantiable cls 6).before args s' = true := h _ (by simp [Bundle.ownAtoms])
  obtain ⟨vm₁, cX, kX, hfX, hkX, -, -, X₁, st1⟩ := Y.newCold hexec (own := own) (C := cls) (index := ik) (n := 6) hown' hk' hins hini'
    (g := F0 m pc ls rest) rfl (by rw [hb]; exact d0) (Nat.le_refl _) (Nat.le_refl _)
  generalize hT1 : (T.setVm vm₁).pushCell { cls := cX, slots := kX.instanceTypes.map defaultValue, vm := .none } = T1 at X₁ st1
  have hcat : (Value.ref T.heap.size).category = 1 := rfl
  have hcellA : T1.heap[T.heap.size]? = some (freshCell cX kX) := by rw [← hT1]; exact State.heap_pushCell_size _ _
  have d3' : decode c.code (pc + 3) = .ok (.dup, 1) := by rw [hb]; exact d3
  have d4' : decode c.code (pc + 4) = .ok (.ldc_w is, 3) := by rw [hb]; exact d4
  have hstr' : vk_R own is text sa s' := vk_R.warm hW0 hstr
  obtain ⟨U, hsteps, hrun, hend, hW, hsame, ce, hce, hO⟩ := X₁.ctorThrowS hexec htr (own := own) (cls := cls) (names := names) (ic := ic) hown' hcls hnames h (fun x hx => nomatch hx) hfX hkX hcellA (by rw [hhp, hT]; exact Nat.le_refl _) (msg := .ref sa) rfl
    (g := { method := m, pc := pc + 7, locals := ls, stack := .ref sa :: .ref T.heap.size :: .ref T.heap.size :: rest, locked := none }) rfl hsize rfl rfl (rest := rest) rfl
    (by rw [hb]; exact d7) (by rw [hb]; exact d10) hout hRframes (by simp only [List.map_cons, List.sum_cons, hcat]; omega) hlocks
  obtain ⟨f1, f2⟩ := vx_frame hsame
  rw [hhp] at f1 f2
  have hWs : s.WarmedH U.vm := State.WarmedH.trans hW0 hW
  have hcl : s.vm.findClass cls = some ce.cls := by
    have h9 := hO.cls
    rw [hvm] at h9
    exact h9
  have hall : s.sameButNew ({ U with vm := s.vm } : State) locs mc ms := by
    subst hA
    obtain ⟨e1, e2⟩ := hsame
    rw [State.setFrames_setFrames] at e1
    have h2 : (T.setVm s.vm).sameButNew ({ U with vm := s.vm } : State) [] (0 + 1) (0 + 6) := ⟨e1, e2⟩
    have h3 := X.same.trans h2
    rw [List.append_nil] at h3
    exact h3.mono hc hs
  refine ⟨U, ?_, .threw T.heap.size, hrun, hend, Or.inr ⟨T.heap.size, rfl, cls, ce, locs, hx U hWs.alike f1 (fun q hq => f2 q hq (fun z hz => nomatch hz)), hce, hO.vm, hcl, hWs, hall, hf⟩⟩
  refine st1 _ ?_
  show Steps p.tables e below (T1.setTop { method := m, pc := pc + 3, locals := ls, stack := .ref T.heap.size :: rest, locked := none }) _
  jvm_step X₁.here [X₁.here.top, hexec, d3', Value.category]
  exact X₁.ldcStringW hexec (own := own) (text := text) (index := is) (a := sa) hown' hstr'.1 hstr'.2
    (g := { method := m, pc := pc + 4, locals := ls, stack := .ref T.heap.size :: .ref T.heap.size :: rest, locked := none }) rfl d4' _ hsteps
end Ends
section Bodies
variable {l : Launch}
theorem vx_ofW {y : MethodName} {ws ws' : List Cond} {rm : Room} {Pc : Array Value → State → Prop} {Qc : Array Value → State → Outcome → State → Prop} {XC : String → State → State → Prop} {mc ms : Nat} {free : Addr → Prop} {cc : ByteArray} {maxL : Nat} {ret : Option FieldType}
    (hy : plainName y.cls = true) (hw : ws = Cond.code y cc maxL ret :: ws')
    (body : ∀ p e s m args below meth c s₁, BodyLoose p l y (headSpec ws rm) cc maxL ret e s m args below meth c s₁ → c.maxLocals = maxL → (∀ x ∈ c.exceptionTable.toList, False) → Pc args s →
      W p l e (headSpec ws rm).room s m args below meth c s.heap [] 0 0 (vx_MQ below Qc XC args s mc ms free) (entryFrame m args maxL)) : vx_Met l y ws rm Pc Qc XC mc ms free := by
  refine MetFree.of_bodyS (code := cc) (maxLocals := maxL) (ret := ret) hy ?_ ?_
  · intro args s m h hn
    obtain ⟨meth, c, h1, h2, h3, h4, h5, h6, -, -⟩ := Cond.code_spec hn (atoms_spec (ws := ws) h _ (by rw [hw]; exact List.mem_cons_self))
    exact ⟨meth, c, h1, h2, h3, h4, h5, h6⟩
  · intro p e s m args below meth c s₁ B hml hP _
    have hh0 : s₁.heap = s.heap := by rw [B.state]; rfl
    have ht : ∀ x ∈ c.exceptionTable.toList, False := by
      obtain ⟨meth9, c9, h1, h2, -, -, -, -, h7, -⟩ := Cond.code_spec B.named (atoms_spec (ws := ws) B.pre _ (by rw [hw]; exact List.mem_cons_self))
      cases Option.some.inj (h1.symm.trans B.method)
      cases Option.some.inj (h2.symm.trans (Stand.of_body B).code)
      intro x hx
      rw [Array.isEmpty_iff.mp h7] at hx
      cases hx
    obtain ⟨t, a1, o, b1, b2, b3⟩ := body p e s m args below meth c s₁ B hml ht hP s₁ hh0 (Stand.of_body B)
    exact ⟨t, o, a1, b1, b2, b3⟩
/-- the table of a body with handlers -/
theorem vx_table {p : Program} {x y : MethodName} {S : Spec} {cc bytes : ByteArray} {maxL maxL' : Nat} {ret ret' : Option FieldType} {e : Env} {s s₁ : State} {m : MethodId} {args : Array Value} {below : List Frame} {meth : Method} {c : Code} {hh : List (Nat × Nat × Nat × Nat)}
    (B : BodyLoose p l y S cc maxL ret e s m args below meth c s₁) (h : (Cond.codeWith y bytes maxL' ret' hh).before args s = true) : c.exceptionTable.toList = tableOf hh := by
  obtain ⟨m9, meth9, c9, hn9, h1, h2, -, -, h6, -⟩ := Cond.codeWith_spec h
  cases Option.some.inj (hn9.symm.trans B.named)
  cases Option.some.inj (h1.symm.trans B.method)
  cases Option.some.inj (h2.symm.trans (Stand.of_body B).code)
  rw [← h6, table_eq]
end Bodies
end VXA
/-! ===== END ===== -/
/-! ===== BEGIN a static call of a method with an exception table ===== -/
section VXS
variable {p : Program} {l : Launch} {e : Env} {R : Room} {s : State} {m : MethodId} {args : Array Value} {below : List Frame} {meth : Method} {c : Code} {T : State} {H : Heap} {locs : List Loc} {cells slots : Nat}
abbrev vx_CSW (R : Room) (s : State) (args : Array Value) (own : String) (index : Nat) (y : MethodName) (bytes : ByteArray) (maxL : Nat) (ret : Option FieldType) (hh : List (Nat × Nat × Nat × Nat)) (ws : List Cond) (rm : Room) (mc ms n : Nat) : Prop :=
  (rm.cells = mc ∧ rm.slots = ms ∧ rm.frames + 1 ≤ R.frames ∧ 8 + (maxL + 11) + rm.locals ≤ R.locals ∧ (∀ w ∈ ws, ∀ (a' : Array Value) (U : State), s.WarmedH U.vm → w.before a' U = true) ∧ Cond.codeWith y bytes maxL ret hh ∈ ws) ∧
  (Cond.codeWith y bytes maxL ret hh).before args s = true ∧ (Cond.initialized y.cls).before args s = true ∧ (y.cls ≠ "java/lang/invoke/MethodHandle" ∧ y.cls ≠ "java/lang/invoke/VarHandle") ∧
  (∀ sig, parseMethodDescriptor y.desc = some sig → n = sig.parameters.length) ∧ (Cond.methodLink own index y).before args s = true ∧ (Cond.static y).before args s = true
theorem vx_cwSW {own : String} {index maxL mc ms : Nat} {y : MethodName} {bytes : ByteArray} {ret : Option FieldType} {hh : List (Nat × Nat × Nat × Nat)} {Ts ws ws' : List Cond} {rm : Room} (n : Nat) (ht : ∀ w ∈ Ts, w.before args s = true) (hT : GoodIn Ts (va_wsS own index y ws)) (hw : ws = Cond.codeWith y bytes maxL ret hh :: ws') (hrc : rm.cells = mc) (hrs : rm.slots = ms)
    (hd : y.cls ≠ "java/lang/invoke/MethodHandle" ∧ y.cls ≠ "java/lang/invoke/VarHandle" ∧ (parseMethodDescriptor y.desc).map (fun d => d.parameters.length) = some n) (hR : rm.frames + 1 ≤ R.frames ∧ 8 + (maxL + 11) + rm.locals ≤ R.locals) :
    vx_CSW R s args own index y bytes maxL ret hh ws rm mc ms n := by
  have ok : ∀ w ∈ va_wsS own index y ws, w.before args s = true := fun w h => ht w (hT w h).1
  have hG : GoodIn Ts ws := fun w h => hT w (by unfold va_wsS; exact List.mem_append_right _ h)
  have hc : Cond.codeWith y bytes maxL ret hh ∈ ws := by rw [hw]; exact List.mem_cons_self
  refine ⟨⟨hrc, hrs, hR.1, hR.2, pay_in ht hG, hc⟩, ht _ (hG _ hc).1, ok _ (by simp [va_wsS]), ⟨hd.1, hd.2.1⟩, fun sig h => ?_, ok _ (by simp [va_wsS]), ok _ (by simp [va_wsS])⟩
  have h2 := hd.2.2
  rw [h] at h2
  exact (Option.some.inj h2).symm
theorem vx_callSW (X : Stand p l e R s m args below meth c T locs cells slots) (hexec : p.tables.exec = Jvm.exec) {own : String} {index : Nat} {y : MethodName} {bytes : ByteArray} {maxL : Nat} {ret : Option FieldType} {hh : List (Nat × Nat × Nat × Nat)}
    (hown : s.vm.findClass own = some m.cls) (hlink : (Cond.methodLink own index y).before args s = true) (hstat : (Cond.static y).before args s = true) (hinit : (Cond.initialized y.cls).before args s = true)
    (hcode : (Cond.codeWith y bytes maxL ret hh).before args s = true) (hy : y.cls ≠ "java/lang/invoke/MethodHandle" ∧ y.cls ≠ "java/lang/invoke/VarHandle")
    {W9 : Nat} {Pre : Pt → Array Value → Prop} {Post : Pt → Array Value → Option Value → Pt → Prop} (hK : Back l R p e below s args y 3 W9 Pre Post)
    {g : JFrame} (hg : g.method = m) (hsize : g.locals.size = c.maxLocals) {argsL rest : List Value} (hlen : ∀ sig, parseMethodDescriptor y.desc = some sig → argsL.length = sig.parameters.length)
    (hstack : g.stack = argsL.reverse ++ rest) (hW : 2 * g.monitorRoom + (rest.map fun v => v.category).sum ≤ W9) (hdg : decode c.code g.pc = .ok (.invokestatic index, 3))
    (hpre : ∀ vm₁, s.WarmedH vm₁ → Pre ⟨T.setVm vm₁, locs, cells, slots⟩ argsL.toArray) :
    ∃ (v : Option Value) (vm₁ : Vm) (B : Pt), s.WarmedH vm₁ ∧ Stand p l e R s m args below meth c B.U B.locs B.cells B.slots ∧ Post ⟨T.setVm vm₁, locs, cells, slots⟩ argsL.toArray v B ∧
      ∀ target, Steps p.tables e below (B.U.setTop { g with pc := g.pc + 3, stack := v.toList ++ rest }) target → Steps p.tables e below (T.setTop g) target := by
  obtain ⟨mk, methM, cM, hnamed, hmethM, -, -, -, -, -, -, hsigM⟩ := Cond.codeWith_spec hcode
  have hstatic : methM.isStatic = true := Cond.static_spec hnamed hmethM hstat
  obtain ⟨kP, hkP, -⟩ := className_of_methodNamed hnamed
  have hinitP : kP.init = .initialized := Cond.initialized_spec (findClass_of_methodNamed hnamed) hkP hinit
  obtain ⟨vm₁, X₁, hstep₁⟩ := X.invokestatic hexec hown hlink hnamed hmethM hstatic hkP hinitP hy (g := g) hg (argsL := argsL) (rest := rest) (hlen _ hsigM) hstack hdg
  obtain ⟨v, B, X', hpost, hsteps⟩ := hK m meth c ⟨T.setVm vm₁, locs, cells, slots⟩ { g with stack := rest } (.invokestatic index) mk argsL.toArray X₁ hg hsize hdg hW (X₁.named hnamed) (hpre vm₁ X₁.warmed)
  exact ⟨v, vm₁, B, X₁.warmed, X', hpost, fun target h => hstep₁ _ fun acts => by rw [doInvoke_state]; exact hsteps.trans h⟩
theorem vx_runSW {y : MethodName} {bytes cc : ByteArray} {maxL nL mc ms n index : Nat} {ret : Option FieldType} {hh : List (Nat × Nat × Nat × Nat)} {ws : List Cond} {rm : Room} {Pc : Array Value → State → Prop} {Qc : Array Value → State → Outcome → State → Prop} {free : Addr → Prop} {Ts : List Cond} {own : String} {As rest : List Value} {g : JFrame}
    (S : CallFix p m c cc nL s args Ts own) (hM : Met l y ws rm Pc Qc mc ms free) (cw : vx_CSW R s args own index y bytes maxL ret hh ws rm mc ms n) (hp : PreS s H Pc As)
    (hg : g.method = m) (hn : As.length = n) (hsize : g.locals.size = nL) (hstack : g.stack = As.reverse ++ rest) (hW : 2 * g.monitorRoom + (rest.map fun v => v.category).sum ≤ 8) (hdg : decode cc g.pc = .ok (.invokestatic index, 3)) (hf : cells + mc ≤ R.cells ∧ slots + ms ≤ R.slots) :
    va_Run p l e R s m args below meth c H locs cells slots mc ms g rest (Qc As.toArray) (free) := by
  obtain ⟨⟨hrc, hrs, hfr, hlo, hws, hcw⟩, hcode, hini, hy, hlen, hl, hstt⟩ := cw
  have hK : Back l R p e below s args y 3 8 (PreOf R mc ms Pc) (PostOf Qc mc ms free) := va_backW (hh := hh) (bytes := bytes) (maxL := maxL) (ret := ret) hM hp.1 hrc hrs hfr hlo hws hcw (fun a' U hW => word_at hW (Or.inl (by first | rfl | simp [Cond.onTables, Cond.keeps, Cond.steady])) hini)
  obtain ⟨hx, hb, hml, ho, -⟩ := S
  intro T hT X
  obtain ⟨v, vm₁, ⟨U', l2, c2, s2⟩, hW₁, X', ⟨g', mk, t, L, e1, e2, hq, h1, hL, h2, h3⟩, st⟩ := vx_callSW X hx (hh := hh) (bytes := bytes) (maxL := maxL) (ret := ret) ho hl hstt hini hcode hy hK hg (hsize.trans hml.symm) (argsL := As) (rest := rest) (fun sig h => hn.trans (hlen sig h)) hstack hW (by rw [hb]; exact hdg)
    (fun vm₁ hW₁ => ⟨hf.1, hf.2, hp.2 (T.setVm vm₁) hT hW₁⟩)
  dsimp only [Pt.U, Pt.locs, Pt.cells, Pt.slots] at X' e1 e2 h1 h2 h3 st
  subst h1; subst h2; subst h3
  exact ⟨v, (T.setVm vm₁).calling g' mk As.toArray, t, U', L, hT, X', hL, e1, e2, hq, st⟩
/-- not caught here, past rows that name other classes: it goes on to the caller -/
theorem vx_outP {p : Program} {l : Launch} {e : Env} {R : Room} {s : State} {m : MethodId} {args : Array Value} {below : List Frame} {meth : Method} {c : Code} {H : Heap} {locs : List Loc} {cells slots : Nat} {free : Addr → Prop} {ls : Array Slot} {rest : List Value} {Qc : Array Value → State → Outcome → State → Prop} {XC : String → State → State → Prop}
    {pc : Nat} {own E : String} {ce : Cell} {q : Addr} {mc ms : Nat} (hown : s.vm.findClass own = some m.cls) (hlocks : meth.locks = false)
    (hpass : ∀ z ∈ c.exceptionTable.toList, covers z pc = false ∨ (z.catchType ≠ 0 ∧ ∃ nm : String, (Cond.classLink own z.catchType nm).before args s = true ∧ va_Nc E nm s)) (hcell : H[q]? = some ce) (hv : ce.vm = .none) (hcl : s.vm.findClass E = some ce.cls)
    (hx : ∀ t : State, t.heap = H → s.vm.Alike t.vm → XC E s t) (hf : ∀ z ∈ locs, free z.base) (hc : cells ≤ mc) (hs : slots ≤ ms) :
    vx_W p l e R s m args below meth c H locs cells slots (vx_MQ below Qc XC args s mc ms free) (F0 m pc ls rest) q := by
  intro T hT X
  have hpl : e.platform.magicAccessors = ({} : Platform).magicAccessors := by rw [X.admits.platform]
  obtain ⟨vm', hW', X', st⟩ := X.outThrough hlocks q (g := F0 m pc ls rest) rfl rfl rfl (cell := ce) (by rw [hT]; exact hcell) (by rw [hv]; rfl)
    (by obtain ⟨k9, h9, -⟩ := Vm.findClass_spec hcl; exact ⟨k9, h9⟩) (fun z hz => by
      rcases hpass z hz with h | ⟨hz0, nm, hl1, hn1⟩
      · exact Or.inl h
      · obtain ⟨c6, hc6, hcl6⟩ := Cond.classLink_spec hown hl1 e.platform hpl
        obtain ⟨a8, b8, h1, h2, h3⟩ := hn1
        cases Option.some.inj (h1.symm.trans hcl)
        cases Option.some.inj (h2.symm.trans hc6)
        exact Or.inr ⟨hz0, _, hcl6, h3⟩)
  obtain ⟨g₀, hfr⟩ := X'.frames_eq
  have hcell9 : ((T.setVm vm').setFrames (.throwing q :: below)).heap[q]? = some ce := by
    show T.heap[q]? = some ce
    rw [hT]; exact hcell
  have hend : Ended ((T.setVm vm').setFrames (.throwing q :: below)) below (.threw q) := State.frames_setFrames _ (State.cur_lt_of_frames hfr)
  refine ⟨(T.setVm vm').setFrames (.throwing q :: below), ?_, .threw q, X'.here.running, hend, Or.inr ⟨q, rfl, E, ce, locs, hx _ hT (X'.ends _).1.alike, hcell9, hv, hcl, (X'.ends _).1, (X'.ends _).2.mono hc hs, hf⟩⟩
  rw [X.pushThrowing_eq]
  exact st
/-- a thing of a world lies in the heap -/
theorem vx_lt {D : va_G} {cl : List vw_C} {ws : va_W} {H1 : Heap} (h : va_P D cl ws H1) {k : Nat} {q : Nat × va_E} (hk : ws[k]? = some q) : q.1 < H1.size := (h k q hk).lt
end VXS
/-! ===== END ===== -/
/-! ===== BEGIN methods with a table of their own: called by a name, returning or throwing ===== -/
section VXH
/-! vx_backW, vx_callVX, vx_callSX, vx_callVW, vx_runVW, vx_runVX, vx_runSX, vx_ofWH follow the same proofs as their sisters above (Free/Laws.lean, Shelf42/LK1.lean); vx_outP calls Shelf42/NT130.lean (outThrough). -/
section
variable {l : Launch} {R : Room} {p : Program} {e : Env} {below : List Frame} {s : State} {sargs : Array Value} {y : MethodName} {len W9 : Nat}
theorem vx_backW {ws : List Cond} {rm : Room} {Pc : Array Value → State → Prop} {Qc : Array Value → State → Outcome → State → Prop} {XC : String → State → State → Prop} {mc ms : Nat} {free : Addr → Prop} {bytes : ByteArray} {maxL : Nat} {ret : Option FieldType} {hh : List (Nat × Nat × Nat × Nat)}
    (hM : vx_Met l y ws rm Pc Qc XC mc ms free) (hblind : FrameBlind Pc) (hrc : rm.cells = mc) (hrs : rm.slots = ms)
    (hframes : rm.frames + 1 ≤ R.frames) (hlocals : W9 + (maxL + 11) + rm.locals ≤ R.locals)
    (hws : ∀ w ∈ ws, ∀ a' U, s.WarmedH U.vm → w.before a' U = true) (hcode : Cond.codeWith y bytes maxL ret hh ∈ ws) (hinit : ∀ a' U, s.WarmedH U.vm → (Cond.initialized y.cls).before a' U = true) :
    vx_Back l R p e below s sargs y len W9 (PreOf R mc ms Pc) (PostOf Qc mc ms free) (vx_Post XC mc ms free) := by
  intro m meth c A g ig mk a X hg hsize hdg hW hn hp
  have h1 : (headSpec ws rm).pre.before a A.U = true := atoms_intro fun w hw => hws w hw _ _ X.warmed
  have h2 : (Cond.codeWith y bytes maxL ret hh).before a A.U = true := hws _ hcode _ _ X.warmed
  have h3 : (Cond.initialized y.cls).before a A.U = true := hinit _ _ X.warmed
  have h4 : A.cells + (headSpec ws rm).room.cells ≤ R.cells := by rw [show (headSpec ws rm).room.cells = mc from hrc]; exact hp.1
  have h5 : A.slots + (headSpec ws rm).room.slots ≤ R.slots := by rw [show (headSpec ws rm).room.slots = ms from hrs]; exact hp.2.1
  have hPc : Pc a (A.U.calling g mk a) := hblind _ _ _ _ hp.2.2
  obtain ⟨U, Ls, c0, s0⟩ := A
  dsimp only [Pt.U, Pt.locs, Pt.cells, Pt.slots] at h1 h2 h3 h4 h5 X hn hPc ⊢
  obtain ⟨m9, methY, cY, hn9, hmY, hcY, -, hlY, -⟩ := Cond.codeWith_spec h2
  cases Option.some.inj (hn9.symm.trans hn)
  obtain ⟨kY, hkY, -⟩ := className_of_methodNamed hn
  have hinitY : kY.init = .initialized := Cond.initialized_spec (findClass_of_methodNamed hn) hkY h3
  have h : At U g.method c below := by rw [hg]; exact X.here
  have hlocals9 : W9 + (maxL + 11) + (headSpec ws rm).room.locals ≤ R.locals := hlocals
  have happ : (headSpec ws rm).appliesLoose y e.platform (U.calling g mk a) = true :=
    Spec.appliesLoose_calling (g := g) h hdg hn hkY hinitY
      (X.room_calling (g := g) (R' := (headSpec ws rm).room) hsize hmY hcY hframes (by rw [hlY]; omega) h4 h5) h1
  obtain ⟨mid, hmid⟩ := h.above
  have hfr : (U.setTop g).frames = (.java g :: mid) ++ below := by rw [State.frames_setTop' g h.top, hmid]; rfl
  obtain ⟨o, s₂, hsteps, -, hend, hq⟩ := Steps.callFree hM p X.admits X.cas X.clock (acts := []) hfr happ hPc trivial
  have hq' : vx_Q Qc XC mc ms free a (U.calling g mk a) o s₂ := hq
  rw [State.frames_setTop' g h.top] at hend
  obtain ⟨g₀, hg0⟩ := Option.isSome_iff_exists.mp h.top
  obtain ⟨r, hr⟩ := State.topJava?_eq_some.mp hg0
  have hr' : (({ U with heap := s₂.heap, slotsUsed := s₂.slotsUsed } : State).setVm s₂.vm).frames = .java g₀ :: r := hr
  rcases hq' with ⟨hqc, L, hfe, hL⟩ | ⟨q, rfl, E, ce, L, hx, hce, hcv, hcl, hW₂, hsm, hL⟩
  · obtain ⟨⟨v, rfl⟩, hW₂, e2, q2, q3, q4, q5, q6⟩ := id hfe
    have e3 : s₂ = ({ (U.calling g mk a).setFrames s₂.frames with heap := s₂.heap, slotsUsed := s₂.slotsUsed } : State).setVm s₂.vm := by
      have : s₂ = ({ s₂ with vm := (U.calling g mk a).vm } : State).setVm s₂.vm := rfl
      rw [e2] at this
      exact this
    obtain ⟨c₂, i₂, len₂, hc₂, hd₂, hf₂⟩ := hend
    have hW' : U.WarmedH s₂.vm := hW₂
    have hcc : c₂ = c := by
      have h1 : s₂.code? g.method = U.code? g.method := by
        rw [State.code?_eq, State.code?_eq, hW'.alike.method?]
      exact Option.some.inj (hc₂.symm.trans (h1.trans h.code))
    subst hcc
    have hlen : len₂ = len := by rw [hdg] at hd₂; cases hd₂; rfl
    subst hlen
    have hs₂ : s₂ = (({ U with heap := s₂.heap, slotsUsed := s₂.slotsUsed } : State).setVm s₂.vm).setTop { g with pc := g.pc + len₂, stack := v.toList ++ g.stack } := by
      refine e3.trans ?_
      rw [hf₂, State.calling_eq h.top, State.setFrames_setFrames, State.setTop_of_frames _ hr', hr]
      rfl
    have hsame : U.sameButNew ({ U with heap := s₂.heap, slotsUsed := s₂.slotsUsed } : State) L mc ms := by
      refine ⟨?_, q2, q3, q4, q5, q6⟩
      obtain ⟨t, ht, -⟩ := State.frames_cons hr
      show ({ U with heap := s₂.heap, slotsUsed := s₂.slotsUsed } : State) = { U.setFrames U.frames with heap := s₂.heap, slotsUsed := s₂.slotsUsed }
      rw [State.setFrames_self ht]
    subst hg
    refine Or.inl ⟨v, ⟨(({ U with heap := s₂.heap, slotsUsed := s₂.slotsUsed } : State).setVm s₂.vm), Ls ++ L, c0 + mc, s0 + ms⟩,
      ⟨X.admits, X.cas, X.clock, X.frames, X.room, X.hears, X.method, X.code, (X.here.setHeapUsed s₂.heap s₂.slotsUsed).setVm hW'.alike, X.tail, State.WarmedH.trans X.warmed hW', X.limits, X.bytes, X.same.trans (hsame.setVm s.vm)⟩,
      ⟨g, mk, s₂, L, rfl, rfl, hqc, rfl, hL, rfl, rfl⟩, ?_⟩
    show Steps p.tables e below _ ((({ U with heap := s₂.heap, slotsUsed := s₂.slotsUsed } : State).setVm s₂.vm).setTop { g with pc := g.pc + len₂, stack := v.toList ++ g.stack })
    rw [← hs₂]
    exact hsteps
  · obtain ⟨e2, q2, q3, q4, q5, q6⟩ := id hsm
    have e3 : s₂ = ({ (U.calling g mk a).setFrames s₂.frames with heap := s₂.heap, slotsUsed := s₂.slotsUsed } : State).setVm s₂.vm := by
      have : s₂ = ({ s₂ with vm := (U.calling g mk a).vm } : State).setVm s₂.vm := rfl
      rw [e2] at this
      exact this
    have hf₂ : s₂.frames = .throwing q :: .java g :: U.frames.tail := hend
    have hW' : U.WarmedH s₂.vm := hW₂
    have hs₂ : s₂ = ((({ U with heap := s₂.heap, slotsUsed := s₂.slotsUsed } : State).setVm s₂.vm).setTop g).pushFrame (.throwing q) := by
      refine e3.trans ?_
      rw [hf₂, State.calling_eq h.top, State.setFrames_setFrames, State.pushFrame, State.frames_setTop _ hr', State.setTop_of_frames _ hr', State.setFrames_setFrames, hr]
      rfl
    have hsame : U.sameButNew ({ U with heap := s₂.heap, slotsUsed := s₂.slotsUsed } : State) L mc ms := by
      refine ⟨?_, q2, q3, q4, q5, q6⟩
      obtain ⟨t, ht, -⟩ := State.frames_cons hr
      show ({ U with heap := s₂.heap, slotsUsed := s₂.slotsUsed } : State) = { U.setFrames U.frames with heap := s₂.heap, slotsUsed := s₂.slotsUsed }
      rw [State.setFrames_self ht]
    subst hg
    refine Or.inr ⟨q, ⟨(({ U with heap := s₂.heap, slotsUsed := s₂.slotsUsed } : State).setVm s₂.vm), Ls ++ L, c0 + mc, s0 + ms⟩,
      ⟨X.admits, X.cas, X.clock, X.frames, X.room, X.hears, X.method, X.code, (X.here.setHeapUsed s₂.heap s₂.slotsUsed).setVm hW'.alike, X.tail, State.WarmedH.trans X.warmed hW', X.limits, X.bytes, X.same.trans (hsame.setVm s.vm)⟩,
      ⟨g, mk, s₂, L, E, ce, rfl, rfl, hx, hce, hcv, hcl, rfl, hL, rfl, rfl⟩, ?_⟩
    show Steps p.tables e below _ (((({ U with heap := s₂.heap, slotsUsed := s₂.slotsUsed } : State).setVm s₂.vm).setTop g).pushFrame (.throwing q))
    rw [← hs₂]
    exact hsteps
end
variable {p : Program} {l : Launch} {e : Env} {R : Room} {s : State} {m : MethodId} {args : Array Value} {below : List Frame} {meth : Method} {c : Code} {T : State} {H : Heap} {locs : List Loc} {cells slots : Nat}
theorem vx_callVX (X : Stand p l e R s m args below meth c T locs cells slots) (hexec : p.tables.exec = Jvm.exec) {own C : String} {index : Nat} {y : MethodName} {bytes : ByteArray} {maxL : Nat} {ret : Option FieldType} {hh : List (Nat × Nat × Nat × Nat)}
    (hown : s.vm.findClass own = some m.cls) (hlink : (Cond.methodLink own index y).before args s = true) (hinst : (Cond.instanceMethod y).before args s = true) (hsel : (Cond.selects C y y).before args s = true)
    (hcode : (Cond.codeWith y bytes maxL ret hh).before args s = true) (hy : y.cls ≠ "java/lang/invoke/MethodHandle" ∧ y.cls ≠ "java/lang/invoke/VarHandle")
    {W9 : Nat} {Pre : Pt → Array Value → Prop} {Post : Pt → Array Value → Option Value → Pt → Prop} {PostX : Pt → Array Value → Addr → Pt → Prop} (hK : vx_Back l R p e below s args y 3 W9 Pre Post PostX)
    {b : Addr} {cellB : Cell} (hcell : T.heap[b]? = some cellB) (hobj : cellB.vm.isStatics = false) (hcls : s.vm.findClass C = some cellB.cls)
    {g : JFrame} (hg : g.method = m) (hsize : g.locals.size = c.maxLocals) {argsL rest : List Value} (hlen : ∀ sig, parseMethodDescriptor y.desc = some sig → argsL.length = sig.parameters.length)
    (hstack : g.stack = argsL.reverse ++ .ref b :: rest) (hW : 2 * g.monitorRoom + (rest.map fun v => v.category).sum ≤ W9) (hdg : decode c.code g.pc = .ok (.invokevirtual index, 3))
    (hpre : ∀ vm₁, s.WarmedH vm₁ → Pre ⟨T.setVm vm₁, locs, cells, slots⟩ (Value.ref b :: argsL).toArray) :
    (∃ (v : Option Value) (vm₁ : Vm) (B : Pt), s.WarmedH vm₁ ∧ Stand p l e R s m args below meth c B.U B.locs B.cells B.slots ∧ Post ⟨T.setVm vm₁, locs, cells, slots⟩ (Value.ref b :: argsL).toArray v B ∧
      ∀ target, Steps p.tables e below (B.U.setTop { g with pc := g.pc + 3, stack := v.toList ++ rest }) target → Steps p.tables e below (T.setTop g) target) ∨
    (∃ (q : Addr) (vm₁ : Vm) (B : Pt), s.WarmedH vm₁ ∧ Stand p l e R s m args below meth c B.U B.locs B.cells B.slots ∧ PostX ⟨T.setVm vm₁, locs, cells, slots⟩ (Value.ref b :: argsL).toArray q B ∧
      Steps p.tables e below (T.setTop g) ((B.U.setTop { g with stack := rest }).pushFrame (.throwing q))) := by
  obtain ⟨mk, methM, hnamed, hmethM, hstM, habM⟩ := Cond.instanceMethod_spec hinst
  obtain ⟨m8, methM', cM, hn8, hmethM', -, -, -, -, -, -, hsigM⟩ := Cond.codeWith_spec hcode
  cases Option.some.inj (hn8.symm.trans hnamed)
  cases hmethM.symm.trans hmethM'
  obtain ⟨c2, r2, m2, q1, q2, q3, q4, kP, hkP, hkPi⟩ := Cond.selects_spec hsel
  cases hcls.symm.trans q1
  cases (State.methodFound?_of_named hnamed hy).symm.trans q2
  cases hnamed.symm.trans q3
  have hselP : selectMethod e.platform s.vm cellB.cls mk = .method mk := by rw [Launch.admits_selectMethod X.admits]; exact q4
  obtain ⟨vm₁, X₁, hstep₁⟩ := X.invokevirtual hexec hown hlink hnamed hmethM hstM hkP hkPi hy (a := b) (cell := cellB) hcell
    (fun z h => by rw [h] at hobj; cases hobj) hselP hmethM habM hkP hkPi (g := g) hg (argsL := argsL) (rest := rest) (hlen _ hsigM) hstack hdg
  rcases hK m meth c ⟨T.setVm vm₁, locs, cells, slots⟩ { g with stack := rest } (.invokevirtual index) mk (Value.ref b :: argsL).toArray X₁ hg hsize hdg hW (X₁.named hnamed) (hpre vm₁ X₁.warmed) with ⟨v, B, X', hpost, hsteps⟩ | ⟨q, B, X', hpost, hsteps⟩
  · exact Or.inl ⟨v, vm₁, B, X₁.warmed, X', hpost, fun target h => hstep₁ _ fun acts => by rw [doInvoke_state]; exact hsteps.trans h⟩
  · exact Or.inr ⟨q, vm₁, B, X₁.warmed, X', hpost, hstep₁ _ fun acts => by rw [doInvoke_state]; exact hsteps⟩
theorem vx_callSX (X : Stand p l e R s m args below meth c T locs cells slots) (hexec : p.tables.exec = Jvm.exec) {own : String} {index : Nat} {y : MethodName} {bytes : ByteArray} {maxL : Nat} {ret : Option FieldType} {hh : List (Nat × Nat × Nat × Nat)}
    (hown : s.vm.findClass own = some m.cls) (hlink : (Cond.methodLink own index y).before args s = true) (hstat : (Cond.static y).before args s = true) (hinit : (Cond.initialized y.cls).before args s = true)
    (hcode : (Cond.codeWith y bytes maxL ret hh).before args s = true) (hy : y.cls ≠ "java/lang/invoke/MethodHandle" ∧ y.cls ≠ "java/lang/invoke/VarHandle")
    {W9 : Nat} {Pre : Pt → Array Value → Prop} {Post : Pt → Array Value → Option Value → Pt → Prop} {PostX : Pt → Array Value → Addr → Pt → Prop} (hK : vx_Back l R p e below s args y 3 W9 Pre Post PostX)
    {g : JFrame} (hg : g.method = m) (hsize : g.locals.size = c.maxLocals) {argsL rest : List Value} (hlen : ∀ sig, parseMethodDescriptor y.desc = some sig → argsL.length = sig.parameters.length)
    (hstack : g.stack = argsL.reverse ++ rest) (hW : 2 * g.monitorRoom + (rest.map fun v => v.category).sum ≤ W9) (hdg : decode c.code g.pc = .ok (.invokestatic index, 3))
    (hpre : ∀ vm₁, s.WarmedH vm₁ → Pre ⟨T.setVm vm₁, locs, cells, slots⟩ argsL.toArray) :
    (∃ (v : Option Value) (vm₁ : Vm) (B : Pt), s.WarmedH vm₁ ∧ Stand p l e R s m args below meth c B.U B.locs B.cells B.slots ∧ Post ⟨T.setVm vm₁, locs, cells, slots⟩ argsL.toArray v B ∧
      ∀ target, Steps p.tables e below (B.U.setTop { g with pc := g.pc + 3, stack := v.toList ++ rest }) target → Steps p.tables e below (T.setTop g) target) ∨
    (∃ (q : Addr) (vm₁ : Vm) (B : Pt), s.WarmedH vm₁ ∧ Stand p l e R s m args below meth c B.U B.locs B.cells B.slots ∧ PostX ⟨T.setVm vm₁, locs, cells, slots⟩ argsL.toArray q B ∧
      Steps p.tables e below (T.setTop g) ((B.U.setTop { g with stack := rest }).pushFrame (.throwing q))) := by
  obtain ⟨mk, methM, cM, hnamed, hmethM, -, -, -, -, -, -, hsigM⟩ := Cond.codeWith_spec hcode
  have hstatic : methM.isStatic = true := Cond.static_spec hnamed hmethM hstat
  obtain ⟨kP, hkP, -⟩ := className_of_methodNamed hnamed
  have hinitP : kP.init = .initialized := Cond.initialized_spec (findClass_of_methodNamed hnamed) hkP hinit
  obtain ⟨vm₁, X₁, hstep₁⟩ := X.invokestatic hexec hown hlink hnamed hmethM hstatic hkP hinitP hy (g := g) hg (argsL := argsL) (rest := rest) (hlen _ hsigM) hstack hdg
  rcases hK m meth c ⟨T.setVm vm₁, locs, cells, slots⟩ { g with stack := rest } (.invokestatic index) mk argsL.toArray X₁ hg hsize hdg hW (X₁.named hnamed) (hpre vm₁ X₁.warmed) with ⟨v, B, X', hpost, hsteps⟩ | ⟨q, B, X', hpost, hsteps⟩
  · exact Or.inl ⟨v, vm₁, B, X₁.warmed, X', hpost, fun target h => hstep₁ _ fun acts => by rw [doInvoke_state]; exact hsteps.trans h⟩
  · exact Or.inr ⟨q, vm₁, B, X₁.warmed, X', hpost, hstep₁ _ fun acts => by rw [doInvoke_state]; exact hsteps⟩
theorem vx_callVW (X : Stand p l e R s m args below meth c T locs cells slots) (hexec : p.tables.exec = Jvm.exec) {own C : String} {index : Nat} {y : MethodName} {bytes : ByteArray} {maxL : Nat} {ret : Option FieldType} {hh : List (Nat × Nat × Nat × Nat)}
    (hown : s.vm.findClass own = some m.cls) (hlink : (Cond.methodLink own index y).before args s = true) (hinst : (Cond.instanceMethod y).before args s = true) (hsel : (Cond.selects C y y).before args s = true)
    (hcode : (Cond.codeWith y bytes maxL ret hh).before args s = true) (hy : y.cls ≠ "java/lang/invoke/MethodHandle" ∧ y.cls ≠ "java/lang/invoke/VarHandle")
    {W9 : Nat} {Pre : Pt → Array Value → Prop} {Post : Pt → Array Value → Option Value → Pt → Prop} (hK : Back l R p e below s args y 3 W9 Pre Post)
    {b : Addr} {cellB : Cell} (hcell : T.heap[b]? = some cellB) (hobj : cellB.vm.isStatics = false) (hcls : s.vm.findClass C = some cellB.cls)
    {g : JFrame} (hg : g.method = m) (hsize : g.locals.size = c.maxLocals) {argsL rest : List Value} (hlen : ∀ sig, parseMethodDescriptor y.desc = some sig → argsL.length = sig.parameters.length)
    (hstack : g.stack = argsL.reverse ++ .ref b :: rest) (hW : 2 * g.monitorRoom + (rest.map fun v => v.category).sum ≤ W9) (hdg : decode c.code g.pc = .ok (.invokevirtual index, 3))
    (hpre : ∀ vm₁, s.WarmedH vm₁ → Pre ⟨T.setVm vm₁, locs, cells, slots⟩ (Value.ref b :: argsL).toArray) :
    ∃ (v : Option Value) (vm₁ : Vm) (B : Pt), s.WarmedH vm₁ ∧ Stand p l e R s m args below meth c B.U B.locs B.cells B.slots ∧ Post ⟨T.setVm vm₁, locs, cells, slots⟩ (Value.ref b :: argsL).toArray v B ∧
      ∀ target, Steps p.tables e below (B.U.setTop { g with pc := g.pc + 3, stack := v.toList ++ rest }) target → Steps p.tables e below (T.setTop g) target := by
  obtain ⟨mk, methM, hnamed, hmethM, hstM, habM⟩ := Cond.instanceMethod_spec hinst
  obtain ⟨m8, methM', cM, hn8, hmethM', -, -, -, -, -, -, hsigM⟩ := Cond.codeWith_spec hcode
  cases Option.some.inj (hn8.symm.trans hnamed)
  cases hmethM.symm.trans hmethM'
  obtain ⟨c2, r2, m2, q1, q2, q3, q4, kP, hkP, hkPi⟩ := Cond.selects_spec hsel
  cases hcls.symm.trans q1
  cases (State.methodFound?_of_named hnamed hy).symm.trans q2
  cases hnamed.symm.trans q3
  have hselP : selectMethod e.platform s.vm cellB.cls mk = .method mk := by rw [Launch.admits_selectMethod X.admits]; exact q4
  obtain ⟨vm₁, X₁, hstep₁⟩ := X.invokevirtual hexec hown hlink hnamed hmethM hstM hkP hkPi hy (a := b) (cell := cellB) hcell
    (fun z h => by rw [h] at hobj; cases hobj) hselP hmethM habM hkP hkPi (g := g) hg (argsL := argsL) (rest := rest) (hlen _ hsigM) hstack hdg
  obtain ⟨v, B, X', hpost, hsteps⟩ := hK m meth c ⟨T.setVm vm₁, locs, cells, slots⟩ { g with stack := rest } (.invokevirtual index) mk (Value.ref b :: argsL).toArray X₁ hg hsize hdg hW (X₁.named hnamed) (hpre vm₁ X₁.warmed)
  exact ⟨v, vm₁, B, X₁.warmed, X', hpost, fun target h => hstep₁ _ fun acts => by rw [doInvoke_state]; exact hsteps.trans h⟩
abbrev vx_CVW (R : Room) (s : State) (args : Array Value) (own C : String) (index : Nat) (y : MethodName) (bytes : ByteArray) (maxL : Nat) (ret : Option FieldType) (hh : List (Nat × Nat × Nat × Nat)) (ws : List Cond) (rm : Room) (mc ms n : Nat) : Prop :=
  (rm.cells = mc ∧ rm.slots = ms ∧ rm.frames + 1 ≤ R.frames ∧ 8 + (maxL + 11) + rm.locals ≤ R.locals ∧ (∀ w ∈ ws, ∀ (a' : Array Value) (U : State), s.WarmedH U.vm → w.before a' U = true) ∧ Cond.codeWith y bytes maxL ret hh ∈ ws) ∧
  (Cond.codeWith y bytes maxL ret hh).before args s = true ∧ (Cond.initialized y.cls).before args s = true ∧ (y.cls ≠ "java/lang/invoke/MethodHandle" ∧ y.cls ≠ "java/lang/invoke/VarHandle") ∧
  (∀ sig, parseMethodDescriptor y.desc = some sig → n = sig.parameters.length) ∧ (Cond.methodLink own index y).before args s = true ∧ (Cond.instanceMethod y).before args s = true ∧ (Cond.selects C y y).before args s = true
theorem vx_cwVW {own C : String} {index maxL mc ms : Nat} {y : MethodName} {bytes : ByteArray} {ret : Option FieldType} {hh : List (Nat × Nat × Nat × Nat)} {Ts ws ws' : List Cond} {rm : Room} (n : Nat) (ht : ∀ w ∈ Ts, w.before args s = true) (hT : GoodIn Ts (wsV own index C y ws)) (hw : ws = Cond.codeWith y bytes maxL ret hh :: ws') (hrc : rm.cells = mc) (hrs : rm.slots = ms)
    (hd : y.cls = C ∧ y.cls ≠ "java/lang/invoke/MethodHandle" ∧ y.cls ≠ "java/lang/invoke/VarHandle" ∧ (parseMethodDescriptor y.desc).map (fun d => d.parameters.length) = some n) (hR : rm.frames + 1 ≤ R.frames ∧ 8 + (maxL + 11) + rm.locals ≤ R.locals) :
    vx_CVW R s args own C index y bytes maxL ret hh ws rm mc ms n := by
  obtain ⟨hC, hd⟩ := hd
  subst hC
  have ok : ∀ w ∈ wsV own index y.cls y ws, w.before args s = true := fun w h => ht w (hT w h).1
  have hG : GoodIn Ts ws := fun w h => hT w (by unfold wsV; exact List.mem_append_right _ h)
  have hc : Cond.codeWith y bytes maxL ret hh ∈ ws := by rw [hw]; exact List.mem_cons_self
  refine ⟨⟨hrc, hrs, hR.1, hR.2, pay_in ht hG, hc⟩, ht _ (hG _ hc).1, ok _ (by simp [wsV]), ⟨hd.1, hd.2.1⟩, fun sig h => ?_, ok _ (by simp [wsV]), ok _ (by simp [wsV]), ok _ (by simp [wsV])⟩
  have h2 := hd.2.2
  rw [h] at h2
  exact (Option.some.inj h2).symm
theorem vx_runVW {y : MethodName} {bytes cc : ByteArray} {maxL nL mc ms n index : Nat} {ret : Option FieldType} {hh : List (Nat × Nat × Nat × Nat)} {ws : List Cond} {rm : Room} {Pc : Array Value → State → Prop} {Qc : Array Value → State → Outcome → State → Prop} {free : Addr → Prop} {Ts : List Cond} {own C : String} {b : Addr} {As rest : List Value} {g : JFrame}
    (S : CallFix p m c cc nL s args Ts own) (hM : Met l y ws rm Pc Qc mc ms free) (cw : vx_CVW R s args own C index y bytes maxL ret hh ws rm mc ms n) (hp : PreV s H C b Pc As)
    (hg : g.method = m) (hn : As.length = n) (hsize : g.locals.size = nL) (hstack : g.stack = As.reverse ++ .ref b :: rest) (hW : 2 * g.monitorRoom + (rest.map fun v => v.category).sum ≤ 8) (hdg : decode cc g.pc = .ok (.invokevirtual index, 3)) (hf : cells + mc ≤ R.cells ∧ slots + ms ≤ R.slots) :
    va_Run p l e R s m args below meth c H locs cells slots mc ms g rest (Qc (Value.ref b :: As).toArray) free := by
  obtain ⟨⟨hrc, hrs, hfr, hlo, hws, hcw⟩, hcode, hini, hy, hlen, hl, hin, hse⟩ := cw
  have hK : Back l R p e below s args y 3 8 (PreOf R mc ms Pc) (PostOf Qc mc ms free) := va_backW (hh := hh) (bytes := bytes) (maxL := maxL) (ret := ret) hM hp.1 hrc hrs hfr hlo hws hcw (fun a' U hW => word_at hW (Or.inl (by first | rfl | simp [Cond.onTables, Cond.keeps, Cond.steady])) hini)
  obtain ⟨hx, hb, hml, ho, -⟩ := S
  obtain ⟨-, ⟨cellB, hcB, hoB, hclB⟩, hPc⟩ := hp
  intro T hT X
  obtain ⟨v, vm₁, ⟨U', l2, c2, s2⟩, hW₁, X', ⟨g', mk, t, L, e1, e2, hq, h1, hL, h2, h3⟩, st⟩ := vx_callVW X hx (C := C) (hh := hh) (bytes := bytes) (maxL := maxL) (ret := ret) ho hl hin hse hcode hy hK (by rw [hT]; exact hcB) hoB hclB hg (hsize.trans hml.symm) (argsL := As) (rest := rest) (fun sig h => hn.trans (hlen sig h)) hstack hW (by rw [hb]; exact hdg)
    (fun vm₁ hW₁ => ⟨hf.1, hf.2, hPc (T.setVm vm₁) hT hW₁⟩)
  dsimp only [Pt.U, Pt.locs, Pt.cells, Pt.slots] at X' e1 e2 h1 h2 h3 st
  subst h1; subst h2; subst h3
  exact ⟨v, (T.setVm vm₁).calling g' mk (Value.ref b :: As).toArray, t, U', L, hT, X', hL, e1, e2, hq, st⟩
section
variable {y : MethodName} {bytes cc : ByteArray} {maxL nL mc ms n index : Nat} {ret : Option FieldType} {ws : List Cond} {rm : Room} {Pc : Array Value → State → Prop} {Qc : Array Value → State → Outcome → State → Prop} {XC : String → State → State → Prop} {free : Addr → Prop} {Ts : List Cond} {own C : String} {b : Addr} {As rest : List Value} {g : JFrame}
theorem vx_runVX {hh : List (Nat × Nat × Nat × Nat)} (S : CallFix p m c cc nL s args Ts own) (hM : vx_Met l y ws rm Pc Qc XC mc ms free) (cw : vx_CVW R s args own C index y bytes maxL ret hh ws rm mc ms n) (hp : PreV s H C b Pc As)
    (hg : g.method = m) (hn : As.length = n) (hsize : g.locals.size = nL) (hstack : g.stack = As.reverse ++ .ref b :: rest) (hW : 2 * g.monitorRoom + (rest.map fun v => v.category).sum ≤ 8) (hdg : decode cc g.pc = .ok (.invokevirtual index, 3)) (hf : cells + mc ≤ R.cells ∧ slots + ms ≤ R.slots) :
    vx_Run p l e R s m args below meth c H locs cells slots mc ms g rest (Qc (Value.ref b :: As).toArray) XC free := by
  obtain ⟨⟨hrc, hrs, hfr, hlo, hws, hcw⟩, hcode, hini, hy, hlen, hl, hin, hse⟩ := cw
  have hK : vx_Back l R p e below s args y 3 8 (PreOf R mc ms Pc) (PostOf Qc mc ms free) (vx_Post XC mc ms free) := vx_backW (hh := hh) (bytes := bytes) (maxL := maxL) (ret := ret) hM hp.1 hrc hrs hfr hlo hws hcw (fun a' U hW => word_at hW (Or.inl (by first | rfl | simp [Cond.onTables, Cond.keeps, Cond.steady])) hini)
  obtain ⟨hx, hb, hml, ho, -⟩ := S
  obtain ⟨-, ⟨cellB, hcB, hoB, hclB⟩, hPc⟩ := hp
  intro T hT X
  rcases vx_callVX X hx (C := C) (hh := hh) (bytes := bytes) (maxL := maxL) (ret := ret) ho hl hin hse hcode hy hK (by rw [hT]; exact hcB) hoB hclB hg (hsize.trans hml.symm) (argsL := As) (rest := rest) (fun sig h => hn.trans (hlen sig h)) hstack hW (by rw [hb]; exact hdg)
    (fun vm₁ hW₁ => ⟨hf.1, hf.2, hPc (T.setVm vm₁) hT hW₁⟩) with ⟨v, vm₁, ⟨U', l2, c2, s2⟩, hW₁, X', ⟨g', mk, t, L, e1, e2, hq, h1, hL, h2, h3⟩, st⟩ | ⟨q, vm₁, ⟨U', l2, c2, s2⟩, hW₁, X', ⟨g', mk, t, L, E, ce, e1, e2, hq, hce, hcv, hcl, h1, hL, h2, h3⟩, st⟩
  · dsimp only [Pt.U, Pt.locs, Pt.cells, Pt.slots] at X' e1 e2 h1 h2 h3 st
    subst h1; subst h2; subst h3
    exact Or.inl ⟨v, (T.setVm vm₁).calling g' mk (Value.ref b :: As).toArray, t, U', L, hT, X', hL, e1, e2, hq, st⟩
  · dsimp only [Pt.U, Pt.locs, Pt.cells, Pt.slots] at X' e1 e2 h1 h2 h3 st hcl
    subst h1; subst h2; subst h3
    exact Or.inr ⟨q, (T.setVm vm₁).calling g' mk (Value.ref b :: As).toArray, t, U', L, E, ce, hT, X', hL, e1, e2, hq, hce, hcv, vx_cls hW₁ hcl, st⟩
theorem vx_runSX {hh : List (Nat × Nat × Nat × Nat)} (S : CallFix p m c cc nL s args Ts own) (hM : vx_Met l y ws rm Pc Qc XC mc ms free) (cw : vx_CSW R s args own index y bytes maxL ret hh ws rm mc ms n) (hp : PreS s H Pc As)
    (hg : g.method = m) (hn : As.length = n) (hsize : g.locals.size = nL) (hstack : g.stack = As.reverse ++ rest) (hW : 2 * g.monitorRoom + (rest.map fun v => v.category).sum ≤ 8) (hdg : decode cc g.pc = .ok (.invokestatic index, 3)) (hf : cells + mc ≤ R.cells ∧ slots + ms ≤ R.slots) :
    vx_Run p l e R s m args below meth c H locs cells slots mc ms g rest (Qc As.toArray) XC free := by
  obtain ⟨⟨hrc, hrs, hfr, hlo, hws, hcw⟩, hcode, hini, hy, hlen, hl, hstt⟩ := cw
  have hK : vx_Back l R p e below s args y 3 8 (PreOf R mc ms Pc) (PostOf Qc mc ms free) (vx_Post XC mc ms free) := vx_backW (hh := hh) (bytes := bytes) (maxL := maxL) (ret := ret) hM hp.1 hrc hrs hfr hlo hws hcw (fun a' U hW => word_at hW (Or.inl (by first | rfl | simp [Cond.onTables, Cond.keeps, Cond.steady])) hini)
  obtain ⟨hx, hb, hml, ho, -⟩ := S
  intro T hT X
  rcases vx_callSX X hx (hh := hh) (bytes := bytes) (maxL := maxL) (ret := ret) ho hl hstt hini hcode hy hK hg (hsize.trans hml.symm) (argsL := As) (rest := rest) (fun sig h => hn.trans (hlen sig h)) hstack hW (by rw [hb]; exact hdg)
    (fun vm₁ hW₁ => ⟨hf.1, hf.2, hp.2 (T.setVm vm₁) hT hW₁⟩) with ⟨v, vm₁, ⟨U', l2, c2, s2⟩, hW₁, X', ⟨g', mk, t, L, e1, e2, hq, h1, hL, h2, h3⟩, st⟩ | ⟨q, vm₁, ⟨U', l2, c2, s2⟩, hW₁, X', ⟨g', mk, t, L, E, ce, e1, e2, hq, hce, hcv, hcl, h1, hL, h2, h3⟩, st⟩
  · dsimp only [Pt.U, Pt.locs, Pt.cells, Pt.slots] at X' e1 e2 h1 h2 h3 st
    subst h1; subst h2; subst h3
    exact Or.inl ⟨v, (T.setVm vm₁).calling g' mk As.toArray, t, U', L, hT, X', hL, e1, e2, hq, st⟩
  · dsimp only [Pt.U, Pt.locs, Pt.cells, Pt.slots] at X' e1 e2 h1 h2 h3 st hcl
    subst h1; subst h2; subst h3
    exact Or.inr ⟨q, (T.setVm vm₁).calling g' mk As.toArray, t, U', L, E, ce, hT, X', hL, e1, e2, hq, hce, hcv, vx_cls hW₁ hcl, st⟩
end
end VXH
theorem vx_ofWH {l : Launch} {y : MethodName} {ws ws' : List Cond} {rm : Room} {Pc : Array Value → State → Prop} {Qc : Array Value → State → Outcome → State → Prop} {XC : String → State → State → Prop} {mc ms : Nat} {free : Addr → Prop} {cc : ByteArray} {maxL : Nat} {ret : Option FieldType} {hh : List (Nat × Nat × Nat × Nat)}
    (hy : plainName y.cls = true) (hw : ws = Cond.codeWith y cc maxL ret hh :: ws')
    (body : ∀ p e s m args below meth c s₁, BodyLoose p l y (headSpec ws rm) cc maxL ret e s m args below meth c s₁ → c.maxLocals = maxL → Pc args s →
      W p l e (headSpec ws rm).room s m args below meth c s.heap [] 0 0 (vx_MQ below Qc XC args s mc ms free) (entryFrame m args maxL)) : vx_Met l y ws rm Pc Qc XC mc ms free := by
  refine MetFree.of_bodyS (code := cc) (maxLocals := maxL) (ret := ret) hy ?_ ?_
  · intro args s m h hn
    obtain ⟨m9, meth, c, hn9, h1, h2, h3, h4, -, h5, h6, -⟩ := Cond.codeWith_spec (atoms_spec (ws := ws) h _ (by rw [hw]; exact List.mem_cons_self))
    cases hn.symm.trans hn9
    exact ⟨meth, c, h1, h2, h3, h4, h5, h6⟩
  · intro p e s m args below meth c s₁ B hml hP _
    have hh0 : s₁.heap = s.heap := by rw [B.state]; rfl
    obtain ⟨t, a1, o, b1, b2, b3⟩ := body p e s m args below meth c s₁ B hml hP s₁ hh0 (Stand.of_body B)
    exact ⟨t, o, a1, b1, b2, b3⟩
/-! ===== END ===== -/
end
section
/-! The walker's own rows: a fixed context, worlds restated by each row, calls with the frame rule in one row. -/
abbrev xZ := Nat × Nat × (Nat → Int32)
def xNest (q : String × Nat × String × String × String × String) : Cond := .fieldLinkNest q.1 q.2.1 q.2.2.1 q.2.2.2.1 q.2.2.2.2.1 q.2.2.2.2.2
/-- what a call's words can't carry: links to private fields of nest mates, String constants -/
def NN (U : State) : Prop := (∀ q ∈ xNestL, va_Nw (xNest q) U) ∧ ∀ q ∈ xStrL, ∃ a : Nat, vk_R q.1 q.2.1 q.2.2 a U
theorem NN.warm {s U : State} (hW : s.WarmedH U.vm) (h : NN s) : NN U := ⟨fun q hq => va_Nw.warmF hW (h.1 q hq), fun q hq => by
  obtain ⟨a, ha⟩ := h.2 q hq
  exact ⟨a, ha.warm hW⟩⟩
theorem NN.same {u U : State} (hv : u.vm = U.vm) (h : NN u) : NN U := ⟨fun q hq => va_Nw.same rfl hv (h.1 q hq), fun q hq => by
  obtain ⟨a, ha⟩ := h.2 q hq
  exact ⟨a, ha.same hv.symm⟩⟩
/-- what the heap holds from the start on, outside of what a method may change: a String constant that is read, three statics -/
def SF (Z : xZ) (A : Nat → Prop) (U : State) (H : Heap) : Prop :=
  (vk_R RX8 27 xWORDS Z.1 U ∧ va_O "java/lang/String" Z.1 A U H ∧ va_OF "java/lang/String" "coder" "B" (.int 0) Z.1 A U H ∧ va_OF "java/lang/String" "value" "[B" (.ref Z.2.1) Z.1 A U H ∧ va_T .byte Z.2.1 118 (fun j => .int (Z.2.2 j)) A U H) ∧ va_Z "java/lang/String" "COMPACT_STRINGS" "Z" (.int 1) A U H ∧ vx_Zq Bundle.tN "UNASSIGNED_STACK" Bundle.steD A U H ∧ vx_Zq Bundle.tN "SUPPRESSED_SENTINEL" Bundle.listD A U H
theorem SF.warm {Z : xZ} {A : Nat → Prop} {s U : State} {H : Heap} (hW : s.WarmedH U.vm) (h : SF Z A s H) : SF Z A U H := by
  obtain ⟨⟨h1, h2, h3, h4, h5⟩, h6, h7, h8⟩ := h
  exact ⟨⟨h1.warm hW, h2.moved hW.alike, h3.moved hW.alike, h4.moved hW.alike, h5.moved hW.alike⟩, h6.moved hW.alike, h7.moved hW.alike, h8.moved hW.alike⟩
theorem SF.same {Z : xZ} {A : Nat → Prop} {u U : State} {H : Heap} (hv : u.vm = U.vm) (h : SF Z A u H) : SF Z A U H := by
  obtain ⟨⟨h1, h2, h3, h4, h5⟩, h6, h7, h8⟩ := h
  have hW : u.vm.Alike U.vm := hv ▸ Vm.Alike.refl u.vm
  exact ⟨⟨h1.same hv.symm, h2.moved hW, h3.moved hW, h4.moved hW, h5.moved hW⟩, h6.moved hW, h7.moved hW, h8.moved hW⟩
theorem SF.kept {Z : xZ} {A : Nat → Prop} {U : State} {H H1 : Heap} (h : SF Z A U H) (hq : ∀ a : Nat, a < H.size → ¬ A a → H1[a]? = H[a]?) : SF Z A U H1 := by
  obtain ⟨⟨h1, h2, h3, h4, h5⟩, h6, h7, h8⟩ := h
  exact ⟨⟨h1, h2.kept hq, h3.kept hq, h4.kept hq, h5.kept hq⟩, h6.kept hq, h7.kept hq, h8.kept hq⟩
theorem SF.narrow {Z : xZ} {A B : Nat → Prop} {U : State} {H : Heap} (h : SF Z A U H) (hAB : ∀ q, B q → A q) : SF Z B U H := by
  obtain ⟨⟨h1, h2, h3, h4, h5⟩, h6, h7, h8⟩ := h
  exact ⟨⟨h1, h2.narrow hAB, h3.narrow hAB, h4.narrow hAB, h5.narrow hAB⟩, h6.narrow hAB, h7.narrow hAB, h8.narrow hAB⟩
theorem goodG : ∀ w ∈ G, goodWord w = true := List.all_eq_true.mp (by decide +kernel)
theorem good_cons {w : Cond} (h : w ∈ G) : GoodIn G (w :: G) := fun v hv => by
  rcases List.mem_cons.mp hv with e | hv
  · subst e; exact ⟨h, good_of_word (goodG _ h)⟩
  · exact ⟨hv, good_of_word (goodG _ hv)⟩
abbrev xTys (cyI cyJ : ClassId) : List (ClassId × FieldType) := [(cyI, .int), (cyJ, .long)]
/-- a method's context -/
def Ctx (p : Program) (s : State) (m : MethodId) (args : Array Value) (c : Code) (cc : ByteArray) (nL : Nat) (own : String) (D : va_G) (cyI cyJ : ClassId) (Z : xZ) (A : Nat → Prop) : Prop :=
  CallFix p m c cc nL s args G own ∧ va_K D vwCl (xTys cyI cyJ) s ∧ NN s ∧ SF Z A s s.heap
def OkM (y : MethodName) (bytes : ByteArray) (maxL : Nat) (ret : Option FieldType) (n : Nat) : Prop :=
  Cond.code y bytes maxL ret ∈ G ∧ Cond.initialized y.cls ∈ G ∧ (y.cls ≠ "java/lang/invoke/MethodHandle" ∧ y.cls ≠ "java/lang/invoke/VarHandle" ∧ (parseMethodDescriptor y.desc).map (fun d => d.parameters.length) = some n)
def PreW (D : va_G) (cyI cyJ : ClassId) (Z : xZ) (av : List Value) (wc : va_W) (sz : Nat) : Array Value → State → Prop :=
  va_Pc av (fun U => U.heap.size = sz ∧ va_P D vwCl wc U.heap ∧ va_K D vwCl (xTys cyI cyJ) U ∧ va_D (fun _ => True) wc ∧ NN U ∧ SF Z (va_A wc sz) U U.heap)
abbrev BW (D : va_G) (A : Nat → Prop) {S : Type} (w1 : S → va_W) : S → State → Prop := fun u t => va_P D vwCl (w1 u) t.heap ∧ va_D A (w1 u)
def MetI (l : Launch) (y : MethodName) (cd : Cond) (rm : Room) (D : va_G) (cyI cyJ : ClassId) (Z : xZ) (av : List Value) (wc : va_W) {S : Type} (rv : S → Int32) (w1 : S → va_W) (mc ms : Nat) : Prop :=
  ∀ sz : Nat, Met l y (cd :: G) rm (PreW D cyI cyJ Z av wc sz) (va_Qi (fun r u => r = rv u) (BW D (va_A wc sz) w1) (va_A wc sz)) mc ms (va_A wc sz)
def MetV (l : Launch) (y : MethodName) (cd : Cond) (rm : Room) (D : va_G) (cyI cyJ : ClassId) (Z : xZ) (av : List Value) (wc : va_W) {S : Type} (w1 : S → va_W) (mc ms : Nat) : Prop :=
  ∀ sz : Nat, Met l y (cd :: G) rm (PreW D cyI cyJ Z av wc sz) (va_Qv (fun _ => True) (BW D (va_A wc sz) w1) (va_A wc sz)) mc ms (va_A wc sz)
theorem x_subP {D : va_G} {cl : List vw_C} {ws w1 : va_W} {H : Heap} (h : va_P D cl ws H) (is : List Nat) (hs : is.map (fun i => ws[i]?) = w1.map some) : va_P D cl w1 H := by
  intro k q hk
  have h1 : (is.map (fun i => ws[i]?))[k]? = some (some q) := by rw [hs, List.getElem?_map, hk]; rfl
  rw [List.getElem?_map] at h1
  cases hi : is[k]? with
  | none => rw [hi] at h1; cases h1
  | some i => rw [hi] at h1; exact h i q (Option.some.inj h1)
theorem x_blind {D : va_G} {cyI cyJ : ClassId} {Z : xZ} {av : List Value} {wc : va_W} {sz : Nat} : FrameBlind (PreW D cyI cyJ Z av wc sz) := fun a U g mk q => by
  obtain ⟨q0, q1, qP, qK, qD, qN, qS⟩ := q
  exact ⟨q0, q1, qP, va_K.moved (u := U) (U := U.calling g mk a) (Vm.Alike.refl U.vm) qK, qD, NN.same (u := U) (U := U.calling g mk a) rfl qN, SF.same (u := U) (U := U.calling g mk a) rfl qS⟩
section XK
variable {p : Program} {l : Launch} {e : Env} {R : Room} {s : State} {m : MethodId} {args : Array Value} {below : List Frame} {meth : Method} {c : Code} {H : Heap} {locs : List Loc} {cells slots : Nat} {Q : State → Prop}
variable {cc : ByteArray} {pc : Nat} {ls : Array Slot} {rest st0 : List Value} {D : va_G} {A : Nat → Prop} {a : Nat} {ws : va_W} {cyI cyJ : ClassId} {Z : xZ} {own : String} {nL : Nat}
theorem x_pre {av : List Value} {wc : va_W} (E : Ctx p s m args c cc nL own D cyI cyJ Z A) (hP : va_P D vwCl wc H) (hD : va_D A wc) (hS : va_S A s.heap H locs) (hF : ∀ q, va_A wc H.size q → A q) : ∀ U : State, U.heap = H → s.WarmedH U.vm → PreW D cyI cyJ Z av wc H.size av.toArray U :=
  fun U hU hW => ⟨rfl, by rw [hU], by rw [hU]; exact hP, va_K.moved hW.alike E.2.1, hD.weaken (fun _ _ _ _ => trivial), E.2.2.1.warm hW, by rw [hU]; exact ((E.2.2.2.kept hS.2.1).narrow hF).warm hW⟩
theorem x_callB {y : MethodName} {bytes : ByteArray} {maxL n index mc ms : Nat} {ret : Option FieldType} {rm : Room} (E : Ctx p s m args c cc nL own D cyI cyJ Z A) (k : OkM y bytes maxL ret n) (hl : Cond.methodLink own index y ∈ G) (hr : rm.cells = mc ∧ rm.slots = ms ∧ rm.frames + 1 ≤ R.frames ∧ 8 + (maxL + 11) + rm.locals ≤ R.locals) :
    CallB R s args own index y bytes maxL ret (Cond.code y bytes maxL ret :: G) rm mc ms n :=
  callB_of n E.1.2.2.2.2 (good_cons k.1) rfl hr.1 hr.2.1 (E.1.2.2.2.2 _ k.2.1) (E.1.2.2.2.2 _ hl) k.2.2 hr.2.2
theorem x_joini {wc wr : va_W} {S : Type} {rv : S → Int32} {w1 ws' : S → va_W} {mc ms k9 n9 : Nat} {av : Array Value} (hr : va_Run p l e R s m args below meth c H locs cells slots mc ms (F0 m pc ls st0) rest (va_Qi (fun r u => r = rv u) (BW D (va_A wc H.size) w1) (va_A wc H.size) av) (va_A wc H.size)) (hP : va_P D vwCl ws H) (hD : va_D A ws) (hS : va_S A s.heap H locs) (hA : ∀ q : Nat, s.heap.size ≤ q → A q)
    (isC isR : List Nat) (hC : isC.map (fun i => ws[i]?) = wc.map some) (hR : isR.map (fun i => ws[i]?) = wr.map some) (hn : (va_nd isR && isR.all (fun i => !isC.contains i)) = true) (hw : ∀ u, wr ++ w1 u = ws' u) (hk : cells + mc = k9 ∧ slots + ms = n9)
    (kk : ∀ (u : S) (H1 : Heap) (locs1 : List Loc), va_P D vwCl (ws' u) H1 → va_D A (ws' u) → va_S A s.heap H1 locs1 → W p l e R s m args below meth c H1 locs1 k9 n9 Q (F0 m (pc + 3) ls (.int (rv u) :: rest))) : W p l e R s m args below meth c H locs cells slots Q (F0 m pc ls st0) := by
  have hFc := va_free (wc := wc) hD hS hA isC hC
  obtain ⟨rfl, rfl⟩ := hk
  obtain ⟨hn1, hn2⟩ := Bool.and_eq_true_iff.mp hn
  refine va_calli hr hS (fun q _ h => hFc q h) hFc (fun r u t H1 locs1 ht hvm hw9 hB hz1 hk1 hS1 => ?_)
  obtain ⟨hP1, hD1⟩ := hB
  rw [ht] at hP1
  obtain ⟨hP2, hD2⟩ := va_join hP hD isC isR hC hR hn1 (fun i hi => by have := List.all_eq_true.mp hn2 i hi; simpa using this) hk1 hFc hP1 hD1
  subst hw9
  rw [hw u] at hP2 hD2
  exact kk u H1 locs1 hP2 hD2 hS1
theorem x_joinv {wc wr : va_W} {S : Type} {w1 ws' : S → va_W} {mc ms k9 n9 : Nat} {av : Array Value} (hr : va_Run p l e R s m args below meth c H locs cells slots mc ms (F0 m pc ls st0) rest (va_Qv (fun _ => True) (BW D (va_A wc H.size) w1) (va_A wc H.size) av) (va_A wc H.size)) (hP : va_P D vwCl ws H) (hD : va_D A ws) (hS : va_S A s.heap H locs) (hA : ∀ q : Nat, s.heap.size ≤ q → A q)
    (isC isR : List Nat) (hC : isC.map (fun i => ws[i]?) = wc.map some) (hR : isR.map (fun i => ws[i]?) = wr.map some) (hn : (va_nd isR && isR.all (fun i => !isC.contains i)) = true) (hw : ∀ u, wr ++ w1 u = ws' u) (hk : cells + mc = k9 ∧ slots + ms = n9)
    (kk : ∀ (u : S) (H1 : Heap) (locs1 : List Loc), va_P D vwCl (ws' u) H1 → va_D A (ws' u) → va_S A s.heap H1 locs1 → W p l e R s m args below meth c H1 locs1 k9 n9 Q (F0 m (pc + 3) ls rest)) : W p l e R s m args below meth c H locs cells slots Q (F0 m pc ls st0) := by
  have hFc := va_free (wc := wc) hD hS hA isC hC
  obtain ⟨rfl, rfl⟩ := hk
  obtain ⟨hn1, hn2⟩ := Bool.and_eq_true_iff.mp hn
  refine va_callv hr hS (fun q _ h => hFc q h) hFc (fun u t H1 locs1 ht hvm hw9 hB hz1 hk1 hS1 => ?_)
  obtain ⟨hP1, hD1⟩ := hB
  rw [ht] at hP1
  obtain ⟨hP2, hD2⟩ := va_join hP hD isC isR hC hR hn1 (fun i hi => by have := List.all_eq_true.mp hn2 i hi; simpa using this) hk1 hFc hP1 hD1
  rw [hw u] at hP2 hD2
  exact kk u H1 locs1 hP2 hD2 hS1
variable {y : MethodName} {bytes : ByteArray} {maxL index mc ms k9 n9 : Nat} {rm : Room} {As : List Value} {b : Nat} {wc wr : va_W} {S : Type} {rv : S → Int32} {w1 ws' : S → va_W} {ret : Option FieldType}
/-- invokevirtual, an int or a boolean comes back -/
theorem x_Vi (E : Ctx p s m args c cc nL own D cyI cyJ Z A) (hM : MetI l y (Cond.code y bytes maxL ret) rm D cyI cyJ Z (.ref b :: As) wc rv w1 mc ms) (k : OkM y bytes maxL ret As.length) (hl : Cond.methodLink own index y ∈ G) (him : Cond.instanceMethod y ∈ G) (hse : Cond.selects y.cls y y ∈ G) (hr : rm.cells = mc ∧ rm.slots = ms ∧ rm.frames + 1 ≤ R.frames ∧ 8 + (maxL + 11) + rm.locals ≤ R.locals)
    (hP : va_P D vwCl ws H) (hD : va_D A ws) (hS : va_S A s.heap H locs) (hA : ∀ q : Nat, s.heap.size ≤ q → A q)
    (isC isR : List Nat) (hC : isC.map (fun i => ws[i]?) = wc.map some) (hR : isR.map (fun i => ws[i]?) = wr.map some) (hn : (va_nd isC && (va_nd isR && isR.all (fun i => !isC.contains i))) = true) (hw : ∀ u, wr ++ w1 u = ws' u) (q0 : Nat) {ci : Nat} {fs : List Value} {q9 : vw_C} (he : ws[q0]? = some (b, .inr (ci, fs))) (hc : vwCl[ci]? = some q9) (hq : q9.1 = y.cls)
    (hls : ls.size = nL) (hst : st0 = As.reverse ++ .ref b :: rest) (hrm : (rest.map fun v => v.category).sum ≤ 8) (hdg : decode cc pc = .ok (.invokevirtual index, 3)) (hk : cells + mc = k9 ∧ slots + ms = n9) (hf : k9 ≤ R.cells ∧ n9 ≤ R.slots)
    (kk : ∀ (u : S) (H1 : Heap) (locs1 : List Loc), va_P D vwCl (ws' u) H1 → va_D A (ws' u) → va_S A s.heap H1 locs1 → W p l e R s m args below meth c H1 locs1 k9 n9 Q (F0 m (pc + 3) ls (.int (rv u) :: rest))) : W p l e R s m args below meth c H locs cells slots Q (F0 m pc ls st0) := by
  obtain ⟨hn0, hn1⟩ := Bool.and_eq_true_iff.mp hn
  have hrec := va_recv E.2.1 hP hc he
  rw [hq] at hrec
  exact x_joini (va_runV E.1 (hM H.size) ⟨x_callB E k hl hr, E.1.2.2.2.2 _ him, E.1.2.2.2.2 _ hse⟩ ⟨x_blind, hrec, x_pre E (x_subP hP isC hC) (hD.sub isC hn0 hC) hS (va_free (wc := wc) hD hS hA isC hC)⟩ rfl rfl hls hst (lv_room hrm) hdg (by rw [hk.1, hk.2]; exact hf)) hP hD hS hA isC isR hC hR hn1 hw hk kk
theorem x_Vv (E : Ctx p s m args c cc nL own D cyI cyJ Z A) (hM : MetV l y (Cond.code y bytes maxL ret) rm D cyI cyJ Z (.ref b :: As) wc w1 mc ms) (k : OkM y bytes maxL ret As.length) (hl : Cond.methodLink own index y ∈ G) (him : Cond.instanceMethod y ∈ G) (hse : Cond.selects y.cls y y ∈ G) (hr : rm.cells = mc ∧ rm.slots = ms ∧ rm.frames + 1 ≤ R.frames ∧ 8 + (maxL + 11) + rm.locals ≤ R.locals)
    (hP : va_P D vwCl ws H) (hD : va_D A ws) (hS : va_S A s.heap H locs) (hA : ∀ q : Nat, s.heap.size ≤ q → A q)
    (isC isR : List Nat) (hC : isC.map (fun i => ws[i]?) = wc.map some) (hR : isR.map (fun i => ws[i]?) = wr.map some) (hn : (va_nd isC && (va_nd isR && isR.all (fun i => !isC.contains i))) = true) (hw : ∀ u, wr ++ w1 u = ws' u) (q0 : Nat) {ci : Nat} {fs : List Value} {q9 : vw_C} (he : ws[q0]? = some (b, .inr (ci, fs))) (hc : vwCl[ci]? = some q9) (hq : q9.1 = y.cls)
    (hls : ls.size = nL) (hst : st0 = As.reverse ++ .ref b :: rest) (hrm : (rest.map fun v => v.category).sum ≤ 8) (hdg : decode cc pc = .ok (.invokevirtual index, 3)) (hk : cells + mc = k9 ∧ slots + ms = n9) (hf : k9 ≤ R.cells ∧ n9 ≤ R.slots)
    (kk : ∀ (u : S) (H1 : Heap) (locs1 : List Loc), va_P D vwCl (ws' u) H1 → va_D A (ws' u) → va_S A s.heap H1 locs1 → W p l e R s m args below meth c H1 locs1 k9 n9 Q (F0 m (pc + 3) ls rest)) : W p l e R s m args below meth c H locs cells slots Q (F0 m pc ls st0) := by
  obtain ⟨hn0, hn1⟩ := Bool.and_eq_true_iff.mp hn
  have hrec := va_recv E.2.1 hP hc he
  rw [hq] at hrec
  exact x_joinv (va_runV E.1 (hM H.size) ⟨x_callB E k hl hr, E.1.2.2.2.2 _ him, E.1.2.2.2.2 _ hse⟩ ⟨x_blind, hrec, x_pre E (x_subP hP isC hC) (hD.sub isC hn0 hC) hS (va_free (wc := wc) hD hS hA isC hC)⟩ rfl rfl hls hst (lv_room hrm) hdg (by rw [hk.1, hk.2]; exact hf)) hP hD hS hA isC isR hC hR hn1 hw hk kk
/-- invokestatic -/
theorem x_Si (E : Ctx p s m args c cc nL own D cyI cyJ Z A) (hM : MetI l y (Cond.code y bytes maxL ret) rm D cyI cyJ Z As wc rv w1 mc ms) (k : OkM y bytes maxL ret As.length) (hl : Cond.methodLink own index y ∈ G) (hsm : Cond.static y ∈ G) (hr : rm.cells = mc ∧ rm.slots = ms ∧ rm.frames + 1 ≤ R.frames ∧ 8 + (maxL + 11) + rm.locals ≤ R.locals)
    (hP : va_P D vwCl ws H) (hD : va_D A ws) (hS : va_S A s.heap H locs) (hA : ∀ q : Nat, s.heap.size ≤ q → A q)
    (isC isR : List Nat) (hC : isC.map (fun i => ws[i]?) = wc.map some) (hR : isR.map (fun i => ws[i]?) = wr.map some) (hn : (va_nd isC && (va_nd isR && isR.all (fun i => !isC.contains i))) = true) (hw : ∀ u, wr ++ w1 u = ws' u)
    (hls : ls.size = nL) (hst : st0 = As.reverse ++ rest) (hrm : (rest.map fun v => v.category).sum ≤ 8) (hdg : decode cc pc = .ok (.invokestatic index, 3)) (hk : cells + mc = k9 ∧ slots + ms = n9) (hf : k9 ≤ R.cells ∧ n9 ≤ R.slots)
    (kk : ∀ (u : S) (H1 : Heap) (locs1 : List Loc), va_P D vwCl (ws' u) H1 → va_D A (ws' u) → va_S A s.heap H1 locs1 → W p l e R s m args below meth c H1 locs1 k9 n9 Q (F0 m (pc + 3) ls (.int (rv u) :: rest))) : W p l e R s m args below meth c H locs cells slots Q (F0 m pc ls st0) := by
  obtain ⟨hn0, hn1⟩ := Bool.and_eq_true_iff.mp hn
  exact x_joini (va_runS E.1 (hM H.size) ⟨x_callB E k hl hr, E.1.2.2.2.2 _ hsm⟩ ⟨x_blind, x_pre E (x_subP hP isC hC) (hD.sub isC hn0 hC) hS (va_free (wc := wc) hD hS hA isC hC)⟩ rfl rfl hls hst (lv_room hrm) hdg (by rw [hk.1, hk.2]; exact hf)) hP hD hS hA isC isR hC hR hn1 hw hk kk
theorem x_Sv (E : Ctx p s m args c cc nL own D cyI cyJ Z A) (hM : MetV l y (Cond.code y bytes maxL ret) rm D cyI cyJ Z As wc w1 mc ms) (k : OkM y bytes maxL ret As.length) (hl : Cond.methodLink own index y ∈ G) (hsm : Cond.static y ∈ G) (hr : rm.cells = mc ∧ rm.slots = ms ∧ rm.frames + 1 ≤ R.frames ∧ 8 + (maxL + 11) + rm.locals ≤ R.locals)
    (hP : va_P D vwCl ws H) (hD : va_D A ws) (hS : va_S A s.heap H locs) (hA : ∀ q : Nat, s.heap.size ≤ q → A q)
    (isC isR : List Nat) (hC : isC.map (fun i => ws[i]?) = wc.map some) (hR : isR.map (fun i => ws[i]?) = wr.map some) (hn : (va_nd isC && (va_nd isR && isR.all (fun i => !isC.contains i))) = true) (hw : ∀ u, wr ++ w1 u = ws' u)
    (hls : ls.size = nL) (hst : st0 = As.reverse ++ rest) (hrm : (rest.map fun v => v.category).sum ≤ 8) (hdg : decode cc pc = .ok (.invokestatic index, 3)) (hk : cells + mc = k9 ∧ slots + ms = n9) (hf : k9 ≤ R.cells ∧ n9 ≤ R.slots)
    (kk : ∀ (u : S) (H1 : Heap) (locs1 : List Loc), va_P D vwCl (ws' u) H1 → va_D A (ws' u) → va_S A s.heap H1 locs1 → W p l e R s m args below meth c H1 locs1 k9 n9 Q (F0 m (pc + 3) ls rest)) : W p l e R s m args below meth c H locs cells slots Q (F0 m pc ls st0) := by
  obtain ⟨hn0, hn1⟩ := Bool.and_eq_true_iff.mp hn
  exact x_joinv (va_runS E.1 (hM H.size) ⟨x_callB E k hl hr, E.1.2.2.2.2 _ hsm⟩ ⟨x_blind, x_pre E (x_subP hP isC hC) (hD.sub isC hn0 hC) hS (va_free (wc := wc) hD hS hA isC hC)⟩ rfl rfl hls hst (lv_room hrm) hdg (by rw [hk.1, hk.2]; exact hf)) hP hD hS hA isC isR hC hR hn1 hw hk kk
/-- invokespecial of a constructor -/
theorem x_Iv (E : Ctx p s m args c cc nL own D cyI cyJ Z A) (hM : MetV l y (Cond.code y bytes maxL none) rm D cyI cyJ Z (.ref b :: As) wc w1 mc ms) (k : OkM y bytes maxL none As.length) (hl : Cond.methodLink own index y ∈ G) (him : Cond.instanceMethod y ∈ G) (hy1 : y.name = "<init>") (hr : rm.cells = mc ∧ rm.slots = ms ∧ rm.frames + 1 ≤ R.frames ∧ 8 + (maxL + 11) + rm.locals ≤ R.locals)
    (hP : va_P D vwCl ws H) (hD : va_D A ws) (hS : va_S A s.heap H locs) (hA : ∀ q : Nat, s.heap.size ≤ q → A q)
    (isC isR : List Nat) (hC : isC.map (fun i => ws[i]?) = wc.map some) (hR : isR.map (fun i => ws[i]?) = wr.map some) (hn : (va_nd isC && (va_nd isR && isR.all (fun i => !isC.contains i))) = true) (hw : ∀ u, wr ++ w1 u = ws' u)
    (hls : ls.size = nL) (hst : st0 = As.reverse ++ .ref b :: rest) (hrm : (rest.map fun v => v.category).sum ≤ 8) (hdg : decode cc pc = .ok (.invokespecial index, 3)) (hk : cells + mc = k9 ∧ slots + ms = n9) (hf : k9 ≤ R.cells ∧ n9 ≤ R.slots)
    (kk : ∀ (u : S) (H1 : Heap) (locs1 : List Loc), va_P D vwCl (ws' u) H1 → va_D A (ws' u) → va_S A s.heap H1 locs1 → W p l e R s m args below meth c H1 locs1 k9 n9 Q (F0 m (pc + 3) ls rest)) : W p l e R s m args below meth c H locs cells slots Q (F0 m pc ls st0) := by
  obtain ⟨hn0, hn1⟩ := Bool.and_eq_true_iff.mp hn
  exact x_joinv (va_runI E.1 (hM H.size) ⟨x_callB E k hl hr, hy1, E.1.2.2.2.2 _ him⟩ ⟨x_blind, x_pre E (x_subP hP isC hC) (hD.sub isC hn0 hC) hS (va_free (wc := wc) hD hS hA isC hC)⟩ rfl rfl hls hst (lv_room hrm) hdg (by rw [hk.1, hk.2]; exact hf)) hP hD hS hA isC isR hC hR hn1 hw hk kk
end XK
section XL
variable {p : Program} {l : Launch} {e : Env} {R : Room} {s : State} {m : MethodId} {args : Array Value} {below : List Frame} {meth : Method} {c : Code} {H : Heap} {locs : List Loc} {cells slots : Nat} {Q : State → Prop}
variable {cc : ByteArray} {pc : Nat} {ls : Array Slot} {rest st0 : List Value} {D : va_G} {A : Nat → Prop} {a : Nat} {ws ws' : va_W} {H0 : Heap} {cyI cyJ : ClassId} {Z : xZ} {own : String} {nL : Nat}
theorem x_get (E : Ctx p s m args c cc nL own D cyI cyJ Z A) {C : String} {T : u_T} {N ci index : Nat} (hin : ∀ w ∈ u_ws C T N, w ∈ G) (hP : va_P D vwCl ws H) (q0 : Nat) {fs : List Value} (he : ws[q0]? = some (a, .inr (ci, fs))) (hc : vwCl[ci]? = some (C, T, N)) (k : Nat) (hk : k < N) (hl : Cond.fieldLink own index (T k).1 (T k).2.1 (T k).2.2.1 ∈ G) {v : Value} (hv : fs[k]? = some v) (hdg : decode cc pc = .ok (.getfield index, 3))
    (kk : W p l e R s m args below meth c H locs cells slots Q (F0 m (pc + 3) ls (v :: rest))) : W p l e R s m args below meth c H locs cells slots Q (F0 m pc ls (.ref a :: rest)) :=
  va_get E.1.1 E.1.2.1 E.1.2.2.2.2 hin E.1.2.2.2.1 E.2.1 hP q0 he hc k hk (E.1.2.2.2.2 _ hl) (fun _ h => h) hv hdg kk
theorem x_getN (E : Ctx p s m args c cc nL own D cyI cyJ Z A) {C host : String} {T : u_T} {N ci index : Nat} (hin : ∀ w ∈ u_ws C T N, w ∈ G) (hP : va_P D vwCl ws H) (q0 : Nat) {fs : List Value} (he : ws[q0]? = some (a, .inr (ci, fs))) (hc : vwCl[ci]? = some (C, T, N)) (k : Nat) (hk : k < N) (hl : (own, index, (T k).1, (T k).2.1, (T k).2.2.1, host) ∈ xNestL) {v : Value} (hv : fs[k]? = some v) (hdg : decode cc pc = .ok (.getfield index, 3))
    (kk : W p l e R s m args below meth c H locs cells slots Q (F0 m (pc + 3) ls (v :: rest))) : W p l e R s m args below meth c H locs cells slots Q (F0 m pc ls (.ref a :: rest)) :=
  va_getN E.1.1 E.1.2.1 E.1.2.2.2.2 hin E.1.2.2.2.1 E.2.1 hP q0 he hc k hk (va_Nw.use rfl (E.2.2.1.1 _ hl)) (fun _ h => h) hv hdg kk
theorem x_put (E : Ctx p s m args c cc nL own D cyI cyJ Z A) {C : String} {T : u_T} {N ci index : Nat} (hin : ∀ w ∈ u_ws C T N, w ∈ G) (ty0 : Nat → FieldType) (hty : ∀ k, k < N → parseFieldDescriptor (T k).2.2.1 = some (ty0 k)) (hnm : ∀ a, a < N → ∀ b, b < N → a ≠ b → (T a).2.1 ≠ (T b).2.1) (hP : va_P D vwCl ws H) (hD : va_D A ws) (hS : va_S A H0 H locs) (q0 : Nat) {fs : List Value} (he : ws[q0]? = some (a, .inr (ci, fs))) (hc : vwCl[ci]? = some (C, T, N)) (k : Nat) (hk : k < N) (hl : Cond.fieldLink own index (T k).1 (T k).2.1 (T k).2.2.1 ∈ G) (hfin : (T k).2.2.2 = false) {v : Value} (hn : narrow (ty0 k) v = v) (hfit : fits (ty0 k) v = true) (hlt : Nat.ble (k + 1) fs.length = true) (hw : ws.set q0 (a, .inr (ci, fs.set k v)) = ws')
    (hdg : decode cc pc = .ok (.putfield index, 3)) (kk : ∀ (H1 : Heap) (locs1 : List Loc), va_P D vwCl ws' H1 → va_D A ws' → va_S A H0 H1 locs1 → W p l e R s m args below meth c H1 locs1 cells slots Q (F0 m (pc + 3) ls rest)) : W p l e R s m args below meth c H locs cells slots Q (F0 m pc ls (v :: .ref a :: rest)) := by
  subst hw
  exact va_put E.1.1 E.1.2.1 E.1.2.2.2.2 hin ty0 hty hnm E.1.2.2.2.1 E.2.1 hP hD hS q0 he hc k hk (E.1.2.2.2.2 _ hl) (fun _ h => h) hfin (hty k hk) hn hfit (Nat.le_of_ble_eq_true hlt) hdg kk
theorem x_putF (E : Ctx p s m args c cc nL own D cyI cyJ Z A) {C : String} {T : u_T} {N ci index : Nat} (hin : ∀ w ∈ u_ws C T N, w ∈ G) (ty0 : Nat → FieldType) (hty : ∀ k, k < N → parseFieldDescriptor (T k).2.2.1 = some (ty0 k)) (hnm : ∀ a, a < N → ∀ b, b < N → a ≠ b → (T a).2.1 ≠ (T b).2.1) (hP : va_P D vwCl ws H) (hD : va_D A ws) (hS : va_S A H0 H locs) (hnm0 : meth.name = "<init>") (q0 : Nat) {fs : List Value} (he : ws[q0]? = some (a, .inr (ci, fs))) (hc : vwCl[ci]? = some (C, T, N)) (k : Nat) (hk : k < N) (hl : Cond.fieldLink own index (T k).1 (T k).2.1 (T k).2.2.1 ∈ G) (hfin : (T k).2.2.2 = true) (hdecl : (T k).1 = own) {v : Value} (hn : narrow (ty0 k) v = v) (hfit : fits (ty0 k) v = true) (hlt : Nat.ble (k + 1) fs.length = true) (hw : ws.set q0 (a, .inr (ci, fs.set k v)) = ws')
    (hdg : decode cc pc = .ok (.putfield index, 3)) (kk : ∀ (H1 : Heap) (locs1 : List Loc), va_P D vwCl ws' H1 → va_D A ws' → va_S A H0 H1 locs1 → W p l e R s m args below meth c H1 locs1 cells slots Q (F0 m (pc + 3) ls rest)) : W p l e R s m args below meth c H locs cells slots Q (F0 m pc ls (v :: .ref a :: rest)) := by
  subst hw
  exact va_putF E.1.1 E.1.2.1 E.1.2.2.2.2 hin ty0 hty hnm E.1.2.2.2.1 E.2.1 hP hD hS q0 he hc k hk (E.1.2.2.2.2 _ hl) (fun _ h => h) hfin hnm0 hdecl (hty k hk) hn hfit (Nat.le_of_ble_eq_true hlt) hdg kk
theorem x_iald (E : Ctx p s m args c cc nL own D cyI cyJ Z A) (hP : va_P D vwCl ws H) (q0 : Nat) {n : Nat} {f : Nat → Int32} (ha : ws[q0]? = some (a, .inl (cyI, n, .inl f))) {i v : Int32} (hin : ¬ (i < 0 ∨ n ≤ i.toNatClampNeg)) (hv : f i.toNatClampNeg = v) (hdg : decode cc pc = .ok (.iaload, 1))
    (kk : W p l e R s m args below meth c H locs cells slots Q (F0 m (pc + 1) ls (.int v :: rest))) : W p l e R s m args below meth c H locs cells slots Q (F0 m pc ls (.int i :: .ref a :: rest)) := by
  subst hv
  exact va_iald E.1.1 E.1.2.1 E.2.1 hP q0 0 ha rfl hin hdg kk
theorem x_iast (E : Ctx p s m args c cc nL own D cyI cyJ Z A) (hP : va_P D vwCl ws H) (hD : va_D A ws) (hS : va_S A H0 H locs) (q0 : Nat) {n : Nat} {f f' : Nat → Int32} (ha : ws[q0]? = some (a, .inl (cyI, n, .inl f))) {i x : Int32} (hin : ¬ (i < 0 ∨ n ≤ i.toNatClampNeg)) (hf : upd f i.toNatClampNeg x = f') (hw : ws.set q0 (a, .inl (cyI, n, .inl f')) = ws') (hdg : decode cc pc = .ok (.iastore, 1))
    (kk : ∀ (H1 : Heap) (locs1 : List Loc), va_P D vwCl ws' H1 → va_D A ws' → va_S A H0 H1 locs1 → W p l e R s m args below meth c H1 locs1 cells slots Q (F0 m (pc + 1) ls rest)) : W p l e R s m args below meth c H locs cells slots Q (F0 m pc ls (.int x :: .int i :: .ref a :: rest)) := by
  subst hf; subst hw
  exact va_iast E.1.1 E.1.2.1 E.2.1 hP hD hS q0 0 ha rfl hin hdg kk
/-- the same, what the row holds being let go -/
theorem x_iastG (E : Ctx p s m args c cc nL own D cyI cyJ Z A) {wg : (Nat → Int32) → va_W} (hP : va_P D vwCl ws H) (hD : va_D A ws) (hS : va_S A H0 H locs) (q0 : Nat) {n : Nat} {f : Nat → Int32} (ha : ws[q0]? = some (a, .inl (cyI, n, .inl f))) {i x : Int32} (hin : ¬ (i < 0 ∨ n ≤ i.toNatClampNeg)) (hw : ∀ f', ws.set q0 (a, .inl (cyI, n, .inl f')) = wg f') (hdg : decode cc pc = .ok (.iastore, 1))
    (kk : ∀ (f' : Nat → Int32) (H1 : Heap) (locs1 : List Loc), va_P D vwCl (wg f') H1 → va_D A (wg f') → va_S A H0 H1 locs1 → W p l e R s m args below meth c H1 locs1 cells slots Q (F0 m (pc + 1) ls rest)) : W p l e R s m args below meth c H locs cells slots Q (F0 m pc ls (.int x :: .int i :: .ref a :: rest)) :=
  va_iast E.1.1 E.1.2.1 E.2.1 hP hD hS q0 0 ha rfl hin hdg (fun H1 locs1 h1 h2 h3 => kk _ H1 locs1 (by rw [← hw]; exact h1) (by rw [← hw]; exact h2) h3)
theorem x_alen (E : Ctx p s m args c cc nL own D cyI cyJ Z A) (hP : va_P D vwCl ws H) (q0 : Nat) {n : Nat} {f : Nat → Int32} (ha : ws[q0]? = some (a, .inl (cyI, n, .inl f))) {v : Int32} (hv : Int32.ofNat n = v) (hdg : decode cc pc = .ok (.arraylength, 1))
    (kk : W p l e R s m args below meth c H locs cells slots Q (F0 m (pc + 1) ls (.int v :: rest))) : W p l e R s m args below meth c H locs cells slots Q (F0 m pc ls (.ref a :: rest)) :=
  va_alen E.1.1 E.1.2.1 E.2.1 hP q0 0 ha rfl hv hdg kk
theorem x_newI (E : Ctx p s m args c cc nL own D cyI cyJ Z A) {wg : Nat → va_W} {k9 n9 : Nat} (hw9 : Cond.arrayClass .int ∈ G) (hP : va_P D vwCl ws H) (hD : va_D A ws) (hS : va_S A H0 H locs) (hA : ∀ q : Nat, H0.size ≤ q → A q) {n : Int32} (N' : Nat) (hn : ¬ n < 0) (hN : n.toNatClampNeg = N') (hbytes : Nat.ble (N' * 4) 536870912 = true) (hk : cells + 1 = k9 ∧ slots + N' = n9) (hf : k9 ≤ R.cells ∧ n9 ≤ R.slots) (hw : ∀ q, ws ++ [(q, .inl (cyI, N', .inl (fun _ => 0)))] = wg q) (hdg : decode cc pc = .ok (.newarray .int, 2))
    (kk : ∀ (q : Nat) (H1 : Heap), va_P D vwCl (wg q) H1 → va_D A (wg q) → va_S A H0 H1 locs → W p l e R s m args below meth c H1 locs k9 n9 Q (F0 m (pc + 2) ls (.ref q :: rest))) : W p l e R s m args below meth c H locs cells slots Q (F0 m pc ls (.int n :: rest)) := by
  obtain ⟨rfl, rfl⟩ := hk
  refine va_newa (atype := .int) (ty := .int) (a0 := (N', .inl (fun _ => 0))) E.1.1 E.1.2.1 (E.1.2.2.2.2 _ hw9) rfl E.2.1 hP hD hS hA (fun _ => rfl) hn hN (Nat.le_of_ble_eq_true hbytes) hf.1 hf.2 hdg (fun q cA H1 hK1 hP1 hD1 hS1 => ?_)
  have e1 : s.vm.findClass ("[" ++ FieldType.int.toString) = some cA := (hK1.2 2 (cA, .int) rfl).2
  have e2 : s.vm.findClass ("[" ++ FieldType.int.toString) = some cyI := (E.2.1.2 0 (cyI, .int) rfl).2
  have e3 : cA = cyI := Option.some.inj (e1.symm.trans e2)
  subst e3
  exact kk q H1 (by rw [← hw]; exact hP1) (by rw [← hw]; exact hD1) hS1
theorem x_newJ (E : Ctx p s m args c cc nL own D cyI cyJ Z A) {wg : Nat → va_W} {k9 n9 : Nat} (hw9 : Cond.arrayClass .long ∈ G) (hP : va_P D vwCl ws H) (hD : va_D A ws) (hS : va_S A H0 H locs) (hA : ∀ q : Nat, H0.size ≤ q → A q) {n : Int32} (N' : Nat) (hn : ¬ n < 0) (hN : n.toNatClampNeg = N') (hbytes : Nat.ble (N' * 8) 536870912 = true) (hk : cells + 1 = k9 ∧ slots + N' = n9) (hf : k9 ≤ R.cells ∧ n9 ≤ R.slots) (hw : ∀ q, ws ++ [(q, .inl (cyJ, N', .inr (.inl (fun _ => 0))))] = wg q) (hdg : decode cc pc = .ok (.newarray .long, 2))
    (kk : ∀ (q : Nat) (H1 : Heap), va_P D vwCl (wg q) H1 → va_D A (wg q) → va_S A H0 H1 locs → W p l e R s m args below meth c H1 locs k9 n9 Q (F0 m (pc + 2) ls (.ref q :: rest))) : W p l e R s m args below meth c H locs cells slots Q (F0 m pc ls (.int n :: rest)) := by
  obtain ⟨rfl, rfl⟩ := hk
  refine va_newa (atype := .long) (ty := .long) (a0 := (N', .inr (.inl (fun _ => 0)))) E.1.1 E.1.2.1 (E.1.2.2.2.2 _ hw9) rfl E.2.1 hP hD hS hA (fun _ => rfl) hn hN (Nat.le_of_ble_eq_true hbytes) hf.1 hf.2 hdg (fun q cA H1 hK1 hP1 hD1 hS1 => ?_)
  have e1 : s.vm.findClass ("[" ++ FieldType.long.toString) = some cA := (hK1.2 2 (cA, .long) rfl).2
  have e2 : s.vm.findClass ("[" ++ FieldType.long.toString) = some cyJ := (E.2.1.2 1 (cyJ, .long) rfl).2
  have e3 : cA = cyJ := Option.some.inj (e1.symm.trans e2)
  subst e3
  exact kk q H1 (by rw [← hw]; exact hP1) (by rw [← hw]; exact hD1) hS1
theorem x_new (E : Ctx p s m args c cc nL own D cyI cyJ Z A) {wg : Nat → va_W} {k9 n9 : Nat} {C : String} {T : u_T} {N ci index : Nat} (hin : ∀ w ∈ u_ws C T N, w ∈ G) (ty : Nat → FieldType) (hty : ∀ k, k < N → parseFieldDescriptor (T k).2.2.1 = some (ty k)) (hcl : Cond.classLink own index C ∈ G) (hinst : Cond.instantiable C N ∈ G) (hini : Cond.initialized C ∈ G) (hP : va_P D vwCl ws H) (hD : va_D A ws) (hS : va_S A H0 H locs) (hA : ∀ q : Nat, H0.size ≤ q → A q) (hc : vwCl[ci]? = some (C, T, N)) (fs : List Value) (hfs : (List.range N).all (fun j => decide (defaultValue (ty j) = vp_V fs j)) = true) (hk : cells + 1 = k9 ∧ slots + N = n9) (hf : k9 ≤ R.cells ∧ n9 ≤ R.slots) (hw : ∀ q, ws ++ [(q, .inr (ci, fs))] = wg q) (hdg : decode cc pc = .ok (.new index, 3))
    (kk : ∀ (q : Nat) (H1 : Heap), va_P D vwCl (wg q) H1 → va_D A (wg q) → va_S A H0 H1 locs → W p l e R s m args below meth c H1 locs k9 n9 Q (F0 m (pc + 3) ls (.ref q :: rest))) : W p l e R s m args below meth c H locs cells slots Q (F0 m pc ls rest) := by
  obtain ⟨rfl, rfl⟩ := hk
  exact va_new E.1.1 E.1.2.1 E.1.2.2.2.2 hin ty hty E.1.2.2.2.1 (E.1.2.2.2.2 _ hcl) (E.1.2.2.2.2 _ hinst) (E.1.2.2.2.2 _ hini) E.2.1 hP hD hS hA hc (fun j hj => of_decide_eq_true (List.all_eq_true.mp hfs j (List.mem_range.mpr hj))) hf.1 hf.2 hdg (fun q H1 h1 h2 h3 => kk q H1 (by rw [← hw]; exact h1) (by rw [← hw]; exact h2) h3)
theorem x_obj (E : Ctx p s m args c cc nL own D cyI cyJ Z A) {index : Nat} (hl : Cond.methodLink own index objectInit ∈ G) (him : Cond.instanceMethod objectInit ∈ G) (hcd : Cond.code objectInit ⟨#[0xb1]⟩ 1 none ∈ G) (hls : ls.size = nL) (hdg : decode cc pc = .ok (.invokespecial index, 3)) (hfr : 1 ≤ R.frames) (hlo : (rest.map fun v => v.category).sum + 12 ≤ R.locals)
    (kk : W p l e R s m args below meth c H locs cells slots Q (F0 m (pc + 3) ls rest)) : W p l e R s m args below meth c H locs cells slots Q (F0 m pc ls (.ref a :: rest)) :=
  W.objInit E.1.1 E.1.2.1 E.1.2.2.2.1 (E.1.2.2.2.2 _ hl) (E.1.2.2.2.2 _ him) (E.1.2.2.2.2 _ hcd) rfl (hls.trans E.1.2.2.1.symm) rfl hdg hfr (by simpa [JFrame.monitorRoom] using hlo) kk
theorem x_str (E : Ctx p s m args c cc nL own D cyI cyJ Z A) {index : Nat} {tx : String} (hq : (own, index, tx) ∈ xStrL) (hdg : decode cc pc = .ok (.ldc index, 2))
    (kk : ∀ q : Nat, W p l e R s m args below meth c H locs cells slots Q (F0 m (pc + 2) ls (.ref q :: rest))) : W p l e R s m args below meth c H locs cells slots Q (F0 m pc ls rest) := by
  obtain ⟨q, hZ⟩ := E.2.2.1.2 _ hq
  exact va_ldcS E.1.1 E.1.2.1 E.1.2.2.2.1 hZ hdg (kk q)
theorem x_ldc (E : Ctx p s m args c cc nL own D cyI cyJ Z A) {index : Nat} {v : Int32} (hq : Cond.constant own index v ∈ G) (hdg : decode cc pc = .ok (.ldc index, 2))
    (kk : W p l e R s m args below meth c H locs cells slots Q (F0 m (pc + 2) ls (.int v :: rest))) : W p l e R s m args below meth c H locs cells slots Q (F0 m pc ls rest) :=
  lv_ldc E.1.1 E.1.2.1 E.1.2.2.2.1 (E.1.2.2.2.2 _ hq) hdg kk
theorem x_min (E : Ctx p s m args c cc nL own D cyI cyJ Z A) {index : Nat} (hl : Cond.methodLink own index Lib.Math.min.name ∈ G) (hst : Cond.static Lib.Math.min.name ∈ G) (hini : Cond.initialized "java/lang/Math" ∈ G) (hcd : Cond.code Lib.Math.min.name Lib.Math.min.code 2 (some .int) ∈ G) (hls : ls.size = nL) (hfr : 1 ≤ R.frames ∧ (rest.map fun v => v.category).sum + 13 ≤ R.locals ∧ cells ≤ R.cells ∧ slots ≤ R.slots) {x y z : Int32} (hz : (if y < x then y else x) = z) (hdg : decode cc pc = .ok (.invokestatic index, 3))
    (kk : W p l e R s m args below meth c H locs cells slots Q (F0 m (pc + 3) ls (.int z :: rest))) : W p l e R s m args below meth c H locs cells slots Q (F0 m pc ls (.int y :: .int x :: rest)) := by
  subst hz
  exact va_mmin E.1.1 E.1.2.1 (E.1.2.2.1.trans hls.symm) E.1.2.2.2.1 (E.1.2.2.2.2 _ hl) (E.1.2.2.2.2 _ hst) (E.1.2.2.2.2 _ hini) (E.1.2.2.2.2 _ hcd) hfr.1 hfr.2.1 hfr.2.2.1 hfr.2.2.2 hdg kk
theorem x_copy (E : Ctx p s m args c cc nL own D cyI cyJ Z A) {wg : (Nat → Int32) → va_W} {index : Nat} (hl : Cond.methodLink own index arraycopyName ∈ G) (hnat : Cond.native arraycopyName ∈ G) (hst : Cond.static arraycopyName ∈ G) (hini : Cond.initialized "java/lang/System" ∈ G) (hP : va_P D vwCl ws H) (hD : va_D A ws) (hS : va_S A H0 H locs) (hls : ls.size = nL) (q0 q1 : Nat) {a0 : Nat} {n0 n1 : Nat} {f g : Nat → Int32} (ha0 : ws[q0]? = some (a0, .inl (cyI, n0, .inl f))) (ha1 : ws[q1]? = some (a, .inl (cyI, n1, .inl g)))
    {sp dp n : Int32} (h1 : ¬ sp < 0 ∧ ¬ dp < 0 ∧ ¬ n < 0 ∧ sp.toNatClampNeg + n.toNatClampNeg ≤ n0 ∧ dp.toNatClampNeg + n.toNatClampNeg ≤ n1) (hfr : 1 ≤ R.frames ∧ (rest.map fun v => v.category).sum + (nativeFrameWords "java/lang/System" "arraycopy" 5 + 11) ≤ R.locals) (hw : ∀ g', ws.set q1 (a, .inl (cyI, n1, .inl g')) = wg g') (hdg : decode cc pc = .ok (.invokestatic index, 3))
    (kk : ∀ (g' : Nat → Int32) (H1 : Heap) (locs1 : List Loc), va_P D vwCl (wg g') H1 → va_D A (wg g') → va_S A H0 H1 locs1 → W p l e R s m args below meth c H1 locs1 cells slots Q (F0 m (pc + 3) ls rest)) : W p l e R s m args below meth c H locs cells slots Q (F0 m pc ls (.int n :: .int dp :: .ref a :: .int sp :: .ref a0 :: rest)) :=
  va_copyi (ty := .int) E.1.1 E.1.2.1 (E.1.2.2.1.trans hls.symm) E.1.2.2.2.1 (E.1.2.2.2.2 _ hl) (E.1.2.2.2.2 _ hnat) (E.1.2.2.2.2 _ hst) (E.1.2.2.2.2 _ hini) E.2.1 hP hD hS q0 q1 0 0 ha0 ha1 rfl rfl rfl h1.1 h1.2.1 h1.2.2.1 h1.2.2.2.1 h1.2.2.2.2 (fun _ _ => rfl) hfr.1 hfr.2 hdg (fun H1 locs1 h1 h2 h3 => kk _ H1 locs1 (by rw [← hw]; exact h1) (by rw [← hw]; exact h2) h3)
theorem x_topi {x z : Int32} (h : x = z) (kk : W p l e R s m args below meth c H locs cells slots Q (F0 m pc ls (.int z :: rest))) : W p l e R s m args below meth c H locs cells slots Q (F0 m pc ls (.int x :: rest)) := h ▸ kk
variable {S : Type} {rv : S → Int32} {w1 : S → va_W} {v : Int32} {rt : FieldType}
theorem x_iret (E : Ctx p s m args c cc nL own D cyI cyJ Z A) (hr : meth.sig.returnType = some rt) (hlk : meth.locks = false) (hP : va_P D vwCl ws H) (hD : va_D A ws) (hS : va_S A s.heap H locs) (u : S) (hp : v = rv u) (is : List Nat) (hn : va_nd is = true) (hs : is.map (fun i => ws[i]?) = (w1 u).map some) (hnr : narrow rt (.int v) = .int v) (hdg : decode cc pc = .ok (.ireturn, 1)) :
    W p l e R s m args below meth c H locs cells slots (MQ below (va_Qi (fun r u => r = rv u) (BW D A w1) A) args s cells slots A) (F0 m pc ls [.int v]) :=
  W.zret E.1.1 E.1.2.1 hr hnr (fun t ht hW => ⟨⟨v, u, rfl, hp, by rw [ht]; exact x_subP hP is hs, hD.sub is hn hs⟩, hS.F ht⟩) hS.2.2 hdg hlk
theorem x_vret (E : Ctx p s m args c cc nL own D cyI cyJ Z A) (hr : meth.sig.returnType = none) (hlk : meth.locks = false) (hP : va_P D vwCl ws H) (hD : va_D A ws) (hS : va_S A s.heap H locs) (u : S) (is : List Nat) (hn : va_nd is = true) (hs : is.map (fun i => ws[i]?) = (w1 u).map some) (hdg : decode cc pc = .ok (.return_, 1)) :
    W p l e R s m args below meth c H locs cells slots (MQ below (va_Qv (fun _ => True) (BW D A w1) A) args s cells slots A) (F0 m pc ls []) :=
  W.vret E.1.1 E.1.2.1 hr (fun t ht hW => ⟨⟨u, rfl, trivial, by rw [ht]; exact x_subP hP is hs, hD.sub is hn hs⟩, hS.F ht⟩) hS.2.2 hdg hlk
end XL
theorem met_i {l : Launch} {y : MethodName} {bytes : ByteArray} {maxL : Nat} {rm : Room} {D : va_G} {cyI cyJ : ClassId} {Z : xZ} {av : List Value} {wc : va_W} {S : Type} {rv : S → Int32} {w1 : S → va_W} {mc ms : Nat} {rt : FieldType} (hy : plainName y.cls = true) (hlen : Nat.ble (lg_sl av).length maxL = true)
    (body : ∀ (p : Program) (e : Env) (s : State) (m : MethodId) (below : List Frame) (meth : Method) (c : Code) (A : Nat → Prop) (ls : Array Slot), Ctx p s m av.toArray c bytes maxL y.cls D cyI cyJ Z A → meth.sig.returnType = some rt → meth.locks = false → va_P D vwCl wc s.heap → va_D A wc → (∀ q : Nat, s.heap.size ≤ q → A q) → lv_has ls maxL (lv_args 0 av) → W p l e rm s m av.toArray below meth c s.heap [] 0 0 (MQ below (va_Qi (fun r u => r = rv u) (BW D A w1) A) av.toArray s mc ms A) (F0 m 0 ls [])) :
    MetI l y (Cond.code y bytes maxL (some rt)) rm D cyI cyJ Z av wc rv w1 mc ms := by
  intro sz
  refine Met.ofW (cc := bytes) (maxL := maxL) (ret := some rt) hy rfl ?_
  intro p e s m args below meth c s₁ B hml hv
  obtain ⟨rfl, hsz, hP, hK, hD0, hN, hF⟩ := hv
  subst hsz
  have hts := atoms_spec (ws := Cond.code y bytes maxL (some rt) :: G) B.pre
  have hl := lv_entry av (n := maxL) (Nat.le_of_ble_eq_true hlen)
  rw [lg_entry_eq]
  generalize (lg_sl av ++ List.replicate (maxL - (lg_sl av).length) Slot.unset).toArray = ls at hl ⊢
  exact body p e s m below meth c _ ls ⟨⟨B.exec, B.bytes, hml, findClass_of_methodNamed B.named, fun w h => hts w (List.mem_cons_of_mem _ h)⟩, hK, hN, hF⟩ B.returns B.notSynchronized hP hD0.self (fun q h => Or.inr h) hl
theorem met_v {l : Launch} {y : MethodName} {bytes : ByteArray} {maxL : Nat} {rm : Room} {D : va_G} {cyI cyJ : ClassId} {Z : xZ} {av : List Value} {wc : va_W} {S : Type} {w1 : S → va_W} {mc ms : Nat} (hy : plainName y.cls = true) (hlen : Nat.ble (lg_sl av).length maxL = true)
    (body : ∀ (p : Program) (e : Env) (s : State) (m : MethodId) (below : List Frame) (meth : Method) (c : Code) (A : Nat → Prop) (ls : Array Slot), Ctx p s m av.toArray c bytes maxL y.cls D cyI cyJ Z A → meth.sig.returnType = none → meth.locks = false → meth.name = y.name → va_P D vwCl wc s.heap → va_D A wc → (∀ q : Nat, s.heap.size ≤ q → A q) → lv_has ls maxL (lv_args 0 av) → W p l e rm s m av.toArray below meth c s.heap [] 0 0 (MQ below (va_Qv (fun _ => True) (BW D A w1) A) av.toArray s mc ms A) (F0 m 0 ls [])) :
    MetV l y (Cond.code y bytes maxL none) rm D cyI cyJ Z av wc w1 mc ms := by
  intro sz
  refine Met.ofW (cc := bytes) (maxL := maxL) (ret := none) hy rfl ?_
  intro p e s m args below meth c s₁ B hml hv
  obtain ⟨rfl, hsz, hP, hK, hD0, hN, hF⟩ := hv
  subst hsz
  have hts := atoms_spec (ws := Cond.code y bytes maxL none :: G) B.pre
  have hl := lv_entry av (n := maxL) (Nat.le_of_ble_eq_true hlen)
  rw [lg_entry_eq]
  generalize (lg_sl av ++ List.replicate (maxL - (lg_sl av).length) Slot.unset).toArray = ls at hl ⊢
  exact body p e s m below meth c _ ls ⟨⟨B.exec, B.bytes, hml, findClass_of_methodNamed B.named, fun w h => hts w (List.mem_cons_of_mem _ h)⟩, hK, hN, hF⟩ B.returns B.notSynchronized (name_of_methodNamed B.named B.method).1 hP hD0.self (fun q h => Or.inr h) hl
theorem kJ0_charAt_5068e : OkM yJ0_charAt_5068e cJ0_charAt_5068e 2 (some .char) 1 := ⟨wq198, wq199, by decide +kernel⟩
theorem kJ0_checkIndex_df160 : OkM yJ0_checkIndex_df160 cJ0_checkIndex_df160 2 none 2 := ⟨wq200, wq199, by decide +kernel⟩
theorem kJ0_coder_7d493 : OkM yJ0_coder_7d493 cJ0_coder_7d493 1 (some .byte) 0 := ⟨wq201, wq199, by decide +kernel⟩
theorem kJ0_isLatin1_aae02 : OkM yJ0_isLatin1_aae02 cJ0_isLatin1_aae02 1 (some .boolean) 0 := ⟨wq202, wq199, by decide +kernel⟩
theorem kJ0_length_8abf5 : OkM yJ0_length_8abf5 cJ0_length_8abf5 1 (some .int) 0 := ⟨wq203, wq199, by decide +kernel⟩
theorem kJ1_charAt_3b067 : OkM yJ1_charAt_3b067 cJ1_charAt_3b067 2 (some .char) 2 := ⟨wq204, wq205, by decide +kernel⟩
theorem kJ3_checkIndex_8e157 : OkM yJ3_checkIndex_8e157 cJ3_checkIndex_8e157 3 (some .int) 3 := ⟨wq206, wq207, by decide +kernel⟩
theorem kJ7_fill_53178 : OkM yJ7_fill_53178 cJ7_fill_53178 4 none 2 := ⟨wq208, wq209, by decide +kernel⟩
theorem kX0_init : OkM yX0_init cX0_init 1 none 0 := ⟨wq210, wq7, by decide +kernel⟩
theorem kX0_link : OkM yX0_link cX0_link 3 none 1 := ⟨wq211, wq7, by decide +kernel⟩
theorem kX0_measure : OkM yX0_measure cX0_measure 6 none 1 := ⟨wq212, wq7, by decide +kernel⟩
theorem kX0_node : OkM yX0_node cX0_node 8 (some .int) 4 := ⟨wq213, wq7, by decide +kernel⟩
theorem kX10_init : OkM yX10_init cX10_init 3 none 2 := ⟨wq214, wq154, by decide +kernel⟩
theorem kX11_init : OkM yX11_init cX11_init 1 none 0 := ⟨wq215, wq216, by decide +kernel⟩
theorem kX12_init : OkM yX12_init cX12_init 1 none 0 := ⟨wq217, wq218, by decide +kernel⟩
theorem kX1_init : OkM yX1_init cX1_init 3 none 2 := ⟨wq219, wq125, by decide +kernel⟩
theorem kX2_init : OkM yX2_init cX2_init 6 none 5 := ⟨wq220, wq137, by decide +kernel⟩
theorem kX3_init : OkM yX3_init cX3_init 4 none 3 := ⟨wq221, wq73, by decide +kernel⟩
theorem kX4_init : OkM yX4_init cX4_init 7 none 6 := ⟨wq222, wq112, by decide +kernel⟩
theorem kX5_init : OkM yX5_init cX5_init 4 none 3 := ⟨wq223, wq63, by decide +kernel⟩
theorem kX6_init : OkM yX6_init cX6_init 5 none 4 := ⟨wq224, wq98, by decide +kernel⟩
theorem kX7_init : OkM yX7_init cX7_init 2 none 1 := ⟨wq225, wq39, by decide +kernel⟩
theorem kX8_init : OkM yX8_init cX8_init 7 none 1 := ⟨wq226, wq86, by decide +kernel⟩
theorem kX8_isLetter : OkM yX8_isLetter cX8_isLetter 1 (some .boolean) 1 := ⟨wq227, wq86, by decide +kernel⟩
theorem kX8_padded : OkM yX8_padded cX8_padded 4 (some .int) 2 := ⟨wq228, wq86, by decide +kernel⟩
theorem kX9_init : OkM yX9_init cX9_init 2 none 1 := ⟨wq229, wq47, by decide +kernel⟩
end
section
/-! Rows by hand: Arrays.fill, the loop over WORDS. -/
theorem mJ7_fill (l : Launch) (D : va_G) (cyI cyJ : ClassId) (Z : xZ) (h0 n : Nat) (hn : n < 2 ^ 31) (f : Nat → Int32) (x : Int32) : MetV l yJ7_fill_53178 (Cond.code yJ7_fill_53178 cJ7_fill_53178 4 none) { frames := 0, cells := 0, slots := 0, locals := 0 } D cyI cyJ Z [.ref h0, .int x] [(h0, .inl (cyI, n, .inl f))] (fun _ : Unit => ([(h0, .inl (cyI, n, .inl (fun _ => x)))] : va_W)) 0 0 := by
  sorry
section X8
variable {p : Program} {l : Launch} {e : Env} {R : Room} {s : State} {m : MethodId} {args : Array Value} {below : List Frame} {meth : Method} {c : Code} {H : Heap} {locs : List Loc} {cells slots : Nat} {Q : State → Prop}
variable {ls : Array Slot} {D : va_G} {A : Nat → Prop} {cyI cyJ : ClassId} {Z : xZ}
theorem x8_loop {wg : (Nat → Int32) → va_W} {h0 h1 a1 : Nat} {fs : List Value} {f : Nat → Int32} (E : Ctx p s m args c cX8_init 7 RX8 D cyI cyJ Z A) (hfr : 9 ≤ R.frames) (hlo : 400 ≤ R.locals) (hD : va_D A (wg f)) (hS : va_S A s.heap H locs) (hA : ∀ q : Nat, s.heap.size ≤ q → A q) (k0 k1 : Nat) (h0w : ∀ f, (wg f)[k0]? = some (h0, .inr (8, fs))) (hf1 : fs[1]? = some (.ref a1)) (h1w : ∀ f, (wg f)[k1]? = some (a1, .inl (cyI, 25, .inl f))) (hset : ∀ f f', (wg f).set k1 (a1, .inl (cyI, 25, .inl f')) = wg f')
    (kk : ∀ (g : Nat → Int32) (H1 : Heap) (locs1 : List Loc) (ls1 : Array Slot), va_P D vwCl (wg g) H1 → va_D A (wg g) → va_S A s.heap H1 locs1 → lv_has ls1 7 [(0, .ref h0)] → W p l e R s m args below meth c H1 locs1 cells slots Q (F0 m 133 ls1 []))
    (hP : va_P D vwCl (wg f) H) (hl : lv_has ls 7 [(5, .int 0), (4, .int 0), (3, .int 0), (2, .int 0), (0, .ref h0), (1, .ref h1)]) : W p l e R s m args below meth c H locs cells slots Q (F0 m 54 ls []) := by
  sorry
end X8
end
section
set_option maxHeartbeats 4000000 in
set_option maxRecDepth 100000 in
theorem mX0_link (l : Launch) (D : va_G) (cyI cyJ : ClassId) (Z : xZ) (h0 : Nat) (h1 : Nat) (h2 : Nat) (h3 : Nat) (v0_0 : Value) (v0_1 : Value) (v0_2 : Value) (v0_3 : Value) (v0_4 : Value) (v0_5 : Value) (v0_6 : Value) (v0_7 : Value) (v0_10 : Value) (v0_12 : Value) (v0_13 : Value) (f3 : Nat → Int32) : MetV l yX0_link (Cond.code yX0_link cX0_link 3 none) { frames := 0, cells := 0, slots := 0, locals := 0 } D cyI cyJ Z [.ref h0, .int 0] [(h0, .inr (0, [v0_0, v0_1, v0_2, v0_3, v0_4, v0_5, v0_6, v0_7, .ref h1, .ref h3, v0_10, .ref h2, v0_12, v0_13])), (h1, .inl (cyI, 512, .inl (upd (fun _ => 0) 0 0))), (h2, .inl (cyI, 512, .inl (fun _ => -1))), (h3, .inl (cyI, 512, .inl f3))] (fun _ : Unit => ([(h0, .inr (0, [v0_0, v0_1, v0_2, v0_3, v0_4, v0_5, v0_6, v0_7, .ref h1, .ref h3, v0_10, .ref h2, v0_12, v0_13])), (h1, .inl (cyI, 512, .inl (upd (fun _ => 0) 0 0))), (h2, .inl (cyI, 512, .inl (upd (fun _ => -1) 0 0))), (h3, .inl (cyI, 512, .inl (upd f3 0 (-1))))] : va_W)) 0 0 := by
  refine met_v (by decide) rfl ?_
  intro p e s m below meth c A ls E hr hlk hnm hP hD hA hl
  have hS : va_S A s.heap s.heap [] := va_S.rf
  have hx := E.1.1
  have hb := E.1.2.1
  have hl : lv_has ls 3 [(0, .ref h0), (1, .int 0)] := hl
  refine lv_aload_n hx hb dX0_link_0 rfl (lv_at hl 0 rfl) ?_
  refine x_get E iX0 hP 0 rfl rfl 8 (by decide) wq17 rfl dX0_link_1 ?_
  refine lv_iload_n hx hb dX0_link_4 rfl (lv_at hl 1 rfl) ?_
  refine x_iald (v := 0) E hP 1 rfl (by decide) rfl dX0_link_5 ?_
  refine lv_aload_n hx hb dX0_link_6 rfl (lv_at hl 0 rfl) ?_
  refine x_get E iX0 hP 0 rfl rfl 11 (by decide) wq20 rfl dX0_link_7 ?_
  refine x_alen (v := 512) E hP 2 rfl (by decide) dX0_link_10 ?_
  refine lv_iconst (v := 1) hx hb dX0_link_11 (by decide) ?_
  refine lv_isub hx hb dX0_link_12 ?_
  refine x_topi (z := 511) (by decide) ?_
  refine lv_iand hx hb dX0_link_13 ?_
  refine x_topi (z := 0) (by decide) ?_
  refine lv_istore_n (lv' := [(2, .int 0), (0, .ref h0), (1, .int 0)]) hx hb dX0_link_14 rfl hl (by decide) rfl (fun ls hl => ?_)
  refine lv_aload_n hx hb dX0_link_15 rfl (lv_at hl 1 rfl) ?_
  refine x_get E iX0 hP 0 rfl rfl 9 (by decide) wq18 rfl dX0_link_16 ?_
  refine lv_iload_n hx hb dX0_link_19 rfl (lv_at hl 2 rfl) ?_
  refine lv_aload_n hx hb dX0_link_20 rfl (lv_at hl 1 rfl) ?_
  refine x_get E iX0 hP 0 rfl rfl 11 (by decide) wq20 rfl dX0_link_21 ?_
  refine lv_iload_n hx hb dX0_link_24 rfl (lv_at hl 0 rfl) ?_
  refine x_iald (v := (-1)) E hP 2 rfl (by decide) rfl dX0_link_25 ?_
  refine x_iast (ws' := [(h0, .inr (0, [v0_0, v0_1, v0_2, v0_3, v0_4, v0_5, v0_6, v0_7, .ref h1, .ref h3, v0_10, .ref h2, v0_12, v0_13])), (h1, .inl (cyI, 512, .inl (upd (fun _ => 0) 0 0))), (h2, .inl (cyI, 512, .inl (fun _ => -1))), (h3, .inl (cyI, 512, .inl (upd f3 0 (-1))))]) E hP hD hS 3 rfl (by decide) rfl rfl dX0_link_26 (fun H locs hP hD hS => ?_)
  refine lv_aload_n hx hb dX0_link_27 rfl (lv_at hl 1 rfl) ?_
  refine x_get E iX0 hP 0 rfl rfl 11 (by decide) wq20 rfl dX0_link_28 ?_
  refine lv_iload_n hx hb dX0_link_31 rfl (lv_at hl 0 rfl) ?_
  refine lv_iload_n hx hb dX0_link_32 rfl (lv_at hl 2 rfl) ?_
  refine x_iast (ws' := [(h0, .inr (0, [v0_0, v0_1, v0_2, v0_3, v0_4, v0_5, v0_6, v0_7, .ref h1, .ref h3, v0_10, .ref h2, v0_12, v0_13])), (h1, .inl (cyI, 512, .inl (upd (fun _ => 0) 0 0))), (h2, .inl (cyI, 512, .inl (upd (fun _ => -1) 0 0))), (h3, .inl (cyI, 512, .inl (upd f3 0 (-1))))]) E hP hD hS 2 rfl (by decide) rfl rfl dX0_link_33 (fun H locs hP hD hS => ?_)
  exact x_vret E hr hlk hP hD hS () [0, 1, 2, 3] (by decide) rfl dX0_link_34

set_option maxHeartbeats 4000000 in
set_option maxRecDepth 100000 in
theorem mX0_measure (l : Launch) (D : va_G) (cyI cyJ : ClassId) (Z : xZ) (h0 : Nat) (h1 : Nat) (h2 : Nat) (h3 : Nat) (h4 : Nat) (h5 : Nat) (h6 : Nat) (h7 : Nat) (v0_3 : Value) (v0_8 : Value) (v0_9 : Value) (v0_10 : Value) (v0_11 : Value) (v0_12 : Value) (v0_13 : Value) (f4 : Nat → Int32) (f5 : Nat → Int32) (f6 : Nat → Int32) (f7 : Nat → Int32) : MetV l yX0_measure (Cond.code yX0_measure cX0_measure 6 none) { frames := 0, cells := 0, slots := 0, locals := 0 } D cyI cyJ Z [.ref h0, .int 0] [(h0, .inr (0, [.ref h3, .ref h2, .ref h1, v0_3, .ref h6, .ref h7, .ref h4, .ref h5, v0_8, v0_9, v0_10, v0_11, v0_12, v0_13])), (h1, .inl (cyI, 512, .inl (upd (fun _ => 0) 0 0))), (h2, .inl (cyI, 512, .inl (upd (fun _ => 0) 0 0))), (h3, .inl (cyI, 512, .inl (upd (fun _ => 0) 0 0))), (h4, .inl (cyI, 512, .inl f4)), (h5, .inl (cyI, 512, .inl f5)), (h6, .inl (cyI, 512, .inl f6)), (h7, .inl (cyI, 512, .inl f7))] (fun _ : Unit => ([(h0, .inr (0, [.ref h3, .ref h2, .ref h1, v0_3, .ref h6, .ref h7, .ref h4, .ref h5, v0_8, v0_9, v0_10, v0_11, v0_12, v0_13])), (h1, .inl (cyI, 512, .inl (upd (fun _ => 0) 0 0))), (h2, .inl (cyI, 512, .inl (upd (fun _ => 0) 0 0))), (h3, .inl (cyI, 512, .inl (upd (fun _ => 0) 0 0))), (h4, .inl (cyI, 512, .inl (upd f4 0 0))), (h5, .inl (cyI, 512, .inl (upd f5 0 0))), (h6, .inl (cyI, 512, .inl (upd (upd f6 0 1) 0 0))), (h7, .inl (cyI, 512, .inl (upd f7 0 0)))] : va_W)) 0 0 := by
  refine met_v (by decide) rfl ?_
  intro p e s m below meth c A ls E hr hlk hnm hP hD hA hl
  have hS : va_S A s.heap s.heap [] := va_S.rf
  have hx := E.1.1
  have hb := E.1.2.1
  have hl : lv_has ls 6 [(0, .ref h0), (1, .int 0)] := hl
  refine lv_aload_n hx hb dX0_measure_0 rfl (lv_at hl 0 rfl) ?_
  refine x_get E iX0 hP 0 rfl rfl 2 (by decide) wq11 rfl dX0_measure_1 ?_
  refine lv_iload_n hx hb dX0_measure_4 rfl (lv_at hl 1 rfl) ?_
  refine x_iald (v := 0) E hP 1 rfl (by decide) rfl dX0_measure_5 ?_
  refine lv_istore_n (lv' := [(2, .int 0), (0, .ref h0), (1, .int 0)]) hx hb dX0_measure_6 rfl hl (by decide) rfl (fun ls hl => ?_)
  refine lv_aload_n hx hb dX0_measure_7 rfl (lv_at hl 1 rfl) ?_
  refine x_get E iX0 hP 0 rfl rfl 1 (by decide) wq10 rfl dX0_measure_8 ?_
  refine lv_iload_n hx hb dX0_measure_11 rfl (lv_at hl 2 rfl) ?_
  refine x_iald (v := 0) E hP 2 rfl (by decide) rfl dX0_measure_12 ?_
  refine lv_if_lt (tgt := 35) hx hb dX0_measure_13 (by decide) (fun c9 => absurd c9 (by decide)) (fun c9 => ?_)
  refine lv_aload_n hx hb dX0_measure_16 rfl (lv_at hl 1 rfl) ?_
  refine x_get E iX0 hP 0 rfl rfl 1 (by decide) wq10 rfl dX0_measure_17 ?_
  refine lv_iload_n hx hb dX0_measure_20 rfl (lv_at hl 2 rfl) ?_
  refine x_iald (v := 0) E hP 2 rfl (by decide) rfl dX0_measure_21 ?_
  refine lv_iload_n hx hb dX0_measure_22 rfl (lv_at hl 2 rfl) ?_
  refine lv_icmp_ge (tgt := 35) hx hb dX0_measure_23 (by decide) (fun c9 => ?_) (fun c9 => absurd (by decide) c9)
  refine lv_iconst (v := 0) hx hb dX0_measure_35 (by decide) ?_
  refine lv_istore_n (lv' := [(3, .int 0), (2, .int 0), (0, .ref h0), (1, .int 0)]) hx hb dX0_measure_36 rfl hl (by decide) rfl (fun ls hl => ?_)
  refine lv_iload_n hx hb dX0_measure_37 rfl (lv_at hl 1 rfl) ?_
  refine lv_if_lt (tgt := 50) hx hb dX0_measure_38 (by decide) (fun c9 => absurd c9 (by decide)) (fun c9 => ?_)
  refine lv_iload_n hx hb dX0_measure_41 rfl (lv_at hl 1 rfl) ?_
  refine lv_iload_n hx hb dX0_measure_42 rfl (lv_at hl 3 rfl) ?_
  refine lv_icmp_ge (tgt := 50) hx hb dX0_measure_43 (by decide) (fun c9 => ?_) (fun c9 => absurd (by decide) c9)
  refine lv_iconst (v := 0) hx hb dX0_measure_50 (by decide) ?_
  refine lv_istore (lv' := [(4, .int 0), (3, .int 0), (2, .int 0), (0, .ref h0), (1, .int 0)]) hx hb dX0_measure_51 hl (by decide) rfl (fun ls hl => ?_)
  refine lv_aload_n hx hb dX0_measure_53 rfl (lv_at hl 3 rfl) ?_
  refine x_get E iX0 hP 0 rfl rfl 0 (by decide) wq9 rfl dX0_measure_54 ?_
  refine lv_iload_n hx hb dX0_measure_57 rfl (lv_at hl 4 rfl) ?_
  refine x_iald (v := 0) E hP 3 rfl (by decide) rfl dX0_measure_58 ?_
  refine lv_bipush (v := 7) hx hb dX0_measure_59 (by decide) ?_
  refine lv_icmp_lt (tgt := 68) hx hb dX0_measure_61 (by decide) (fun c9 => ?_) (fun c9 => absurd (by decide) c9)
  refine lv_iconst (v := 0) hx hb dX0_measure_68 (by decide) ?_
  refine lv_istore (lv' := [(5, .int 0), (4, .int 0), (3, .int 0), (2, .int 0), (0, .ref h0), (1, .int 0)]) hx hb dX0_measure_69 hl (by decide) rfl (fun ls hl => ?_)
  refine lv_aload_n hx hb dX0_measure_71 rfl (lv_at hl 4 rfl) ?_
  refine x_get E iX0 hP 0 rfl rfl 6 (by decide) wq15 rfl dX0_measure_72 ?_
  refine lv_iload_n hx hb dX0_measure_75 rfl (lv_at hl 5 rfl) ?_
  refine lv_iload hx hb dX0_measure_76 (lv_at hl 0 rfl) ?_
  refine lv_if_eq (tgt := 98) hx hb dX0_measure_78 (by decide) (fun c9 => ?_) (fun c9 => absurd (by decide) c9)
  refine lv_iconst (v := 0) hx hb dX0_measure_98 (by decide) ?_
  refine x_iast (ws' := [(h0, .inr (0, [.ref h3, .ref h2, .ref h1, v0_3, .ref h6, .ref h7, .ref h4, .ref h5, v0_8, v0_9, v0_10, v0_11, v0_12, v0_13])), (h1, .inl (cyI, 512, .inl (upd (fun _ => 0) 0 0))), (h2, .inl (cyI, 512, .inl (upd (fun _ => 0) 0 0))), (h3, .inl (cyI, 512, .inl (upd (fun _ => 0) 0 0))), (h4, .inl (cyI, 512, .inl (upd f4 0 0))), (h5, .inl (cyI, 512, .inl f5)), (h6, .inl (cyI, 512, .inl f6)), (h7, .inl (cyI, 512, .inl f7))]) E hP hD hS 4 rfl (by decide) rfl rfl dX0_measure_99 (fun H locs hP hD hS => ?_)
  refine lv_aload_n hx hb dX0_measure_100 rfl (lv_at hl 4 rfl) ?_
  refine x_get E iX0 hP 0 rfl rfl 7 (by decide) wq16 rfl dX0_measure_101 ?_
  refine lv_iload_n hx hb dX0_measure_104 rfl (lv_at hl 5 rfl) ?_
  refine lv_iload hx hb dX0_measure_105 (lv_at hl 0 rfl) ?_
  refine lv_if_eq (tgt := 127) hx hb dX0_measure_107 (by decide) (fun c9 => ?_) (fun c9 => absurd (by decide) c9)
  refine lv_iconst (v := 0) hx hb dX0_measure_127 (by decide) ?_
  refine x_iast (ws' := [(h0, .inr (0, [.ref h3, .ref h2, .ref h1, v0_3, .ref h6, .ref h7, .ref h4, .ref h5, v0_8, v0_9, v0_10, v0_11, v0_12, v0_13])), (h1, .inl (cyI, 512, .inl (upd (fun _ => 0) 0 0))), (h2, .inl (cyI, 512, .inl (upd (fun _ => 0) 0 0))), (h3, .inl (cyI, 512, .inl (upd (fun _ => 0) 0 0))), (h4, .inl (cyI, 512, .inl (upd f4 0 0))), (h5, .inl (cyI, 512, .inl (upd f5 0 0))), (h6, .inl (cyI, 512, .inl f6)), (h7, .inl (cyI, 512, .inl f7))]) E hP hD hS 5 rfl (by decide) rfl rfl dX0_measure_128 (fun H locs hP hD hS => ?_)
  refine lv_aload_n hx hb dX0_measure_129 rfl (lv_at hl 4 rfl) ?_
  refine x_get E iX0 hP 0 rfl rfl 4 (by decide) wq13 rfl dX0_measure_130 ?_
  refine lv_iload_n hx hb dX0_measure_133 rfl (lv_at hl 5 rfl) ?_
  refine lv_iconst (v := 1) hx hb dX0_measure_134 (by decide) ?_
  refine x_iast (ws' := [(h0, .inr (0, [.ref h3, .ref h2, .ref h1, v0_3, .ref h6, .ref h7, .ref h4, .ref h5, v0_8, v0_9, v0_10, v0_11, v0_12, v0_13])), (h1, .inl (cyI, 512, .inl (upd (fun _ => 0) 0 0))), (h2, .inl (cyI, 512, .inl (upd (fun _ => 0) 0 0))), (h3, .inl (cyI, 512, .inl (upd (fun _ => 0) 0 0))), (h4, .inl (cyI, 512, .inl (upd f4 0 0))), (h5, .inl (cyI, 512, .inl (upd f5 0 0))), (h6, .inl (cyI, 512, .inl (upd f6 0 1))), (h7, .inl (cyI, 512, .inl f7))]) E hP hD hS 6 rfl (by decide) rfl rfl dX0_measure_135 (fun H locs hP hD hS => ?_)
  refine lv_aload_n hx hb dX0_measure_136 rfl (lv_at hl 4 rfl) ?_
  refine x_get E iX0 hP 0 rfl rfl 5 (by decide) wq14 rfl dX0_measure_137 ?_
  refine lv_iload_n hx hb dX0_measure_140 rfl (lv_at hl 5 rfl) ?_
  refine lv_iconst (v := 0) hx hb dX0_measure_141 (by decide) ?_
  refine x_iast (ws' := [(h0, .inr (0, [.ref h3, .ref h2, .ref h1, v0_3, .ref h6, .ref h7, .ref h4, .ref h5, v0_8, v0_9, v0_10, v0_11, v0_12, v0_13])), (h1, .inl (cyI, 512, .inl (upd (fun _ => 0) 0 0))), (h2, .inl (cyI, 512, .inl (upd (fun _ => 0) 0 0))), (h3, .inl (cyI, 512, .inl (upd (fun _ => 0) 0 0))), (h4, .inl (cyI, 512, .inl (upd f4 0 0))), (h5, .inl (cyI, 512, .inl (upd f5 0 0))), (h6, .inl (cyI, 512, .inl (upd f6 0 1))), (h7, .inl (cyI, 512, .inl (upd f7 0 0)))]) E hP hD hS 7 rfl (by decide) rfl rfl dX0_measure_142 (fun H locs hP hD hS => ?_)
  refine lv_aload_n hx hb dX0_measure_143 rfl (lv_at hl 4 rfl) ?_
  refine x_get E iX0 hP 0 rfl rfl 0 (by decide) wq9 rfl dX0_measure_144 ?_
  refine lv_iload_n hx hb dX0_measure_147 rfl (lv_at hl 5 rfl) ?_
  refine x_iald (v := 0) E hP 3 rfl (by decide) rfl dX0_measure_148 ?_
  refine lv_tableIn (tgt := 208) (off := 59) hx hb dX0_measure_149 (by decide) (by decide) (by decide) (by decide) ?_
  refine lv_aload_n hx hb dX0_measure_208 rfl (lv_at hl 4 rfl) ?_
  refine x_get E iX0 hP 0 rfl rfl 4 (by decide) wq13 rfl dX0_measure_209 ?_
  refine lv_iload_n hx hb dX0_measure_212 rfl (lv_at hl 5 rfl) ?_
  refine lv_iconst (v := 0) hx hb dX0_measure_213 (by decide) ?_
  refine x_iast (ws' := [(h0, .inr (0, [.ref h3, .ref h2, .ref h1, v0_3, .ref h6, .ref h7, .ref h4, .ref h5, v0_8, v0_9, v0_10, v0_11, v0_12, v0_13])), (h1, .inl (cyI, 512, .inl (upd (fun _ => 0) 0 0))), (h2, .inl (cyI, 512, .inl (upd (fun _ => 0) 0 0))), (h3, .inl (cyI, 512, .inl (upd (fun _ => 0) 0 0))), (h4, .inl (cyI, 512, .inl (upd f4 0 0))), (h5, .inl (cyI, 512, .inl (upd f5 0 0))), (h6, .inl (cyI, 512, .inl (upd (upd f6 0 1) 0 0))), (h7, .inl (cyI, 512, .inl (upd f7 0 0)))]) E hP hD hS 6 rfl (by decide) rfl rfl dX0_measure_214 (fun H locs hP hD hS => ?_)
  refine lv_goto (tgt := 400) hx hb dX0_measure_215 (by decide) ?_
  exact x_vret E hr hlk hP hD hS () [0, 1, 2, 3, 4, 5, 6, 7] (by decide) rfl dX0_measure_400

set_option maxHeartbeats 4000000 in
set_option maxRecDepth 100000 in
theorem mX0_node (l : Launch) (D : va_G) (cyI cyJ : ClassId) (Z : xZ) (h0 : Nat) (h1 : Nat) (h2 : Nat) (h3 : Nat) (h4 : Nat) (h5 : Nat) (h6 : Nat) (h7 : Nat) (h8 : Nat) (h9 : Nat) (h10 : Nat) (h11 : Nat) (v0_10 : Value) (v0_13 : Value) (f5 : Nat → Int32) (f7 : Nat → Int32) (f8 : Nat → Int32) (f9 : Nat → Int32) (f10 : Nat → Int32) (f11 : Nat → Int32) : MetI l yX0_node (Cond.code yX0_node cX0_node 8 (some .int)) { frames := 1, cells := 0, slots := 0, locals := 25 } D cyI cyJ Z [.ref h0, .int 0, .int 0, .int 0, .int 0] [(h0, .inr (0, [.ref h2, .ref h3, .ref h4, .ref h5, .ref h10, .ref h11, .ref h8, .ref h9, .ref h6, .ref h7, v0_10, .ref h1, .int 0, v0_13])), (h1, .inl (cyI, 512, .inl (fun _ => -1))), (h2, .inl (cyI, 512, .inl (fun _ => 0))), (h3, .inl (cyI, 512, .inl (fun _ => 0))), (h4, .inl (cyI, 512, .inl (fun _ => 0))), (h5, .inl (cyI, 512, .inl f5)), (h6, .inl (cyI, 512, .inl (fun _ => 0))), (h7, .inl (cyI, 512, .inl f7)), (h8, .inl (cyI, 512, .inl f8)), (h9, .inl (cyI, 512, .inl f9)), (h10, .inl (cyI, 512, .inl f10)), (h11, .inl (cyI, 512, .inl f11))] (fun _ : Unit => 0) (fun _ : Unit => ([(h0, .inr (0, [.ref h2, .ref h3, .ref h4, .ref h5, .ref h10, .ref h11, .ref h8, .ref h9, .ref h6, .ref h7, v0_10, .ref h1, .int 1, v0_13])), (h1, .inl (cyI, 512, .inl (upd (fun _ => -1) 0 0))), (h2, .inl (cyI, 512, .inl (upd (fun _ => 0) 0 0))), (h3, .inl (cyI, 512, .inl (upd (fun _ => 0) 0 0))), (h4, .inl (cyI, 512, .inl (upd (fun _ => 0) 0 0))), (h5, .inl (cyI, 512, .inl (upd f5 0 0))), (h6, .inl (cyI, 512, .inl (upd (fun _ => 0) 0 0))), (h7, .inl (cyI, 512, .inl (upd f7 0 (-1)))), (h8, .inl (cyI, 512, .inl (upd f8 0 0))), (h9, .inl (cyI, 512, .inl (upd f9 0 0))), (h10, .inl (cyI, 512, .inl (upd (upd f10 0 1) 0 0))), (h11, .inl (cyI, 512, .inl (upd f11 0 0)))] : va_W)) 0 0 := by
  refine met_i (by decide) rfl ?_
  intro p e s m below meth c A ls E hr hlk hP hD hA hl
  have hS : va_S A s.heap s.heap [] := va_S.rf
  have hx := E.1.1
  have hb := E.1.2.1
  have hl : lv_has ls 8 [(0, .ref h0), (1, .int 0), (2, .int 0), (3, .int 0), (4, .int 0)] := hl
  refine lv_iload_n hx hb dX0_node_0 rfl (lv_at hl 1 rfl) ?_
  refine lv_sipush (v := 7919) hx hb dX0_node_1 (by decide) ?_
  refine lv_imul hx hb dX0_node_4 ?_
  refine x_topi (z := 0) (by decide) ?_
  refine lv_iload_n hx hb dX0_node_5 rfl (lv_at hl 2 rfl) ?_
  refine lv_iadd hx hb dX0_node_6 ?_
  refine x_topi (z := 0) (by decide) ?_
  refine lv_sipush (v := 31337) hx hb dX0_node_7 (by decide) ?_
  refine lv_imul hx hb dX0_node_10 ?_
  refine x_topi (z := 0) (by decide) ?_
  refine lv_iload_n hx hb dX0_node_11 rfl (lv_at hl 3 rfl) ?_
  refine lv_iadd hx hb dX0_node_12 ?_
  refine x_topi (z := 0) (by decide) ?_
  refine lv_istore (lv' := [(5, .int 0), (0, .ref h0), (1, .int 0), (2, .int 0), (3, .int 0), (4, .int 0)]) hx hb dX0_node_13 hl (by decide) rfl (fun ls hl => ?_)
  refine lv_iload hx hb dX0_node_15 (lv_at hl 0 rfl) ?_
  refine lv_iload hx hb dX0_node_17 (lv_at hl 0 rfl) ?_
  refine lv_bipush (v := 15) hx hb dX0_node_19 (by decide) ?_
  refine lv_iushr (v := 0) hx hb dX0_node_21 (by decide) ?_
  refine lv_ixor hx hb dX0_node_22 ?_
  refine x_topi (z := 0) (by decide) ?_
  refine lv_istore (lv' := [(5, .int 0), (0, .ref h0), (1, .int 0), (2, .int 0), (3, .int 0), (4, .int 0)]) hx hb dX0_node_23 hl (by decide) rfl (fun ls hl => ?_)
  refine lv_aload_n hx hb dX0_node_25 rfl (lv_at hl 1 rfl) ?_
  refine x_get E iX0 hP 0 rfl rfl 11 (by decide) wq20 rfl dX0_node_26 ?_
  refine lv_iload hx hb dX0_node_29 (lv_at hl 0 rfl) ?_
  refine lv_aload_n hx hb dX0_node_31 rfl (lv_at hl 1 rfl) ?_
  refine x_get E iX0 hP 0 rfl rfl 11 (by decide) wq20 rfl dX0_node_32 ?_
  refine x_alen (v := 512) E hP 1 rfl (by decide) dX0_node_35 ?_
  refine lv_iconst (v := 1) hx hb dX0_node_36 (by decide) ?_
  refine lv_isub hx hb dX0_node_37 ?_
  refine x_topi (z := 511) (by decide) ?_
  refine lv_iand hx hb dX0_node_38 ?_
  refine x_topi (z := 0) (by decide) ?_
  refine x_iald (v := (-1)) E hP 1 rfl (by decide) rfl dX0_node_39 ?_
  refine lv_istore (lv' := [(6, .int (-1)), (5, .int 0), (0, .ref h0), (1, .int 0), (2, .int 0), (3, .int 0), (4, .int 0)]) hx hb dX0_node_40 hl (by decide) rfl (fun ls hl => ?_)
  refine lv_iconst (v := 0) hx hb dX0_node_42 (by decide) ?_
  refine lv_istore (lv' := [(7, .int 0), (6, .int (-1)), (5, .int 0), (0, .ref h0), (1, .int 0), (2, .int 0), (3, .int 0), (4, .int 0)]) hx hb dX0_node_43 hl (by decide) rfl (fun ls hl => ?_)
  refine lv_iload hx hb dX0_node_45 (lv_at hl 0 rfl) ?_
  refine lv_aload_n hx hb dX0_node_47 rfl (lv_at hl 3 rfl) ?_
  refine x_get E iX0 hP 0 rfl rfl 12 (by decide) wq23 rfl dX0_node_48 ?_
  refine lv_icmp_ge (tgt := 119) hx hb dX0_node_51 (by decide) (fun c9 => ?_) (fun c9 => absurd (by decide) c9)
  refine lv_aload_n hx hb dX0_node_119 rfl (lv_at hl 3 rfl) ?_
  refine x_get E iX0 hP 0 rfl rfl 12 (by decide) wq23 rfl dX0_node_120 ?_
  refine lv_aload_n hx hb dX0_node_123 rfl (lv_at hl 3 rfl) ?_
  refine x_get E iX0 hP 0 rfl rfl 0 (by decide) wq9 rfl dX0_node_124 ?_
  refine x_alen (v := 512) E hP 2 rfl (by decide) dX0_node_127 ?_
  refine lv_icmp_lt (tgt := 135) hx hb dX0_node_128 (by decide) (fun c9 => ?_) (fun c9 => absurd (by decide) c9)
  refine lv_aload_n hx hb dX0_node_135 rfl (lv_at hl 3 rfl) ?_
  refine x_get E iX0 hP 0 rfl rfl 12 (by decide) wq23 rfl dX0_node_136 ?_
  refine lv_istore (lv' := [(7, .int 0), (6, .int (-1)), (5, .int 0), (0, .ref h0), (1, .int 0), (2, .int 0), (3, .int 0), (4, .int 0)]) hx hb dX0_node_139 hl (by decide) rfl (fun ls hl => ?_)
  refine lv_aload_n hx hb dX0_node_141 rfl (lv_at hl 3 rfl) ?_
  refine lv_dup hx hb dX0_node_142 rfl ?_
  refine x_get E iX0 hP 0 rfl rfl 12 (by decide) wq23 rfl dX0_node_143 ?_
  refine lv_iconst (v := 1) hx hb dX0_node_146 (by decide) ?_
  refine lv_iadd hx hb dX0_node_147 ?_
  refine x_topi (z := 1) (by decide) ?_
  refine x_put (ws' := [(h0, .inr (0, [.ref h2, .ref h3, .ref h4, .ref h5, .ref h10, .ref h11, .ref h8, .ref h9, .ref h6, .ref h7, v0_10, .ref h1, .int 1, v0_13])), (h1, .inl (cyI, 512, .inl (fun _ => -1))), (h2, .inl (cyI, 512, .inl (fun _ => 0))), (h3, .inl (cyI, 512, .inl (fun _ => 0))), (h4, .inl (cyI, 512, .inl (fun _ => 0))), (h5, .inl (cyI, 512, .inl f5)), (h6, .inl (cyI, 512, .inl (fun _ => 0))), (h7, .inl (cyI, 512, .inl f7)), (h8, .inl (cyI, 512, .inl f8)), (h9, .inl (cyI, 512, .inl f9)), (h10, .inl (cyI, 512, .inl f10)), (h11, .inl (cyI, 512, .inl f11))]) E iX0 tyX0 tyX0_ok nmX0 hP hD hS 0 rfl rfl 12 (by decide) wq23 rfl rfl rfl rfl rfl dX0_node_148 (fun H locs hP hD hS => ?_)
  refine lv_aload_n hx hb dX0_node_151 rfl (lv_at hl 3 rfl) ?_
  refine x_get E iX0 hP 0 rfl rfl 0 (by decide) wq9 rfl dX0_node_152 ?_
  refine lv_iload hx hb dX0_node_155 (lv_at hl 0 rfl) ?_
  refine lv_iload_n hx hb dX0_node_157 rfl (lv_at hl 4 rfl) ?_
  refine x_iast (ws' := [(h0, .inr (0, [.ref h2, .ref h3, .ref h4, .ref h5, .ref h10, .ref h11, .ref h8, .ref h9, .ref h6, .ref h7, v0_10, .ref h1, .int 1, v0_13])), (h1, .inl (cyI, 512, .inl (fun _ => -1))), (h2, .inl (cyI, 512, .inl (upd (fun _ => 0) 0 0))), (h3, .inl (cyI, 512, .inl (fun _ => 0))), (h4, .inl (cyI, 512, .inl (fun _ => 0))), (h5, .inl (cyI, 512, .inl f5)), (h6, .inl (cyI, 512, .inl (fun _ => 0))), (h7, .inl (cyI, 512, .inl f7)), (h8, .inl (cyI, 512, .inl f8)), (h9, .inl (cyI, 512, .inl f9)), (h10, .inl (cyI, 512, .inl f10)), (h11, .inl (cyI, 512, .inl f11))]) E hP hD hS 2 rfl (by decide) rfl rfl dX0_node_158 (fun H locs hP hD hS => ?_)
  refine lv_aload_n hx hb dX0_node_159 rfl (lv_at hl 3 rfl) ?_
  refine x_get E iX0 hP 0 rfl rfl 1 (by decide) wq10 rfl dX0_node_160 ?_
  refine lv_iload hx hb dX0_node_163 (lv_at hl 0 rfl) ?_
  refine lv_iload_n hx hb dX0_node_165 rfl (lv_at hl 5 rfl) ?_
  refine x_iast (ws' := [(h0, .inr (0, [.ref h2, .ref h3, .ref h4, .ref h5, .ref h10, .ref h11, .ref h8, .ref h9, .ref h6, .ref h7, v0_10, .ref h1, .int 1, v0_13])), (h1, .inl (cyI, 512, .inl (fun _ => -1))), (h2, .inl (cyI, 512, .inl (upd (fun _ => 0) 0 0))), (h3, .inl (cyI, 512, .inl (upd (fun _ => 0) 0 0))), (h4, .inl (cyI, 512, .inl (fun _ => 0))), (h5, .inl (cyI, 512, .inl f5)), (h6, .inl (cyI, 512, .inl (fun _ => 0))), (h7, .inl (cyI, 512, .inl f7)), (h8, .inl (cyI, 512, .inl f8)), (h9, .inl (cyI, 512, .inl f9)), (h10, .inl (cyI, 512, .inl f10)), (h11, .inl (cyI, 512, .inl f11))]) E hP hD hS 3 rfl (by decide) rfl rfl dX0_node_166 (fun H locs hP hD hS => ?_)
  refine lv_aload_n hx hb dX0_node_167 rfl (lv_at hl 3 rfl) ?_
  refine x_get E iX0 hP 0 rfl rfl 2 (by decide) wq11 rfl dX0_node_168 ?_
  refine lv_iload hx hb dX0_node_171 (lv_at hl 0 rfl) ?_
  refine lv_iload_n hx hb dX0_node_173 rfl (lv_at hl 6 rfl) ?_
  refine x_iast (ws' := [(h0, .inr (0, [.ref h2, .ref h3, .ref h4, .ref h5, .ref h10, .ref h11, .ref h8, .ref h9, .ref h6, .ref h7, v0_10, .ref h1, .int 1, v0_13])), (h1, .inl (cyI, 512, .inl (fun _ => -1))), (h2, .inl (cyI, 512, .inl (upd (fun _ => 0) 0 0))), (h3, .inl (cyI, 512, .inl (upd (fun _ => 0) 0 0))), (h4, .inl (cyI, 512, .inl (upd (fun _ => 0) 0 0))), (h5, .inl (cyI, 512, .inl f5)), (h6, .inl (cyI, 512, .inl (fun _ => 0))), (h7, .inl (cyI, 512, .inl f7)), (h8, .inl (cyI, 512, .inl f8)), (h9, .inl (cyI, 512, .inl f9)), (h10, .inl (cyI, 512, .inl f10)), (h11, .inl (cyI, 512, .inl f11))]) E hP hD hS 4 rfl (by decide) rfl rfl dX0_node_174 (fun H locs hP hD hS => ?_)
  refine lv_aload_n hx hb dX0_node_175 rfl (lv_at hl 3 rfl) ?_
  refine x_get E iX0 hP 0 rfl rfl 3 (by decide) wq12 rfl dX0_node_176 ?_
  refine lv_iload hx hb dX0_node_179 (lv_at hl 0 rfl) ?_
  refine lv_iload hx hb dX0_node_181 (lv_at hl 7 rfl) ?_
  refine x_iast (ws' := [(h0, .inr (0, [.ref h2, .ref h3, .ref h4, .ref h5, .ref h10, .ref h11, .ref h8, .ref h9, .ref h6, .ref h7, v0_10, .ref h1, .int 1, v0_13])), (h1, .inl (cyI, 512, .inl (fun _ => -1))), (h2, .inl (cyI, 512, .inl (upd (fun _ => 0) 0 0))), (h3, .inl (cyI, 512, .inl (upd (fun _ => 0) 0 0))), (h4, .inl (cyI, 512, .inl (upd (fun _ => 0) 0 0))), (h5, .inl (cyI, 512, .inl (upd f5 0 0))), (h6, .inl (cyI, 512, .inl (fun _ => 0))), (h7, .inl (cyI, 512, .inl f7)), (h8, .inl (cyI, 512, .inl f8)), (h9, .inl (cyI, 512, .inl f9)), (h10, .inl (cyI, 512, .inl f10)), (h11, .inl (cyI, 512, .inl f11))]) E hP hD hS 5 rfl (by decide) rfl rfl dX0_node_183 (fun H locs hP hD hS => ?_)
  refine lv_aload_n hx hb dX0_node_184 rfl (lv_at hl 3 rfl) ?_
  refine x_get E iX0 hP 0 rfl rfl 8 (by decide) wq17 rfl dX0_node_185 ?_
  refine lv_iload hx hb dX0_node_188 (lv_at hl 0 rfl) ?_
  refine lv_iload hx hb dX0_node_190 (lv_at hl 2 rfl) ?_
  refine x_iast (ws' := [(h0, .inr (0, [.ref h2, .ref h3, .ref h4, .ref h5, .ref h10, .ref h11, .ref h8, .ref h9, .ref h6, .ref h7, v0_10, .ref h1, .int 1, v0_13])), (h1, .inl (cyI, 512, .inl (fun _ => -1))), (h2, .inl (cyI, 512, .inl (upd (fun _ => 0) 0 0))), (h3, .inl (cyI, 512, .inl (upd (fun _ => 0) 0 0))), (h4, .inl (cyI, 512, .inl (upd (fun _ => 0) 0 0))), (h5, .inl (cyI, 512, .inl (upd f5 0 0))), (h6, .inl (cyI, 512, .inl (upd (fun _ => 0) 0 0))), (h7, .inl (cyI, 512, .inl f7)), (h8, .inl (cyI, 512, .inl f8)), (h9, .inl (cyI, 512, .inl f9)), (h10, .inl (cyI, 512, .inl f10)), (h11, .inl (cyI, 512, .inl f11))]) E hP hD hS 6 rfl (by decide) rfl rfl dX0_node_192 (fun H locs hP hD hS => ?_)
  refine lv_aload_n hx hb dX0_node_193 rfl (lv_at hl 3 rfl) ?_
  refine lv_iload hx hb dX0_node_194 (lv_at hl 0 rfl) ?_
  refine x_Vv (rest := []) (ws' := fun _ => [(h2, .inl (cyI, 512, .inl (upd (fun _ => 0) 0 0))), (h3, .inl (cyI, 512, .inl (upd (fun _ => 0) 0 0))), (h4, .inl (cyI, 512, .inl (upd (fun _ => 0) 0 0))), (h5, .inl (cyI, 512, .inl (upd f5 0 0))), (h8, .inl (cyI, 512, .inl f8)), (h9, .inl (cyI, 512, .inl f9)), (h10, .inl (cyI, 512, .inl f10)), (h11, .inl (cyI, 512, .inl f11)), (h0, .inr (0, [.ref h2, .ref h3, .ref h4, .ref h5, .ref h10, .ref h11, .ref h8, .ref h9, .ref h6, .ref h7, v0_10, .ref h1, .int 1, v0_13])), (h6, .inl (cyI, 512, .inl (upd (fun _ => 0) 0 0))), (h1, .inl (cyI, 512, .inl (upd (fun _ => -1) 0 0))), (h7, .inl (cyI, 512, .inl (upd f7 0 (-1))))]) (wr := [(h2, .inl (cyI, 512, .inl (upd (fun _ => 0) 0 0))), (h3, .inl (cyI, 512, .inl (upd (fun _ => 0) 0 0))), (h4, .inl (cyI, 512, .inl (upd (fun _ => 0) 0 0))), (h5, .inl (cyI, 512, .inl (upd f5 0 0))), (h8, .inl (cyI, 512, .inl f8)), (h9, .inl (cyI, 512, .inl f9)), (h10, .inl (cyI, 512, .inl f10)), (h11, .inl (cyI, 512, .inl f11))]) E (mX0_link l D cyI cyJ Z h0 h6 h1 h7 (.ref h2) (.ref h3) (.ref h4) (.ref h5) (.ref h10) (.ref h11) (.ref h8) (.ref h9) v0_10 (.int 1) v0_13 f7) kX0_link wq24 wq25 wq26 ⟨rfl, rfl, Nat.le_of_ble_eq_true rfl, Nat.le_of_ble_eq_true rfl⟩ hP hD hS hA [0, 6, 1, 7] [2, 3, 4, 5, 8, 9, 10, 11] rfl rfl (by decide) (fun _ => rfl) 0 rfl rfl rfl hl.1 rfl (Nat.le_of_ble_eq_true rfl) dX0_node_196 ⟨rfl, rfl⟩ ⟨Nat.le_of_ble_eq_true rfl, Nat.le_of_ble_eq_true rfl⟩ (fun _ H locs hP hD hS => ?_)
  refine lv_aload_n hx hb dX0_node_199 rfl (lv_at hl 3 rfl) ?_
  refine lv_iload hx hb dX0_node_200 (lv_at hl 0 rfl) ?_
  refine x_Vv (rest := []) (ws' := fun _ => [(h5, .inl (cyI, 512, .inl (upd f5 0 0))), (h6, .inl (cyI, 512, .inl (upd (fun _ => 0) 0 0))), (h1, .inl (cyI, 512, .inl (upd (fun _ => -1) 0 0))), (h7, .inl (cyI, 512, .inl (upd f7 0 (-1)))), (h0, .inr (0, [.ref h2, .ref h3, .ref h4, .ref h5, .ref h10, .ref h11, .ref h8, .ref h9, .ref h6, .ref h7, v0_10, .ref h1, .int 1, v0_13])), (h4, .inl (cyI, 512, .inl (upd (fun _ => 0) 0 0))), (h3, .inl (cyI, 512, .inl (upd (fun _ => 0) 0 0))), (h2, .inl (cyI, 512, .inl (upd (fun _ => 0) 0 0))), (h8, .inl (cyI, 512, .inl (upd f8 0 0))), (h9, .inl (cyI, 512, .inl (upd f9 0 0))), (h10, .inl (cyI, 512, .inl (upd (upd f10 0 1) 0 0))), (h11, .inl (cyI, 512, .inl (upd f11 0 0)))]) (wr := [(h5, .inl (cyI, 512, .inl (upd f5 0 0))), (h6, .inl (cyI, 512, .inl (upd (fun _ => 0) 0 0))), (h1, .inl (cyI, 512, .inl (upd (fun _ => -1) 0 0))), (h7, .inl (cyI, 512, .inl (upd f7 0 (-1))))]) E (mX0_measure l D cyI cyJ Z h0 h4 h3 h2 h8 h9 h10 h11 (.ref h5) (.ref h6) (.ref h7) v0_10 (.ref h1) (.int 1) v0_13 f8 f9 f10 f11) kX0_measure wq27 wq28 wq29 ⟨rfl, rfl, Nat.le_of_ble_eq_true rfl, Nat.le_of_ble_eq_true rfl⟩ hP hD hS hA [8, 2, 1, 0, 4, 5, 6, 7] [3, 9, 10, 11] rfl rfl (by decide) (fun _ => rfl) 8 rfl rfl rfl hl.1 rfl (Nat.le_of_ble_eq_true rfl) dX0_node_202 ⟨rfl, rfl⟩ ⟨Nat.le_of_ble_eq_true rfl, Nat.le_of_ble_eq_true rfl⟩ (fun _ H locs hP hD hS => ?_)
  refine lv_iload hx hb dX0_node_205 (lv_at hl 0 rfl) ?_
  exact x_iret E hr hlk hP hD hS () rfl [4, 2, 7, 6, 5, 0, 1, 3, 8, 9, 10, 11] (by decide) rfl rfl dX0_node_207

set_option maxHeartbeats 4000000 in
set_option maxRecDepth 100000 in
theorem mX0_link_1 (l : Launch) (D : va_G) (cyI cyJ : ClassId) (Z : xZ) (h0 : Nat) (h1 : Nat) (h2 : Nat) (h3 : Nat) (v0_0 : Value) (v0_1 : Value) (v0_2 : Value) (v0_3 : Value) (v0_4 : Value) (v0_5 : Value) (v0_6 : Value) (v0_7 : Value) (v0_10 : Value) (v0_12 : Value) (v0_13 : Value) (f3 : Nat → Int32) : MetV l yX0_link (Cond.code yX0_link cX0_link 3 none) { frames := 0, cells := 0, slots := 0, locals := 0 } D cyI cyJ Z [.ref h0, .int 1] [(h0, .inr (0, [v0_0, v0_1, v0_2, v0_3, v0_4, v0_5, v0_6, v0_7, .ref h1, .ref h3, v0_10, .ref h2, v0_12, v0_13])), (h1, .inl (cyI, 512, .inl (upd (upd (fun _ => 0) 0 0) 1 248155107))), (h2, .inl (cyI, 512, .inl (upd (fun _ => -1) 0 0))), (h3, .inl (cyI, 512, .inl f3))] (fun _ : Unit => ([(h0, .inr (0, [v0_0, v0_1, v0_2, v0_3, v0_4, v0_5, v0_6, v0_7, .ref h1, .ref h3, v0_10, .ref h2, v0_12, v0_13])), (h1, .inl (cyI, 512, .inl (upd (upd (fun _ => 0) 0 0) 1 248155107))), (h2, .inl (cyI, 512, .inl (upd (upd (fun _ => -1) 0 0) 483 1))), (h3, .inl (cyI, 512, .inl (upd f3 1 (-1))))] : va_W)) 0 0 := by
  refine met_v (by decide) rfl ?_
  intro p e s m below meth c A ls E hr hlk hnm hP hD hA hl
  have hS : va_S A s.heap s.heap [] := va_S.rf
  have hx := E.1.1
  have hb := E.1.2.1
  have hl : lv_has ls 3 [(0, .ref h0), (1, .int 1)] := hl
  refine lv_aload_n hx hb dX0_link_0 rfl (lv_at hl 0 rfl) ?_
  refine x_get E iX0 hP 0 rfl rfl 8 (by decide) wq17 rfl dX0_link_1 ?_
  refine lv_iload_n hx hb dX0_link_4 rfl (lv_at hl 1 rfl) ?_
  refine x_iald (v := 248155107) E hP 1 rfl (by decide) rfl dX0_link_5 ?_
  refine lv_aload_n hx hb dX0_link_6 rfl (lv_at hl 0 rfl) ?_
  refine x_get E iX0 hP 0 rfl rfl 11 (by decide) wq20 rfl dX0_link_7 ?_
  refine x_alen (v := 512) E hP 2 rfl (by decide) dX0_link_10 ?_
  refine lv_iconst (v := 1) hx hb dX0_link_11 (by decide) ?_
  refine lv_isub hx hb dX0_link_12 ?_
  refine x_topi (z := 511) (by decide) ?_
  refine lv_iand hx hb dX0_link_13 ?_
  refine x_topi (z := 483) (by decide) ?_
  refine lv_istore_n (lv' := [(2, .int 483), (0, .ref h0), (1, .int 1)]) hx hb dX0_link_14 rfl hl (by decide) rfl (fun ls hl => ?_)
  refine lv_aload_n hx hb dX0_link_15 rfl (lv_at hl 1 rfl) ?_
  refine x_get E iX0 hP 0 rfl rfl 9 (by decide) wq18 rfl dX0_link_16 ?_
  refine lv_iload_n hx hb dX0_link_19 rfl (lv_at hl 2 rfl) ?_
  refine lv_aload_n hx hb dX0_link_20 rfl (lv_at hl 1 rfl) ?_
  refine x_get E iX0 hP 0 rfl rfl 11 (by decide) wq20 rfl dX0_link_21 ?_
  refine lv_iload_n hx hb dX0_link_24 rfl (lv_at hl 0 rfl) ?_
  refine x_iald (v := (-1)) E hP 2 rfl (by decide) rfl dX0_link_25 ?_
  refine x_iast (ws' := [(h0, .inr (0, [v0_0, v0_1, v0_2, v0_3, v0_4, v0_5, v0_6, v0_7, .ref h1, .ref h3, v0_10, .ref h2, v0_12, v0_13])), (h1, .inl (cyI, 512, .inl (upd (upd (fun _ => 0) 0 0) 1 248155107))), (h2, .inl (cyI, 512, .inl (upd (fun _ => -1) 0 0))), (h3, .inl (cyI, 512, .inl (upd f3 1 (-1))))]) E hP hD hS 3 rfl (by decide) rfl rfl dX0_link_26 (fun H locs hP hD hS => ?_)
  refine lv_aload_n hx hb dX0_link_27 rfl (lv_at hl 1 rfl) ?_
  refine x_get E iX0 hP 0 rfl rfl 11 (by decide) wq20 rfl dX0_link_28 ?_
  refine lv_iload_n hx hb dX0_link_31 rfl (lv_at hl 0 rfl) ?_
  refine lv_iload_n hx hb dX0_link_32 rfl (lv_at hl 2 rfl) ?_
  refine x_iast (ws' := [(h0, .inr (0, [v0_0, v0_1, v0_2, v0_3, v0_4, v0_5, v0_6, v0_7, .ref h1, .ref h3, v0_10, .ref h2, v0_12, v0_13])), (h1, .inl (cyI, 512, .inl (upd (upd (fun _ => 0) 0 0) 1 248155107))), (h2, .inl (cyI, 512, .inl (upd (upd (fun _ => -1) 0 0) 483 1))), (h3, .inl (cyI, 512, .inl (upd f3 1 (-1))))]) E hP hD hS 2 rfl (by decide) rfl rfl dX0_link_33 (fun H locs hP hD hS => ?_)
  exact x_vret E hr hlk hP hD hS () [0, 1, 2, 3] (by decide) rfl dX0_link_34

set_option maxHeartbeats 4000000 in
set_option maxRecDepth 100000 in
theorem mX0_measure_1 (l : Launch) (D : va_G) (cyI cyJ : ClassId) (Z : xZ) (h0 : Nat) (h1 : Nat) (h2 : Nat) (h3 : Nat) (h4 : Nat) (h5 : Nat) (h6 : Nat) (h7 : Nat) (v0_3 : Value) (v0_8 : Value) (v0_9 : Value) (v0_10 : Value) (v0_11 : Value) (v0_12 : Value) (v0_13 : Value) (f4 : Nat → Int32) (f5 : Nat → Int32) (f6 : Nat → Int32) (f7 : Nat → Int32) : MetV l yX0_measure (Cond.code yX0_measure cX0_measure 6 none) { frames := 0, cells := 0, slots := 0, locals := 0 } D cyI cyJ Z [.ref h0, .int 1] [(h0, .inr (0, [.ref h3, .ref h2, .ref h1, v0_3, .ref h6, .ref h7, .ref h4, .ref h5, v0_8, v0_9, v0_10, v0_11, v0_12, v0_13])), (h1, .inl (cyI, 512, .inl (upd (upd (fun _ => 0) 0 0) 1 111))), (h2, .inl (cyI, 512, .inl (upd (upd (fun _ => 0) 0 0) 1 0))), (h3, .inl (cyI, 512, .inl (upd (upd (fun _ => 0) 0 0) 1 1))), (h4, .inl (cyI, 512, .inl f4)), (h5, .inl (cyI, 512, .inl f5)), (h6, .inl (cyI, 512, .inl f6)), (h7, .inl (cyI, 512, .inl f7))] (fun _ : Unit => ([(h0, .inr (0, [.ref h3, .ref h2, .ref h1, v0_3, .ref h6, .ref h7, .ref h4, .ref h5, v0_8, v0_9, v0_10, v0_11, v0_12, v0_13])), (h1, .inl (cyI, 512, .inl (upd (upd (fun _ => 0) 0 0) 1 111))), (h2, .inl (cyI, 512, .inl (upd (upd (fun _ => 0) 0 0) 1 0))), (h3, .inl (cyI, 512, .inl (upd (upd (fun _ => 0) 0 0) 1 1))), (h4, .inl (cyI, 512, .inl (upd f4 1 0))), (h5, .inl (cyI, 512, .inl (upd f5 1 0))), (h6, .inl (cyI, 512, .inl (upd f6 1 1))), (h7, .inl (cyI, 512, .inl (upd f7 1 0)))] : va_W)) 0 0 := by
  refine met_v (by decide) rfl ?_
  intro p e s m below meth c A ls E hr hlk hnm hP hD hA hl
  have hS : va_S A s.heap s.heap [] := va_S.rf
  have hx := E.1.1
  have hb := E.1.2.1
  have hl : lv_has ls 6 [(0, .ref h0), (1, .int 1)] := hl
  refine lv_aload_n hx hb dX0_measure_0 rfl (lv_at hl 0 rfl) ?_
  refine x_get E iX0 hP 0 rfl rfl 2 (by decide) wq11 rfl dX0_measure_1 ?_
  refine lv_iload_n hx hb dX0_measure_4 rfl (lv_at hl 1 rfl) ?_
  refine x_iald (v := 111) E hP 1 rfl (by decide) rfl dX0_measure_5 ?_
  refine lv_istore_n (lv' := [(2, .int 111), (0, .ref h0), (1, .int 1)]) hx hb dX0_measure_6 rfl hl (by decide) rfl (fun ls hl => ?_)
  refine lv_aload_n hx hb dX0_measure_7 rfl (lv_at hl 1 rfl) ?_
  refine x_get E iX0 hP 0 rfl rfl 1 (by decide) wq10 rfl dX0_measure_8 ?_
  refine lv_iload_n hx hb dX0_measure_11 rfl (lv_at hl 2 rfl) ?_
  refine x_iald (v := 0) E hP 2 rfl (by decide) rfl dX0_measure_12 ?_
  refine lv_if_lt (tgt := 35) hx hb dX0_measure_13 (by decide) (fun c9 => absurd c9 (by decide)) (fun c9 => ?_)
  refine lv_aload_n hx hb dX0_measure_16 rfl (lv_at hl 1 rfl) ?_
  refine x_get E iX0 hP 0 rfl rfl 1 (by decide) wq10 rfl dX0_measure_17 ?_
  refine lv_iload_n hx hb dX0_measure_20 rfl (lv_at hl 2 rfl) ?_
  refine x_iald (v := 0) E hP 2 rfl (by decide) rfl dX0_measure_21 ?_
  refine lv_iload_n hx hb dX0_measure_22 rfl (lv_at hl 2 rfl) ?_
  refine lv_icmp_ge (tgt := 35) hx hb dX0_measure_23 (by decide) (fun c9 => absurd c9 (by decide)) (fun c9 => ?_)
  refine lv_aload_n hx hb dX0_measure_26 rfl (lv_at hl 1 rfl) ?_
  refine x_get E iX0 hP 0 rfl rfl 1 (by decide) wq10 rfl dX0_measure_27 ?_
  refine lv_iload_n hx hb dX0_measure_30 rfl (lv_at hl 2 rfl) ?_
  refine x_iald (v := 0) E hP 2 rfl (by decide) rfl dX0_measure_31 ?_
  refine lv_goto (tgt := 36) hx hb dX0_measure_32 (by decide) ?_
  refine lv_istore_n (lv' := [(3, .int 0), (2, .int 111), (0, .ref h0), (1, .int 1)]) hx hb dX0_measure_36 rfl hl (by decide) rfl (fun ls hl => ?_)
  refine lv_iload_n hx hb dX0_measure_37 rfl (lv_at hl 1 rfl) ?_
  refine lv_if_lt (tgt := 50) hx hb dX0_measure_38 (by decide) (fun c9 => absurd c9 (by decide)) (fun c9 => ?_)
  refine lv_iload_n hx hb dX0_measure_41 rfl (lv_at hl 1 rfl) ?_
  refine lv_iload_n hx hb dX0_measure_42 rfl (lv_at hl 3 rfl) ?_
  refine lv_icmp_ge (tgt := 50) hx hb dX0_measure_43 (by decide) (fun c9 => ?_) (fun c9 => absurd (by decide) c9)
  refine lv_iconst (v := 0) hx hb dX0_measure_50 (by decide) ?_
  refine lv_istore (lv' := [(4, .int 0), (3, .int 0), (2, .int 111), (0, .ref h0), (1, .int 1)]) hx hb dX0_measure_51 hl (by decide) rfl (fun ls hl => ?_)
  refine lv_aload_n hx hb dX0_measure_53 rfl (lv_at hl 3 rfl) ?_
  refine x_get E iX0 hP 0 rfl rfl 0 (by decide) wq9 rfl dX0_measure_54 ?_
  refine lv_iload_n hx hb dX0_measure_57 rfl (lv_at hl 4 rfl) ?_
  refine x_iald (v := 1) E hP 3 rfl (by decide) rfl dX0_measure_58 ?_
  refine lv_bipush (v := 7) hx hb dX0_measure_59 (by decide) ?_
  refine lv_icmp_lt (tgt := 68) hx hb dX0_measure_61 (by decide) (fun c9 => ?_) (fun c9 => absurd (by decide) c9)
  refine lv_iconst (v := 0) hx hb dX0_measure_68 (by decide) ?_
  refine lv_istore (lv' := [(5, .int 0), (4, .int 0), (3, .int 0), (2, .int 111), (0, .ref h0), (1, .int 1)]) hx hb dX0_measure_69 hl (by decide) rfl (fun ls hl => ?_)
  refine lv_aload_n hx hb dX0_measure_71 rfl (lv_at hl 4 rfl) ?_
  refine x_get E iX0 hP 0 rfl rfl 6 (by decide) wq15 rfl dX0_measure_72 ?_
  refine lv_iload_n hx hb dX0_measure_75 rfl (lv_at hl 5 rfl) ?_
  refine lv_iload hx hb dX0_measure_76 (lv_at hl 0 rfl) ?_
  refine lv_if_eq (tgt := 98) hx hb dX0_measure_78 (by decide) (fun c9 => ?_) (fun c9 => absurd (by decide) c9)
  refine lv_iconst (v := 0) hx hb dX0_measure_98 (by decide) ?_
  refine x_iast (ws' := [(h0, .inr (0, [.ref h3, .ref h2, .ref h1, v0_3, .ref h6, .ref h7, .ref h4, .ref h5, v0_8, v0_9, v0_10, v0_11, v0_12, v0_13])), (h1, .inl (cyI, 512, .inl (upd (upd (fun _ => 0) 0 0) 1 111))), (h2, .inl (cyI, 512, .inl (upd (upd (fun _ => 0) 0 0) 1 0))), (h3, .inl (cyI, 512, .inl (upd (upd (fun _ => 0) 0 0) 1 1))), (h4, .inl (cyI, 512, .inl (upd f4 1 0))), (h5, .inl (cyI, 512, .inl f5)), (h6, .inl (cyI, 512, .inl f6)), (h7, .inl (cyI, 512, .inl f7))]) E hP hD hS 4 rfl (by decide) rfl rfl dX0_measure_99 (fun H locs hP hD hS => ?_)
  refine lv_aload_n hx hb dX0_measure_100 rfl (lv_at hl 4 rfl) ?_
  refine x_get E iX0 hP 0 rfl rfl 7 (by decide) wq16 rfl dX0_measure_101 ?_
  refine lv_iload_n hx hb dX0_measure_104 rfl (lv_at hl 5 rfl) ?_
  refine lv_iload hx hb dX0_measure_105 (lv_at hl 0 rfl) ?_
  refine lv_if_eq (tgt := 127) hx hb dX0_measure_107 (by decide) (fun c9 => ?_) (fun c9 => absurd (by decide) c9)
  refine lv_iconst (v := 0) hx hb dX0_measure_127 (by decide) ?_
  refine x_iast (ws' := [(h0, .inr (0, [.ref h3, .ref h2, .ref h1, v0_3, .ref h6, .ref h7, .ref h4, .ref h5, v0_8, v0_9, v0_10, v0_11, v0_12, v0_13])), (h1, .inl (cyI, 512, .inl (upd (upd (fun _ => 0) 0 0) 1 111))), (h2, .inl (cyI, 512, .inl (upd (upd (fun _ => 0) 0 0) 1 0))), (h3, .inl (cyI, 512, .inl (upd (upd (fun _ => 0) 0 0) 1 1))), (h4, .inl (cyI, 512, .inl (upd f4 1 0))), (h5, .inl (cyI, 512, .inl (upd f5 1 0))), (h6, .inl (cyI, 512, .inl f6)), (h7, .inl (cyI, 512, .inl f7))]) E hP hD hS 5 rfl (by decide) rfl rfl dX0_measure_128 (fun H locs hP hD hS => ?_)
  refine lv_aload_n hx hb dX0_measure_129 rfl (lv_at hl 4 rfl) ?_
  refine x_get E iX0 hP 0 rfl rfl 4 (by decide) wq13 rfl dX0_measure_130 ?_
  refine lv_iload_n hx hb dX0_measure_133 rfl (lv_at hl 5 rfl) ?_
  refine lv_iconst (v := 1) hx hb dX0_measure_134 (by decide) ?_
  refine x_iast (ws' := [(h0, .inr (0, [.ref h3, .ref h2, .ref h1, v0_3, .ref h6, .ref h7, .ref h4, .ref h5, v0_8, v0_9, v0_10, v0_11, v0_12, v0_13])), (h1, .inl (cyI, 512, .inl (upd (upd (fun _ => 0) 0 0) 1 111))), (h2, .inl (cyI, 512, .inl (upd (upd (fun _ => 0) 0 0) 1 0))), (h3, .inl (cyI, 512, .inl (upd (upd (fun _ => 0) 0 0) 1 1))), (h4, .inl (cyI, 512, .inl (upd f4 1 0))), (h5, .inl (cyI, 512, .inl (upd f5 1 0))), (h6, .inl (cyI, 512, .inl (upd f6 1 1))), (h7, .inl (cyI, 512, .inl f7))]) E hP hD hS 6 rfl (by decide) rfl rfl dX0_measure_135 (fun H locs hP hD hS => ?_)
  refine lv_aload_n hx hb dX0_measure_136 rfl (lv_at hl 4 rfl) ?_
  refine x_get E iX0 hP 0 rfl rfl 5 (by decide) wq14 rfl dX0_measure_137 ?_
  refine lv_iload_n hx hb dX0_measure_140 rfl (lv_at hl 5 rfl) ?_
  refine lv_iconst (v := 0) hx hb dX0_measure_141 (by decide) ?_
  refine x_iast (ws' := [(h0, .inr (0, [.ref h3, .ref h2, .ref h1, v0_3, .ref h6, .ref h7, .ref h4, .ref h5, v0_8, v0_9, v0_10, v0_11, v0_12, v0_13])), (h1, .inl (cyI, 512, .inl (upd (upd (fun _ => 0) 0 0) 1 111))), (h2, .inl (cyI, 512, .inl (upd (upd (fun _ => 0) 0 0) 1 0))), (h3, .inl (cyI, 512, .inl (upd (upd (fun _ => 0) 0 0) 1 1))), (h4, .inl (cyI, 512, .inl (upd f4 1 0))), (h5, .inl (cyI, 512, .inl (upd f5 1 0))), (h6, .inl (cyI, 512, .inl (upd f6 1 1))), (h7, .inl (cyI, 512, .inl (upd f7 1 0)))]) E hP hD hS 7 rfl (by decide) rfl rfl dX0_measure_142 (fun H locs hP hD hS => ?_)
  refine lv_aload_n hx hb dX0_measure_143 rfl (lv_at hl 4 rfl) ?_
  refine x_get E iX0 hP 0 rfl rfl 0 (by decide) wq9 rfl dX0_measure_144 ?_
  refine lv_iload_n hx hb dX0_measure_147 rfl (lv_at hl 5 rfl) ?_
  refine x_iald (v := 1) E hP 3 rfl (by decide) rfl dX0_measure_148 ?_
  refine lv_tableIn (tgt := 400) (off := 251) hx hb dX0_measure_149 (by decide) (by decide) (by decide) (by decide) ?_
  exact x_vret E hr hlk hP hD hS () [0, 1, 2, 3, 4, 5, 6, 7] (by decide) rfl dX0_measure_400

set_option maxHeartbeats 4000000 in
set_option maxRecDepth 100000 in
theorem mX0_node_1 (l : Launch) (D : va_G) (cyI cyJ : ClassId) (Z : xZ) (h0 : Nat) (h1 : Nat) (h2 : Nat) (h3 : Nat) (h4 : Nat) (h5 : Nat) (h6 : Nat) (h7 : Nat) (h8 : Nat) (h9 : Nat) (h10 : Nat) (h11 : Nat) (v0_10 : Value) (v0_13 : Value) (f5 : Nat → Int32) (f7 : Nat → Int32) (f8 : Nat → Int32) (f9 : Nat → Int32) (f10 : Nat → Int32) (f11 : Nat → Int32) : MetI l yX0_node (Cond.code yX0_node cX0_node 8 (some .int)) { frames := 1, cells := 0, slots := 0, locals := 25 } D cyI cyJ Z [.ref h0, .int 1, .int 0, .int 111, .int 0] [(h0, .inr (0, [.ref h2, .ref h3, .ref h4, .ref h5, .ref h10, .ref h11, .ref h8, .ref h9, .ref h6, .ref h7, v0_10, .ref h1, .int 1, v0_13])), (h1, .inl (cyI, 512, .inl (upd (fun _ => -1) 0 0))), (h2, .inl (cyI, 512, .inl (upd (fun _ => 0) 0 0))), (h3, .inl (cyI, 512, .inl (upd (fun _ => 0) 0 0))), (h4, .inl (cyI, 512, .inl (upd (fun _ => 0) 0 0))), (h5, .inl (cyI, 512, .inl f5)), (h6, .inl (cyI, 512, .inl (upd (fun _ => 0) 0 0))), (h7, .inl (cyI, 512, .inl f7)), (h8, .inl (cyI, 512, .inl f8)), (h9, .inl (cyI, 512, .inl f9)), (h10, .inl (cyI, 512, .inl f10)), (h11, .inl (cyI, 512, .inl f11))] (fun _ : Unit => 1) (fun _ : Unit => ([(h0, .inr (0, [.ref h2, .ref h3, .ref h4, .ref h5, .ref h10, .ref h11, .ref h8, .ref h9, .ref h6, .ref h7, v0_10, .ref h1, .int 2, v0_13])), (h1, .inl (cyI, 512, .inl (upd (upd (fun _ => -1) 0 0) 483 1))), (h2, .inl (cyI, 512, .inl (upd (upd (fun _ => 0) 0 0) 1 1))), (h3, .inl (cyI, 512, .inl (upd (upd (fun _ => 0) 0 0) 1 0))), (h4, .inl (cyI, 512, .inl (upd (upd (fun _ => 0) 0 0) 1 111))), (h5, .inl (cyI, 512, .inl (upd f5 1 0))), (h6, .inl (cyI, 512, .inl (upd (upd (fun _ => 0) 0 0) 1 248155107))), (h7, .inl (cyI, 512, .inl (upd f7 1 (-1)))), (h8, .inl (cyI, 512, .inl (upd f8 1 0))), (h9, .inl (cyI, 512, .inl (upd f9 1 0))), (h10, .inl (cyI, 512, .inl (upd f10 1 1))), (h11, .inl (cyI, 512, .inl (upd f11 1 0)))] : va_W)) 0 0 := by
  refine met_i (by decide) rfl ?_
  intro p e s m below meth c A ls E hr hlk hP hD hA hl
  have hS : va_S A s.heap s.heap [] := va_S.rf
  have hx := E.1.1
  have hb := E.1.2.1
  have hl : lv_has ls 8 [(0, .ref h0), (1, .int 1), (2, .int 0), (3, .int 111), (4, .int 0)] := hl
  refine lv_iload_n hx hb dX0_node_0 rfl (lv_at hl 1 rfl) ?_
  refine lv_sipush (v := 7919) hx hb dX0_node_1 (by decide) ?_
  refine lv_imul hx hb dX0_node_4 ?_
  refine x_topi (z := 7919) (by decide) ?_
  refine lv_iload_n hx hb dX0_node_5 rfl (lv_at hl 2 rfl) ?_
  refine lv_iadd hx hb dX0_node_6 ?_
  refine x_topi (z := 7919) (by decide) ?_
  refine lv_sipush (v := 31337) hx hb dX0_node_7 (by decide) ?_
  refine lv_imul hx hb dX0_node_10 ?_
  refine x_topi (z := 248157703) (by decide) ?_
  refine lv_iload_n hx hb dX0_node_11 rfl (lv_at hl 3 rfl) ?_
  refine lv_iadd hx hb dX0_node_12 ?_
  refine x_topi (z := 248157814) (by decide) ?_
  refine lv_istore (lv' := [(5, .int 248157814), (0, .ref h0), (1, .int 1), (2, .int 0), (3, .int 111), (4, .int 0)]) hx hb dX0_node_13 hl (by decide) rfl (fun ls hl => ?_)
  refine lv_iload hx hb dX0_node_15 (lv_at hl 0 rfl) ?_
  refine lv_iload hx hb dX0_node_17 (lv_at hl 0 rfl) ?_
  refine lv_bipush (v := 15) hx hb dX0_node_19 (by decide) ?_
  refine lv_iushr (v := 7573) hx hb dX0_node_21 (by decide) ?_
  refine lv_ixor hx hb dX0_node_22 ?_
  refine x_topi (z := 248155107) (by decide) ?_
  refine lv_istore (lv' := [(5, .int 248155107), (0, .ref h0), (1, .int 1), (2, .int 0), (3, .int 111), (4, .int 0)]) hx hb dX0_node_23 hl (by decide) rfl (fun ls hl => ?_)
  refine lv_aload_n hx hb dX0_node_25 rfl (lv_at hl 1 rfl) ?_
  refine x_get E iX0 hP 0 rfl rfl 11 (by decide) wq20 rfl dX0_node_26 ?_
  refine lv_iload hx hb dX0_node_29 (lv_at hl 0 rfl) ?_
  refine lv_aload_n hx hb dX0_node_31 rfl (lv_at hl 1 rfl) ?_
  refine x_get E iX0 hP 0 rfl rfl 11 (by decide) wq20 rfl dX0_node_32 ?_
  refine x_alen (v := 512) E hP 1 rfl (by decide) dX0_node_35 ?_
  refine lv_iconst (v := 1) hx hb dX0_node_36 (by decide) ?_
  refine lv_isub hx hb dX0_node_37 ?_
  refine x_topi (z := 511) (by decide) ?_
  refine lv_iand hx hb dX0_node_38 ?_
  refine x_topi (z := 483) (by decide) ?_
  refine x_iald (v := (-1)) E hP 1 rfl (by decide) rfl dX0_node_39 ?_
  refine lv_istore (lv' := [(6, .int (-1)), (5, .int 248155107), (0, .ref h0), (1, .int 1), (2, .int 0), (3, .int 111), (4, .int 0)]) hx hb dX0_node_40 hl (by decide) rfl (fun ls hl => ?_)
  refine lv_iconst (v := 0) hx hb dX0_node_42 (by decide) ?_
  refine lv_istore (lv' := [(7, .int 0), (6, .int (-1)), (5, .int 248155107), (0, .ref h0), (1, .int 1), (2, .int 0), (3, .int 111), (4, .int 0)]) hx hb dX0_node_43 hl (by decide) rfl (fun ls hl => ?_)
  refine lv_iload hx hb dX0_node_45 (lv_at hl 0 rfl) ?_
  refine lv_aload_n hx hb dX0_node_47 rfl (lv_at hl 3 rfl) ?_
  refine x_get E iX0 hP 0 rfl rfl 12 (by decide) wq23 rfl dX0_node_48 ?_
  refine lv_icmp_ge (tgt := 119) hx hb dX0_node_51 (by decide) (fun c9 => absurd c9 (by decide)) (fun c9 => ?_)
  refine lv_iload hx hb dX0_node_54 (lv_at hl 1 rfl) ?_
  refine lv_if_lt (tgt := 119) hx hb dX0_node_56 (by decide) (fun c9 => ?_) (fun c9 => absurd (by decide) c9)
  refine lv_aload_n hx hb dX0_node_119 rfl (lv_at hl 3 rfl) ?_
  refine x_get E iX0 hP 0 rfl rfl 12 (by decide) wq23 rfl dX0_node_120 ?_
  refine lv_aload_n hx hb dX0_node_123 rfl (lv_at hl 3 rfl) ?_
  refine x_get E iX0 hP 0 rfl rfl 0 (by decide) wq9 rfl dX0_node_124 ?_
  refine x_alen (v := 512) E hP 2 rfl (by decide) dX0_node_127 ?_
  refine lv_icmp_lt (tgt := 135) hx hb dX0_node_128 (by decide) (fun c9 => ?_) (fun c9 => absurd (by decide) c9)
  refine lv_aload_n hx hb dX0_node_135 rfl (lv_at hl 3 rfl) ?_
  refine x_get E iX0 hP 0 rfl rfl 12 (by decide) wq23 rfl dX0_node_136 ?_
  refine lv_istore (lv' := [(7, .int 1), (6, .int (-1)), (5, .int 248155107), (0, .ref h0), (1, .int 1), (2, .int 0), (3, .int 111), (4, .int 0)]) hx hb dX0_node_139 hl (by decide) rfl (fun ls hl => ?_)
  refine lv_aload_n hx hb dX0_node_141 rfl (lv_at hl 3 rfl) ?_
  refine lv_dup hx hb dX0_node_142 rfl ?_
  refine x_get E iX0 hP 0 rfl rfl 12 (by decide) wq23 rfl dX0_node_143 ?_
  refine lv_iconst (v := 1) hx hb dX0_node_146 (by decide) ?_
  refine lv_iadd hx hb dX0_node_147 ?_
  refine x_topi (z := 2) (by decide) ?_
  refine x_put (ws' := [(h0, .inr (0, [.ref h2, .ref h3, .ref h4, .ref h5, .ref h10, .ref h11, .ref h8, .ref h9, .ref h6, .ref h7, v0_10, .ref h1, .int 2, v0_13])), (h1, .inl (cyI, 512, .inl (upd (fun _ => -1) 0 0))), (h2, .inl (cyI, 512, .inl (upd (fun _ => 0) 0 0))), (h3, .inl (cyI, 512, .inl (upd (fun _ => 0) 0 0))), (h4, .inl (cyI, 512, .inl (upd (fun _ => 0) 0 0))), (h5, .inl (cyI, 512, .inl f5)), (h6, .inl (cyI, 512, .inl (upd (fun _ => 0) 0 0))), (h7, .inl (cyI, 512, .inl f7)), (h8, .inl (cyI, 512, .inl f8)), (h9, .inl (cyI, 512, .inl f9)), (h10, .inl (cyI, 512, .inl f10)), (h11, .inl (cyI, 512, .inl f11))]) E iX0 tyX0 tyX0_ok nmX0 hP hD hS 0 rfl rfl 12 (by decide) wq23 rfl rfl rfl rfl rfl dX0_node_148 (fun H locs hP hD hS => ?_)
  refine lv_aload_n hx hb dX0_node_151 rfl (lv_at hl 3 rfl) ?_
  refine x_get E iX0 hP 0 rfl rfl 0 (by decide) wq9 rfl dX0_node_152 ?_
  refine lv_iload hx hb dX0_node_155 (lv_at hl 0 rfl) ?_
  refine lv_iload_n hx hb dX0_node_157 rfl (lv_at hl 4 rfl) ?_
  refine x_iast (ws' := [(h0, .inr (0, [.ref h2, .ref h3, .ref h4, .ref h5, .ref h10, .ref h11, .ref h8, .ref h9, .ref h6, .ref h7, v0_10, .ref h1, .int 2, v0_13])), (h1, .inl (cyI, 512, .inl (upd (fun _ => -1) 0 0))), (h2, .inl (cyI, 512, .inl (upd (upd (fun _ => 0) 0 0) 1 1))), (h3, .inl (cyI, 512, .inl (upd (fun _ => 0) 0 0))), (h4, .inl (cyI, 512, .inl (upd (fun _ => 0) 0 0))), (h5, .inl (cyI, 512, .inl f5)), (h6, .inl (cyI, 512, .inl (upd (fun _ => 0) 0 0))), (h7, .inl (cyI, 512, .inl f7)), (h8, .inl (cyI, 512, .inl f8)), (h9, .inl (cyI, 512, .inl f9)), (h10, .inl (cyI, 512, .inl f10)), (h11, .inl (cyI, 512, .inl f11))]) E hP hD hS 2 rfl (by decide) rfl rfl dX0_node_158 (fun H locs hP hD hS => ?_)
  refine lv_aload_n hx hb dX0_node_159 rfl (lv_at hl 3 rfl) ?_
  refine x_get E iX0 hP 0 rfl rfl 1 (by decide) wq10 rfl dX0_node_160 ?_
  refine lv_iload hx hb dX0_node_163 (lv_at hl 0 rfl) ?_
  refine lv_iload_n hx hb dX0_node_165 rfl (lv_at hl 5 rfl) ?_
  refine x_iast (ws' := [(h0, .inr (0, [.ref h2, .ref h3, .ref h4, .ref h5, .ref h10, .ref h11, .ref h8, .ref h9, .ref h6, .ref h7, v0_10, .ref h1, .int 2, v0_13])), (h1, .inl (cyI, 512, .inl (upd (fun _ => -1) 0 0))), (h2, .inl (cyI, 512, .inl (upd (upd (fun _ => 0) 0 0) 1 1))), (h3, .inl (cyI, 512, .inl (upd (upd (fun _ => 0) 0 0) 1 0))), (h4, .inl (cyI, 512, .inl (upd (fun _ => 0) 0 0))), (h5, .inl (cyI, 512, .inl f5)), (h6, .inl (cyI, 512, .inl (upd (fun _ => 0) 0 0))), (h7, .inl (cyI, 512, .inl f7)), (h8, .inl (cyI, 512, .inl f8)), (h9, .inl (cyI, 512, .inl f9)), (h10, .inl (cyI, 512, .inl f10)), (h11, .inl (cyI, 512, .inl f11))]) E hP hD hS 3 rfl (by decide) rfl rfl dX0_node_166 (fun H locs hP hD hS => ?_)
  refine lv_aload_n hx hb dX0_node_167 rfl (lv_at hl 3 rfl) ?_
  refine x_get E iX0 hP 0 rfl rfl 2 (by decide) wq11 rfl dX0_node_168 ?_
  refine lv_iload hx hb dX0_node_171 (lv_at hl 0 rfl) ?_
  refine lv_iload_n hx hb dX0_node_173 rfl (lv_at hl 6 rfl) ?_
  refine x_iast (ws' := [(h0, .inr (0, [.ref h2, .ref h3, .ref h4, .ref h5, .ref h10, .ref h11, .ref h8, .ref h9, .ref h6, .ref h7, v0_10, .ref h1, .int 2, v0_13])), (h1, .inl (cyI, 512, .inl (upd (fun _ => -1) 0 0))), (h2, .inl (cyI, 512, .inl (upd (upd (fun _ => 0) 0 0) 1 1))), (h3, .inl (cyI, 512, .inl (upd (upd (fun _ => 0) 0 0) 1 0))), (h4, .inl (cyI, 512, .inl (upd (upd (fun _ => 0) 0 0) 1 111))), (h5, .inl (cyI, 512, .inl f5)), (h6, .inl (cyI, 512, .inl (upd (fun _ => 0) 0 0))), (h7, .inl (cyI, 512, .inl f7)), (h8, .inl (cyI, 512, .inl f8)), (h9, .inl (cyI, 512, .inl f9)), (h10, .inl (cyI, 512, .inl f10)), (h11, .inl (cyI, 512, .inl f11))]) E hP hD hS 4 rfl (by decide) rfl rfl dX0_node_174 (fun H locs hP hD hS => ?_)
  refine lv_aload_n hx hb dX0_node_175 rfl (lv_at hl 3 rfl) ?_
  refine x_get E iX0 hP 0 rfl rfl 3 (by decide) wq12 rfl dX0_node_176 ?_
  refine lv_iload hx hb dX0_node_179 (lv_at hl 0 rfl) ?_
  refine lv_iload hx hb dX0_node_181 (lv_at hl 7 rfl) ?_
  refine x_iast (ws' := [(h0, .inr (0, [.ref h2, .ref h3, .ref h4, .ref h5, .ref h10, .ref h11, .ref h8, .ref h9, .ref h6, .ref h7, v0_10, .ref h1, .int 2, v0_13])), (h1, .inl (cyI, 512, .inl (upd (fun _ => -1) 0 0))), (h2, .inl (cyI, 512, .inl (upd (upd (fun _ => 0) 0 0) 1 1))), (h3, .inl (cyI, 512, .inl (upd (upd (fun _ => 0) 0 0) 1 0))), (h4, .inl (cyI, 512, .inl (upd (upd (fun _ => 0) 0 0) 1 111))), (h5, .inl (cyI, 512, .inl (upd f5 1 0))), (h6, .inl (cyI, 512, .inl (upd (fun _ => 0) 0 0))), (h7, .inl (cyI, 512, .inl f7)), (h8, .inl (cyI, 512, .inl f8)), (h9, .inl (cyI, 512, .inl f9)), (h10, .inl (cyI, 512, .inl f10)), (h11, .inl (cyI, 512, .inl f11))]) E hP hD hS 5 rfl (by decide) rfl rfl dX0_node_183 (fun H locs hP hD hS => ?_)
  refine lv_aload_n hx hb dX0_node_184 rfl (lv_at hl 3 rfl) ?_
  refine x_get E iX0 hP 0 rfl rfl 8 (by decide) wq17 rfl dX0_node_185 ?_
  refine lv_iload hx hb dX0_node_188 (lv_at hl 0 rfl) ?_
  refine lv_iload hx hb dX0_node_190 (lv_at hl 2 rfl) ?_
  refine x_iast (ws' := [(h0, .inr (0, [.ref h2, .ref h3, .ref h4, .ref h5, .ref h10, .ref h11, .ref h8, .ref h9, .ref h6, .ref h7, v0_10, .ref h1, .int 2, v0_13])), (h1, .inl (cyI, 512, .inl (upd (fun _ => -1) 0 0))), (h2, .inl (cyI, 512, .inl (upd (upd (fun _ => 0) 0 0) 1 1))), (h3, .inl (cyI, 512, .inl (upd (upd (fun _ => 0) 0 0) 1 0))), (h4, .inl (cyI, 512, .inl (upd (upd (fun _ => 0) 0 0) 1 111))), (h5, .inl (cyI, 512, .inl (upd f5 1 0))), (h6, .inl (cyI, 512, .inl (upd (upd (fun _ => 0) 0 0) 1 248155107))), (h7, .inl (cyI, 512, .inl f7)), (h8, .inl (cyI, 512, .inl f8)), (h9, .inl (cyI, 512, .inl f9)), (h10, .inl (cyI, 512, .inl f10)), (h11, .inl (cyI, 512, .inl f11))]) E hP hD hS 6 rfl (by decide) rfl rfl dX0_node_192 (fun H locs hP hD hS => ?_)
  refine lv_aload_n hx hb dX0_node_193 rfl (lv_at hl 3 rfl) ?_
  refine lv_iload hx hb dX0_node_194 (lv_at hl 0 rfl) ?_
  refine x_Vv (rest := []) (ws' := fun _ => [(h2, .inl (cyI, 512, .inl (upd (upd (fun _ => 0) 0 0) 1 1))), (h3, .inl (cyI, 512, .inl (upd (upd (fun _ => 0) 0 0) 1 0))), (h4, .inl (cyI, 512, .inl (upd (upd (fun _ => 0) 0 0) 1 111))), (h5, .inl (cyI, 512, .inl (upd f5 1 0))), (h8, .inl (cyI, 512, .inl f8)), (h9, .inl (cyI, 512, .inl f9)), (h10, .inl (cyI, 512, .inl f10)), (h11, .inl (cyI, 512, .inl f11)), (h0, .inr (0, [.ref h2, .ref h3, .ref h4, .ref h5, .ref h10, .ref h11, .ref h8, .ref h9, .ref h6, .ref h7, v0_10, .ref h1, .int 2, v0_13])), (h6, .inl (cyI, 512, .inl (upd (upd (fun _ => 0) 0 0) 1 248155107))), (h1, .inl (cyI, 512, .inl (upd (upd (fun _ => -1) 0 0) 483 1))), (h7, .inl (cyI, 512, .inl (upd f7 1 (-1))))]) (wr := [(h2, .inl (cyI, 512, .inl (upd (upd (fun _ => 0) 0 0) 1 1))), (h3, .inl (cyI, 512, .inl (upd (upd (fun _ => 0) 0 0) 1 0))), (h4, .inl (cyI, 512, .inl (upd (upd (fun _ => 0) 0 0) 1 111))), (h5, .inl (cyI, 512, .inl (upd f5 1 0))), (h8, .inl (cyI, 512, .inl f8)), (h9, .inl (cyI, 512, .inl f9)), (h10, .inl (cyI, 512, .inl f10)), (h11, .inl (cyI, 512, .inl f11))]) E (mX0_link_1 l D cyI cyJ Z h0 h6 h1 h7 (.ref h2) (.ref h3) (.ref h4) (.ref h5) (.ref h10) (.ref h11) (.ref h8) (.ref h9) v0_10 (.int 2) v0_13 f7) kX0_link wq24 wq25 wq26 ⟨rfl, rfl, Nat.le_of_ble_eq_true rfl, Nat.le_of_ble_eq_true rfl⟩ hP hD hS hA [0, 6, 1, 7] [2, 3, 4, 5, 8, 9, 10, 11] rfl rfl (by decide) (fun _ => rfl) 0 rfl rfl rfl hl.1 rfl (Nat.le_of_ble_eq_true rfl) dX0_node_196 ⟨rfl, rfl⟩ ⟨Nat.le_of_ble_eq_true rfl, Nat.le_of_ble_eq_true rfl⟩ (fun _ H locs hP hD hS => ?_)
  refine lv_aload_n hx hb dX0_node_199 rfl (lv_at hl 3 rfl) ?_
  refine lv_iload hx hb dX0_node_200 (lv_at hl 0 rfl) ?_
  refine x_Vv (rest := []) (ws' := fun _ => [(h5, .inl (cyI, 512, .inl (upd f5 1 0))), (h6, .inl (cyI, 512, .inl (upd (upd (fun _ => 0) 0 0) 1 248155107))), (h1, .inl (cyI, 512, .inl (upd (upd (fun _ => -1) 0 0) 483 1))), (h7, .inl (cyI, 512, .inl (upd f7 1 (-1)))), (h0, .inr (0, [.ref h2, .ref h3, .ref h4, .ref h5, .ref h10, .ref h11, .ref h8, .ref h9, .ref h6, .ref h7, v0_10, .ref h1, .int 2, v0_13])), (h4, .inl (cyI, 512, .inl (upd (upd (fun _ => 0) 0 0) 1 111))), (h3, .inl (cyI, 512, .inl (upd (upd (fun _ => 0) 0 0) 1 0))), (h2, .inl (cyI, 512, .inl (upd (upd (fun _ => 0) 0 0) 1 1))), (h8, .inl (cyI, 512, .inl (upd f8 1 0))), (h9, .inl (cyI, 512, .inl (upd f9 1 0))), (h10, .inl (cyI, 512, .inl (upd f10 1 1))), (h11, .inl (cyI, 512, .inl (upd f11 1 0)))]) (wr := [(h5, .inl (cyI, 512, .inl (upd f5 1 0))), (h6, .inl (cyI, 512, .inl (upd (upd (fun _ => 0) 0 0) 1 248155107))), (h1, .inl (cyI, 512, .inl (upd (upd (fun _ => -1) 0 0) 483 1))), (h7, .inl (cyI, 512, .inl (upd f7 1 (-1))))]) E (mX0_measure_1 l D cyI cyJ Z h0 h4 h3 h2 h8 h9 h10 h11 (.ref h5) (.ref h6) (.ref h7) v0_10 (.ref h1) (.int 2) v0_13 f8 f9 f10 f11) kX0_measure wq27 wq28 wq29 ⟨rfl, rfl, Nat.le_of_ble_eq_true rfl, Nat.le_of_ble_eq_true rfl⟩ hP hD hS hA [8, 2, 1, 0, 4, 5, 6, 7] [3, 9, 10, 11] rfl rfl (by decide) (fun _ => rfl) 8 rfl rfl rfl hl.1 rfl (Nat.le_of_ble_eq_true rfl) dX0_node_202 ⟨rfl, rfl⟩ ⟨Nat.le_of_ble_eq_true rfl, Nat.le_of_ble_eq_true rfl⟩ (fun _ H locs hP hD hS => ?_)
  refine lv_iload hx hb dX0_node_205 (lv_at hl 0 rfl) ?_
  exact x_iret E hr hlk hP hD hS () rfl [4, 2, 7, 6, 5, 0, 1, 3, 8, 9, 10, 11] (by decide) rfl rfl dX0_node_207

set_option maxHeartbeats 4000000 in
set_option maxRecDepth 100000 in
theorem mX0_link_2 (l : Launch) (D : va_G) (cyI cyJ : ClassId) (Z : xZ) (h0 : Nat) (h1 : Nat) (h2 : Nat) (h3 : Nat) (v0_0 : Value) (v0_1 : Value) (v0_2 : Value) (v0_3 : Value) (v0_4 : Value) (v0_5 : Value) (v0_6 : Value) (v0_7 : Value) (v0_10 : Value) (v0_12 : Value) (v0_13 : Value) (f3 : Nat → Int32) : MetV l yX0_link (Cond.code yX0_link cX0_link 3 none) { frames := 0, cells := 0, slots := 0, locals := 0 } D cyI cyJ Z [.ref h0, .int 2] [(h0, .inr (0, [v0_0, v0_1, v0_2, v0_3, v0_4, v0_5, v0_6, v0_7, .ref h1, .ref h3, v0_10, .ref h2, v0_12, v0_13])), (h1, .inl (cyI, 512, .inl (upd (upd (upd (fun _ => 0) 0 0) 1 248155107) 2 248155109))), (h2, .inl (cyI, 512, .inl (upd (upd (fun _ => -1) 0 0) 483 1))), (h3, .inl (cyI, 512, .inl f3))] (fun _ : Unit => ([(h0, .inr (0, [v0_0, v0_1, v0_2, v0_3, v0_4, v0_5, v0_6, v0_7, .ref h1, .ref h3, v0_10, .ref h2, v0_12, v0_13])), (h1, .inl (cyI, 512, .inl (upd (upd (upd (fun _ => 0) 0 0) 1 248155107) 2 248155109))), (h2, .inl (cyI, 512, .inl (upd (upd (upd (fun _ => -1) 0 0) 483 1) 485 2))), (h3, .inl (cyI, 512, .inl (upd f3 2 (-1))))] : va_W)) 0 0 := by
  refine met_v (by decide) rfl ?_
  intro p e s m below meth c A ls E hr hlk hnm hP hD hA hl
  have hS : va_S A s.heap s.heap [] := va_S.rf
  have hx := E.1.1
  have hb := E.1.2.1
  have hl : lv_has ls 3 [(0, .ref h0), (1, .int 2)] := hl
  refine lv_aload_n hx hb dX0_link_0 rfl (lv_at hl 0 rfl) ?_
  refine x_get E iX0 hP 0 rfl rfl 8 (by decide) wq17 rfl dX0_link_1 ?_
  refine lv_iload_n hx hb dX0_link_4 rfl (lv_at hl 1 rfl) ?_
  refine x_iald (v := 248155109) E hP 1 rfl (by decide) rfl dX0_link_5 ?_
  refine lv_aload_n hx hb dX0_link_6 rfl (lv_at hl 0 rfl) ?_
  refine x_get E iX0 hP 0 rfl rfl 11 (by decide) wq20 rfl dX0_link_7 ?_
  refine x_alen (v := 512) E hP 2 rfl (by decide) dX0_link_10 ?_
  refine lv_iconst (v := 1) hx hb dX0_link_11 (by decide) ?_
  refine lv_isub hx hb dX0_link_12 ?_
  refine x_topi (z := 511) (by decide) ?_
  refine lv_iand hx hb dX0_link_13 ?_
  refine x_topi (z := 485) (by decide) ?_
  refine lv_istore_n (lv' := [(2, .int 485), (0, .ref h0), (1, .int 2)]) hx hb dX0_link_14 rfl hl (by decide) rfl (fun ls hl => ?_)
  refine lv_aload_n hx hb dX0_link_15 rfl (lv_at hl 1 rfl) ?_
  refine x_get E iX0 hP 0 rfl rfl 9 (by decide) wq18 rfl dX0_link_16 ?_
  refine lv_iload_n hx hb dX0_link_19 rfl (lv_at hl 2 rfl) ?_
  refine lv_aload_n hx hb dX0_link_20 rfl (lv_at hl 1 rfl) ?_
  refine x_get E iX0 hP 0 rfl rfl 11 (by decide) wq20 rfl dX0_link_21 ?_
  refine lv_iload_n hx hb dX0_link_24 rfl (lv_at hl 0 rfl) ?_
  refine x_iald (v := (-1)) E hP 2 rfl (by decide) rfl dX0_link_25 ?_
  refine x_iast (ws' := [(h0, .inr (0, [v0_0, v0_1, v0_2, v0_3, v0_4, v0_5, v0_6, v0_7, .ref h1, .ref h3, v0_10, .ref h2, v0_12, v0_13])), (h1, .inl (cyI, 512, .inl (upd (upd (upd (fun _ => 0) 0 0) 1 248155107) 2 248155109))), (h2, .inl (cyI, 512, .inl (upd (upd (fun _ => -1) 0 0) 483 1))), (h3, .inl (cyI, 512, .inl (upd f3 2 (-1))))]) E hP hD hS 3 rfl (by decide) rfl rfl dX0_link_26 (fun H locs hP hD hS => ?_)
  refine lv_aload_n hx hb dX0_link_27 rfl (lv_at hl 1 rfl) ?_
  refine x_get E iX0 hP 0 rfl rfl 11 (by decide) wq20 rfl dX0_link_28 ?_
  refine lv_iload_n hx hb dX0_link_31 rfl (lv_at hl 0 rfl) ?_
  refine lv_iload_n hx hb dX0_link_32 rfl (lv_at hl 2 rfl) ?_
  refine x_iast (ws' := [(h0, .inr (0, [v0_0, v0_1, v0_2, v0_3, v0_4, v0_5, v0_6, v0_7, .ref h1, .ref h3, v0_10, .ref h2, v0_12, v0_13])), (h1, .inl (cyI, 512, .inl (upd (upd (upd (fun _ => 0) 0 0) 1 248155107) 2 248155109))), (h2, .inl (cyI, 512, .inl (upd (upd (upd (fun _ => -1) 0 0) 483 1) 485 2))), (h3, .inl (cyI, 512, .inl (upd f3 2 (-1))))]) E hP hD hS 2 rfl (by decide) rfl rfl dX0_link_33 (fun H locs hP hD hS => ?_)
  exact x_vret E hr hlk hP hD hS () [0, 1, 2, 3] (by decide) rfl dX0_link_34

set_option maxHeartbeats 4000000 in
set_option maxRecDepth 100000 in
theorem mX0_measure_2 (l : Launch) (D : va_G) (cyI cyJ : ClassId) (Z : xZ) (h0 : Nat) (h1 : Nat) (h2 : Nat) (h3 : Nat) (h4 : Nat) (h5 : Nat) (h6 : Nat) (h7 : Nat) (v0_3 : Value) (v0_8 : Value) (v0_9 : Value) (v0_10 : Value) (v0_11 : Value) (v0_12 : Value) (v0_13 : Value) (f4 : Nat → Int32) (f5 : Nat → Int32) (f6 : Nat → Int32) (f7 : Nat → Int32) : MetV l yX0_measure (Cond.code yX0_measure cX0_measure 6 none) { frames := 0, cells := 0, slots := 0, locals := 0 } D cyI cyJ Z [.ref h0, .int 2] [(h0, .inr (0, [.ref h3, .ref h2, .ref h1, v0_3, .ref h6, .ref h7, .ref h4, .ref h5, v0_8, v0_9, v0_10, v0_11, v0_12, v0_13])), (h1, .inl (cyI, 512, .inl (upd (upd (upd (fun _ => 0) 0 0) 1 111) 2 105))), (h2, .inl (cyI, 512, .inl (upd (upd (upd (fun _ => 0) 0 0) 1 0) 2 0))), (h3, .inl (cyI, 512, .inl (upd (upd (upd (fun _ => 0) 0 0) 1 1) 2 1))), (h4, .inl (cyI, 512, .inl f4)), (h5, .inl (cyI, 512, .inl f5)), (h6, .inl (cyI, 512, .inl f6)), (h7, .inl (cyI, 512, .inl f7))] (fun _ : Unit => ([(h0, .inr (0, [.ref h3, .ref h2, .ref h1, v0_3, .ref h6, .ref h7, .ref h4, .ref h5, v0_8, v0_9, v0_10, v0_11, v0_12, v0_13])), (h1, .inl (cyI, 512, .inl (upd (upd (upd (fun _ => 0) 0 0) 1 111) 2 105))), (h2, .inl (cyI, 512, .inl (upd (upd (upd (fun _ => 0) 0 0) 1 0) 2 0))), (h3, .inl (cyI, 512, .inl (upd (upd (upd (fun _ => 0) 0 0) 1 1) 2 1))), (h4, .inl (cyI, 512, .inl (upd f4 2 0))), (h5, .inl (cyI, 512, .inl (upd f5 2 0))), (h6, .inl (cyI, 512, .inl (upd f6 2 1))), (h7, .inl (cyI, 512, .inl (upd f7 2 0)))] : va_W)) 0 0 := by
  refine met_v (by decide) rfl ?_
  intro p e s m below meth c A ls E hr hlk hnm hP hD hA hl
  have hS : va_S A s.heap s.heap [] := va_S.rf
  have hx := E.1.1
  have hb := E.1.2.1
  have hl : lv_has ls 6 [(0, .ref h0), (1, .int 2)] := hl
  refine lv_aload_n hx hb dX0_measure_0 rfl (lv_at hl 0 rfl) ?_
  refine x_get E iX0 hP 0 rfl rfl 2 (by decide) wq11 rfl dX0_measure_1 ?_
  refine lv_iload_n hx hb dX0_measure_4 rfl (lv_at hl 1 rfl) ?_
  refine x_iald (v := 105) E hP 1 rfl (by decide) rfl dX0_measure_5 ?_
  refine lv_istore_n (lv' := [(2, .int 105), (0, .ref h0), (1, .int 2)]) hx hb dX0_measure_6 rfl hl (by decide) rfl (fun ls hl => ?_)
  refine lv_aload_n hx hb dX0_measure_7 rfl (lv_at hl 1 rfl) ?_
  refine x_get E iX0 hP 0 rfl rfl 1 (by decide) wq10 rfl dX0_measure_8 ?_
  refine lv_iload_n hx hb dX0_measure_11 rfl (lv_at hl 2 rfl) ?_
  refine x_iald (v := 0) E hP 2 rfl (by decide) rfl dX0_measure_12 ?_
  refine lv_if_lt (tgt := 35) hx hb dX0_measure_13 (by decide) (fun c9 => absurd c9 (by decide)) (fun c9 => ?_)
  refine lv_aload_n hx hb dX0_measure_16 rfl (lv_at hl 1 rfl) ?_
  refine x_get E iX0 hP 0 rfl rfl 1 (by decide) wq10 rfl dX0_measure_17 ?_
  refine lv_iload_n hx hb dX0_measure_20 rfl (lv_at hl 2 rfl) ?_
  refine x_iald (v := 0) E hP 2 rfl (by decide) rfl dX0_measure_21 ?_
  refine lv_iload_n hx hb dX0_measure_22 rfl (lv_at hl 2 rfl) ?_
  refine lv_icmp_ge (tgt := 35) hx hb dX0_measure_23 (by decide) (fun c9 => absurd c9 (by decide)) (fun c9 => ?_)
  refine lv_aload_n hx hb dX0_measure_26 rfl (lv_at hl 1 rfl) ?_
  refine x_get E iX0 hP 0 rfl rfl 1 (by decide) wq10 rfl dX0_measure_27 ?_
  refine lv_iload_n hx hb dX0_measure_30 rfl (lv_at hl 2 rfl) ?_
  refine x_iald (v := 0) E hP 2 rfl (by decide) rfl dX0_measure_31 ?_
  refine lv_goto (tgt := 36) hx hb dX0_measure_32 (by decide) ?_
  refine lv_istore_n (lv' := [(3, .int 0), (2, .int 105), (0, .ref h0), (1, .int 2)]) hx hb dX0_measure_36 rfl hl (by decide) rfl (fun ls hl => ?_)
  refine lv_iload_n hx hb dX0_measure_37 rfl (lv_at hl 1 rfl) ?_
  refine lv_if_lt (tgt := 50) hx hb dX0_measure_38 (by decide) (fun c9 => absurd c9 (by decide)) (fun c9 => ?_)
  refine lv_iload_n hx hb dX0_measure_41 rfl (lv_at hl 1 rfl) ?_
  refine lv_iload_n hx hb dX0_measure_42 rfl (lv_at hl 3 rfl) ?_
  refine lv_icmp_ge (tgt := 50) hx hb dX0_measure_43 (by decide) (fun c9 => ?_) (fun c9 => absurd (by decide) c9)
  refine lv_iconst (v := 0) hx hb dX0_measure_50 (by decide) ?_
  refine lv_istore (lv' := [(4, .int 0), (3, .int 0), (2, .int 105), (0, .ref h0), (1, .int 2)]) hx hb dX0_measure_51 hl (by decide) rfl (fun ls hl => ?_)
  refine lv_aload_n hx hb dX0_measure_53 rfl (lv_at hl 3 rfl) ?_
  refine x_get E iX0 hP 0 rfl rfl 0 (by decide) wq9 rfl dX0_measure_54 ?_
  refine lv_iload_n hx hb dX0_measure_57 rfl (lv_at hl 4 rfl) ?_
  refine x_iald (v := 1) E hP 3 rfl (by decide) rfl dX0_measure_58 ?_
  refine lv_bipush (v := 7) hx hb dX0_measure_59 (by decide) ?_
  refine lv_icmp_lt (tgt := 68) hx hb dX0_measure_61 (by decide) (fun c9 => ?_) (fun c9 => absurd (by decide) c9)
  refine lv_iconst (v := 0) hx hb dX0_measure_68 (by decide) ?_
  refine lv_istore (lv' := [(5, .int 0), (4, .int 0), (3, .int 0), (2, .int 105), (0, .ref h0), (1, .int 2)]) hx hb dX0_measure_69 hl (by decide) rfl (fun ls hl => ?_)
  refine lv_aload_n hx hb dX0_measure_71 rfl (lv_at hl 4 rfl) ?_
  refine x_get E iX0 hP 0 rfl rfl 6 (by decide) wq15 rfl dX0_measure_72 ?_
  refine lv_iload_n hx hb dX0_measure_75 rfl (lv_at hl 5 rfl) ?_
  refine lv_iload hx hb dX0_measure_76 (lv_at hl 0 rfl) ?_
  refine lv_if_eq (tgt := 98) hx hb dX0_measure_78 (by decide) (fun c9 => ?_) (fun c9 => absurd (by decide) c9)
  refine lv_iconst (v := 0) hx hb dX0_measure_98 (by decide) ?_
  refine x_iast (ws' := [(h0, .inr (0, [.ref h3, .ref h2, .ref h1, v0_3, .ref h6, .ref h7, .ref h4, .ref h5, v0_8, v0_9, v0_10, v0_11, v0_12, v0_13])), (h1, .inl (cyI, 512, .inl (upd (upd (upd (fun _ => 0) 0 0) 1 111) 2 105))), (h2, .inl (cyI, 512, .inl (upd (upd (upd (fun _ => 0) 0 0) 1 0) 2 0))), (h3, .inl (cyI, 512, .inl (upd (upd (upd (fun _ => 0) 0 0) 1 1) 2 1))), (h4, .inl (cyI, 512, .inl (upd f4 2 0))), (h5, .inl (cyI, 512, .inl f5)), (h6, .inl (cyI, 512, .inl f6)), (h7, .inl (cyI, 512, .inl f7))]) E hP hD hS 4 rfl (by decide) rfl rfl dX0_measure_99 (fun H locs hP hD hS => ?_)
  refine lv_aload_n hx hb dX0_measure_100 rfl (lv_at hl 4 rfl) ?_
  refine x_get E iX0 hP 0 rfl rfl 7 (by decide) wq16 rfl dX0_measure_101 ?_
  refine lv_iload_n hx hb dX0_measure_104 rfl (lv_at hl 5 rfl) ?_
  refine lv_iload hx hb dX0_measure_105 (lv_at hl 0 rfl) ?_
  refine lv_if_eq (tgt := 127) hx hb dX0_measure_107 (by decide) (fun c9 => ?_) (fun c9 => absurd (by decide) c9)
  refine lv_iconst (v := 0) hx hb dX0_measure_127 (by decide) ?_
  refine x_iast (ws' := [(h0, .inr (0, [.ref h3, .ref h2, .ref h1, v0_3, .ref h6, .ref h7, .ref h4, .ref h5, v0_8, v0_9, v0_10, v0_11, v0_12, v0_13])), (h1, .inl (cyI, 512, .inl (upd (upd (upd (fun _ => 0) 0 0) 1 111) 2 105))), (h2, .inl (cyI, 512, .inl (upd (upd (upd (fun _ => 0) 0 0) 1 0) 2 0))), (h3, .inl (cyI, 512, .inl (upd (upd (upd (fun _ => 0) 0 0) 1 1) 2 1))), (h4, .inl (cyI, 512, .inl (upd f4 2 0))), (h5, .inl (cyI, 512, .inl (upd f5 2 0))), (h6, .inl (cyI, 512, .inl f6)), (h7, .inl (cyI, 512, .inl f7))]) E hP hD hS 5 rfl (by decide) rfl rfl dX0_measure_128 (fun H locs hP hD hS => ?_)
  refine lv_aload_n hx hb dX0_measure_129 rfl (lv_at hl 4 rfl) ?_
  refine x_get E iX0 hP 0 rfl rfl 4 (by decide) wq13 rfl dX0_measure_130 ?_
  refine lv_iload_n hx hb dX0_measure_133 rfl (lv_at hl 5 rfl) ?_
  refine lv_iconst (v := 1) hx hb dX0_measure_134 (by decide) ?_
  refine x_iast (ws' := [(h0, .inr (0, [.ref h3, .ref h2, .ref h1, v0_3, .ref h6, .ref h7, .ref h4, .ref h5, v0_8, v0_9, v0_10, v0_11, v0_12, v0_13])), (h1, .inl (cyI, 512, .inl (upd (upd (upd (fun _ => 0) 0 0) 1 111) 2 105))), (h2, .inl (cyI, 512, .inl (upd (upd (upd (fun _ => 0) 0 0) 1 0) 2 0))), (h3, .inl (cyI, 512, .inl (upd (upd (upd (fun _ => 0) 0 0) 1 1) 2 1))), (h4, .inl (cyI, 512, .inl (upd f4 2 0))), (h5, .inl (cyI, 512, .inl (upd f5 2 0))), (h6, .inl (cyI, 512, .inl (upd f6 2 1))), (h7, .inl (cyI, 512, .inl f7))]) E hP hD hS 6 rfl (by decide) rfl rfl dX0_measure_135 (fun H locs hP hD hS => ?_)
  refine lv_aload_n hx hb dX0_measure_136 rfl (lv_at hl 4 rfl) ?_
  refine x_get E iX0 hP 0 rfl rfl 5 (by decide) wq14 rfl dX0_measure_137 ?_
  refine lv_iload_n hx hb dX0_measure_140 rfl (lv_at hl 5 rfl) ?_
  refine lv_iconst (v := 0) hx hb dX0_measure_141 (by decide) ?_
  refine x_iast (ws' := [(h0, .inr (0, [.ref h3, .ref h2, .ref h1, v0_3, .ref h6, .ref h7, .ref h4, .ref h5, v0_8, v0_9, v0_10, v0_11, v0_12, v0_13])), (h1, .inl (cyI, 512, .inl (upd (upd (upd (fun _ => 0) 0 0) 1 111) 2 105))), (h2, .inl (cyI, 512, .inl (upd (upd (upd (fun _ => 0) 0 0) 1 0) 2 0))), (h3, .inl (cyI, 512, .inl (upd (upd (upd (fun _ => 0) 0 0) 1 1) 2 1))), (h4, .inl (cyI, 512, .inl (upd f4 2 0))), (h5, .inl (cyI, 512, .inl (upd f5 2 0))), (h6, .inl (cyI, 512, .inl (upd f6 2 1))), (h7, .inl (cyI, 512, .inl (upd f7 2 0)))]) E hP hD hS 7 rfl (by decide) rfl rfl dX0_measure_142 (fun H locs hP hD hS => ?_)
  refine lv_aload_n hx hb dX0_measure_143 rfl (lv_at hl 4 rfl) ?_
  refine x_get E iX0 hP 0 rfl rfl 0 (by decide) wq9 rfl dX0_measure_144 ?_
  refine lv_iload_n hx hb dX0_measure_147 rfl (lv_at hl 5 rfl) ?_
  refine x_iald (v := 1) E hP 3 rfl (by decide) rfl dX0_measure_148 ?_
  refine lv_tableIn (tgt := 400) (off := 251) hx hb dX0_measure_149 (by decide) (by decide) (by decide) (by decide) ?_
  exact x_vret E hr hlk hP hD hS () [0, 1, 2, 3, 4, 5, 6, 7] (by decide) rfl dX0_measure_400

set_option maxHeartbeats 4000000 in
set_option maxRecDepth 100000 in
theorem mX0_node_2 (l : Launch) (D : va_G) (cyI cyJ : ClassId) (Z : xZ) (h0 : Nat) (h1 : Nat) (h2 : Nat) (h3 : Nat) (h4 : Nat) (h5 : Nat) (h6 : Nat) (h7 : Nat) (h8 : Nat) (h9 : Nat) (h10 : Nat) (h11 : Nat) (v0_10 : Value) (v0_13 : Value) (f5 : Nat → Int32) (f7 : Nat → Int32) (f8 : Nat → Int32) (f9 : Nat → Int32) (f10 : Nat → Int32) (f11 : Nat → Int32) : MetI l yX0_node (Cond.code yX0_node cX0_node 8 (some .int)) { frames := 1, cells := 0, slots := 0, locals := 25 } D cyI cyJ Z [.ref h0, .int 1, .int 0, .int 105, .int 0] [(h0, .inr (0, [.ref h2, .ref h3, .ref h4, .ref h5, .ref h10, .ref h11, .ref h8, .ref h9, .ref h6, .ref h7, v0_10, .ref h1, .int 2, v0_13])), (h1, .inl (cyI, 512, .inl (upd (upd (fun _ => -1) 0 0) 483 1))), (h2, .inl (cyI, 512, .inl (upd (upd (fun _ => 0) 0 0) 1 1))), (h3, .inl (cyI, 512, .inl (upd (upd (fun _ => 0) 0 0) 1 0))), (h4, .inl (cyI, 512, .inl (upd (upd (fun _ => 0) 0 0) 1 111))), (h5, .inl (cyI, 512, .inl f5)), (h6, .inl (cyI, 512, .inl (upd (upd (fun _ => 0) 0 0) 1 248155107))), (h7, .inl (cyI, 512, .inl f7)), (h8, .inl (cyI, 512, .inl f8)), (h9, .inl (cyI, 512, .inl f9)), (h10, .inl (cyI, 512, .inl f10)), (h11, .inl (cyI, 512, .inl f11))] (fun _ : Unit => 2) (fun _ : Unit => ([(h0, .inr (0, [.ref h2, .ref h3, .ref h4, .ref h5, .ref h10, .ref h11, .ref h8, .ref h9, .ref h6, .ref h7, v0_10, .ref h1, .int 3, v0_13])), (h1, .inl (cyI, 512, .inl (upd (upd (upd (fun _ => -1) 0 0) 483 1) 485 2))), (h2, .inl (cyI, 512, .inl (upd (upd (upd (fun _ => 0) 0 0) 1 1) 2 1))), (h3, .inl (cyI, 512, .inl (upd (upd (upd (fun _ => 0) 0 0) 1 0) 2 0))), (h4, .inl (cyI, 512, .inl (upd (upd (upd (fun _ => 0) 0 0) 1 111) 2 105))), (h5, .inl (cyI, 512, .inl (upd f5 2 0))), (h6, .inl (cyI, 512, .inl (upd (upd (upd (fun _ => 0) 0 0) 1 248155107) 2 248155109))), (h7, .inl (cyI, 512, .inl (upd f7 2 (-1)))), (h8, .inl (cyI, 512, .inl (upd f8 2 0))), (h9, .inl (cyI, 512, .inl (upd f9 2 0))), (h10, .inl (cyI, 512, .inl (upd f10 2 1))), (h11, .inl (cyI, 512, .inl (upd f11 2 0)))] : va_W)) 0 0 := by
  refine met_i (by decide) rfl ?_
  intro p e s m below meth c A ls E hr hlk hP hD hA hl
  have hS : va_S A s.heap s.heap [] := va_S.rf
  have hx := E.1.1
  have hb := E.1.2.1
  have hl : lv_has ls 8 [(0, .ref h0), (1, .int 1), (2, .int 0), (3, .int 105), (4, .int 0)] := hl
  refine lv_iload_n hx hb dX0_node_0 rfl (lv_at hl 1 rfl) ?_
  refine lv_sipush (v := 7919) hx hb dX0_node_1 (by decide) ?_
  refine lv_imul hx hb dX0_node_4 ?_
  refine x_topi (z := 7919) (by decide) ?_
  refine lv_iload_n hx hb dX0_node_5 rfl (lv_at hl 2 rfl) ?_
  refine lv_iadd hx hb dX0_node_6 ?_
  refine x_topi (z := 7919) (by decide) ?_
  refine lv_sipush (v := 31337) hx hb dX0_node_7 (by decide) ?_
  refine lv_imul hx hb dX0_node_10 ?_
  refine x_topi (z := 248157703) (by decide) ?_
  refine lv_iload_n hx hb dX0_node_11 rfl (lv_at hl 3 rfl) ?_
  refine lv_iadd hx hb dX0_node_12 ?_
  refine x_topi (z := 248157808) (by decide) ?_
  refine lv_istore (lv' := [(5, .int 248157808), (0, .ref h0), (1, .int 1), (2, .int 0), (3, .int 105), (4, .int 0)]) hx hb dX0_node_13 hl (by decide) rfl (fun ls hl => ?_)
  refine lv_iload hx hb dX0_node_15 (lv_at hl 0 rfl) ?_
  refine lv_iload hx hb dX0_node_17 (lv_at hl 0 rfl) ?_
  refine lv_bipush (v := 15) hx hb dX0_node_19 (by decide) ?_
  refine lv_iushr (v := 7573) hx hb dX0_node_21 (by decide) ?_
  refine lv_ixor hx hb dX0_node_22 ?_
  refine x_topi (z := 248155109) (by decide) ?_
  refine lv_istore (lv' := [(5, .int 248155109), (0, .ref h0), (1, .int 1), (2, .int 0), (3, .int 105), (4, .int 0)]) hx hb dX0_node_23 hl (by decide) rfl (fun ls hl => ?_)
  refine lv_aload_n hx hb dX0_node_25 rfl (lv_at hl 1 rfl) ?_
  refine x_get E iX0 hP 0 rfl rfl 11 (by decide) wq20 rfl dX0_node_26 ?_
  refine lv_iload hx hb dX0_node_29 (lv_at hl 0 rfl) ?_
  refine lv_aload_n hx hb dX0_node_31 rfl (lv_at hl 1 rfl) ?_
  refine x_get E iX0 hP 0 rfl rfl 11 (by decide) wq20 rfl dX0_node_32 ?_
  refine x_alen (v := 512) E hP 1 rfl (by decide) dX0_node_35 ?_
  refine lv_iconst (v := 1) hx hb dX0_node_36 (by decide) ?_
  refine lv_isub hx hb dX0_node_37 ?_
  refine x_topi (z := 511) (by decide) ?_
  refine lv_iand hx hb dX0_node_38 ?_
  refine x_topi (z := 485) (by decide) ?_
  refine x_iald (v := (-1)) E hP 1 rfl (by decide) rfl dX0_node_39 ?_
  refine lv_istore (lv' := [(6, .int (-1)), (5, .int 248155109), (0, .ref h0), (1, .int 1), (2, .int 0), (3, .int 105), (4, .int 0)]) hx hb dX0_node_40 hl (by decide) rfl (fun ls hl => ?_)
  refine lv_iconst (v := 0) hx hb dX0_node_42 (by decide) ?_
  refine lv_istore (lv' := [(7, .int 0), (6, .int (-1)), (5, .int 248155109), (0, .ref h0), (1, .int 1), (2, .int 0), (3, .int 105), (4, .int 0)]) hx hb dX0_node_43 hl (by decide) rfl (fun ls hl => ?_)
  refine lv_iload hx hb dX0_node_45 (lv_at hl 0 rfl) ?_
  refine lv_aload_n hx hb dX0_node_47 rfl (lv_at hl 3 rfl) ?_
  refine x_get E iX0 hP 0 rfl rfl 12 (by decide) wq23 rfl dX0_node_48 ?_
  refine lv_icmp_ge (tgt := 119) hx hb dX0_node_51 (by decide) (fun c9 => absurd c9 (by decide)) (fun c9 => ?_)
  refine lv_iload hx hb dX0_node_54 (lv_at hl 1 rfl) ?_
  refine lv_if_lt (tgt := 119) hx hb dX0_node_56 (by decide) (fun c9 => ?_) (fun c9 => absurd (by decide) c9)
  refine lv_aload_n hx hb dX0_node_119 rfl (lv_at hl 3 rfl) ?_
  refine x_get E iX0 hP 0 rfl rfl 12 (by decide) wq23 rfl dX0_node_120 ?_
  refine lv_aload_n hx hb dX0_node_123 rfl (lv_at hl 3 rfl) ?_
  refine x_get E iX0 hP 0 rfl rfl 0 (by decide) wq9 rfl dX0_node_124 ?_
  refine x_alen (v := 512) E hP 2 rfl (by decide) dX0_node_127 ?_
  refine lv_icmp_lt (tgt := 135) hx hb dX0_node_128 (by decide) (fun c9 => ?_) (fun c9 => absurd (by decide) c9)
  refine lv_aload_n hx hb dX0_node_135 rfl (lv_at hl 3 rfl) ?_
  refine x_get E iX0 hP 0 rfl rfl 12 (by decide) wq23 rfl dX0_node_136 ?_
  refine lv_istore (lv' := [(7, .int 2), (6, .int (-1)), (5, .int 248155109), (0, .ref h0), (1, .int 1), (2, .int 0), (3, .int 105), (4, .int 0)]) hx hb dX0_node_139 hl (by decide) rfl (fun ls hl => ?_)
  refine lv_aload_n hx hb dX0_node_141 rfl (lv_at hl 3 rfl) ?_
  refine lv_dup hx hb dX0_node_142 rfl ?_
  refine x_get E iX0 hP 0 rfl rfl 12 (by decide) wq23 rfl dX0_node_143 ?_
  refine lv_iconst (v := 1) hx hb dX0_node_146 (by decide) ?_
  refine lv_iadd hx hb dX0_node_147 ?_
  refine x_topi (z := 3) (by decide) ?_
  refine x_put (ws' := [(h0, .inr (0, [.ref h2, .ref h3, .ref h4, .ref h5, .ref h10, .ref h11, .ref h8, .ref h9, .ref h6, .ref h7, v0_10, .ref h1, .int 3, v0_13])), (h1, .inl (cyI, 512, .inl (upd (upd (fun _ => -1) 0 0) 483 1))), (h2, .inl (cyI, 512, .inl (upd (upd (fun _ => 0) 0 0) 1 1))), (h3, .inl (cyI, 512, .inl (upd (upd (fun _ => 0) 0 0) 1 0))), (h4, .inl (cyI, 512, .inl (upd (upd (fun _ => 0) 0 0) 1 111))), (h5, .inl (cyI, 512, .inl f5)), (h6, .inl (cyI, 512, .inl (upd (upd (fun _ => 0) 0 0) 1 248155107))), (h7, .inl (cyI, 512, .inl f7)), (h8, .inl (cyI, 512, .inl f8)), (h9, .inl (cyI, 512, .inl f9)), (h10, .inl (cyI, 512, .inl f10)), (h11, .inl (cyI, 512, .inl f11))]) E iX0 tyX0 tyX0_ok nmX0 hP hD hS 0 rfl rfl 12 (by decide) wq23 rfl rfl rfl rfl rfl dX0_node_148 (fun H locs hP hD hS => ?_)
  refine lv_aload_n hx hb dX0_node_151 rfl (lv_at hl 3 rfl) ?_
  refine x_get E iX0 hP 0 rfl rfl 0 (by decide) wq9 rfl dX0_node_152 ?_
  refine lv_iload hx hb dX0_node_155 (lv_at hl 0 rfl) ?_
  refine lv_iload_n hx hb dX0_node_157 rfl (lv_at hl 4 rfl) ?_
  refine x_iast (ws' := [(h0, .inr (0, [.ref h2, .ref h3, .ref h4, .ref h5, .ref h10, .ref h11, .ref h8, .ref h9, .ref h6, .ref h7, v0_10, .ref h1, .int 3, v0_13])), (h1, .inl (cyI, 512, .inl (upd (upd (fun _ => -1) 0 0) 483 1))), (h2, .inl (cyI, 512, .inl (upd (upd (upd (fun _ => 0) 0 0) 1 1) 2 1))), (h3, .inl (cyI, 512, .inl (upd (upd (fun _ => 0) 0 0) 1 0))), (h4, .inl (cyI, 512, .inl (upd (upd (fun _ => 0) 0 0) 1 111))), (h5, .inl (cyI, 512, .inl f5)), (h6, .inl (cyI, 512, .inl (upd (upd (fun _ => 0) 0 0) 1 248155107))), (h7, .inl (cyI, 512, .inl f7)), (h8, .inl (cyI, 512, .inl f8)), (h9, .inl (cyI, 512, .inl f9)), (h10, .inl (cyI, 512, .inl f10)), (h11, .inl (cyI, 512, .inl f11))]) E hP hD hS 2 rfl (by decide) rfl rfl dX0_node_158 (fun H locs hP hD hS => ?_)
  refine lv_aload_n hx hb dX0_node_159 rfl (lv_at hl 3 rfl) ?_
  refine x_get E iX0 hP 0 rfl rfl 1 (by decide) wq10 rfl dX0_node_160 ?_
  refine lv_iload hx hb dX0_node_163 (lv_at hl 0 rfl) ?_
  refine lv_iload_n hx hb dX0_node_165 rfl (lv_at hl 5 rfl) ?_
  refine x_iast (ws' := [(h0, .inr (0, [.ref h2, .ref h3, .ref h4, .ref h5, .ref h10, .ref h11, .ref h8, .ref h9, .ref h6, .ref h7, v0_10, .ref h1, .int 3, v0_13])), (h1, .inl (cyI, 512, .inl (upd (upd (fun _ => -1) 0 0) 483 1))), (h2, .inl (cyI, 512, .inl (upd (upd (upd (fun _ => 0) 0 0) 1 1) 2 1))), (h3, .inl (cyI, 512, .inl (upd (upd (upd (fun _ => 0) 0 0) 1 0) 2 0))), (h4, .inl (cyI, 512, .inl (upd (upd (fun _ => 0) 0 0) 1 111))), (h5, .inl (cyI, 512, .inl f5)), (h6, .inl (cyI, 512, .inl (upd (upd (fun _ => 0) 0 0) 1 248155107))), (h7, .inl (cyI, 512, .inl f7)), (h8, .inl (cyI, 512, .inl f8)), (h9, .inl (cyI, 512, .inl f9)), (h10, .inl (cyI, 512, .inl f10)), (h11, .inl (cyI, 512, .inl f11))]) E hP hD hS 3 rfl (by decide) rfl rfl dX0_node_166 (fun H locs hP hD hS => ?_)
  refine lv_aload_n hx hb dX0_node_167 rfl (lv_at hl 3 rfl) ?_
  refine x_get E iX0 hP 0 rfl rfl 2 (by decide) wq11 rfl dX0_node_168 ?_
  refine lv_iload hx hb dX0_node_171 (lv_at hl 0 rfl) ?_
  refine lv_iload_n hx hb dX0_node_173 rfl (lv_at hl 6 rfl) ?_
  refine x_iast (ws' := [(h0, .inr (0, [.ref h2, .ref h3, .ref h4, .ref h5, .ref h10, .ref h11, .ref h8, .ref h9, .ref h6, .ref h7, v0_10, .ref h1, .int 3, v0_13])), (h1, .inl (cyI, 512, .inl (upd (upd (fun _ => -1) 0 0) 483 1))), (h2, .inl (cyI, 512, .inl (upd (upd (upd (fun _ => 0) 0 0) 1 1) 2 1))), (h3, .inl (cyI, 512, .inl (upd (upd (upd (fun _ => 0) 0 0) 1 0) 2 0))), (h4, .inl (cyI, 512, .inl (upd (upd (upd (fun _ => 0) 0 0) 1 111) 2 105))), (h5, .inl (cyI, 512, .inl f5)), (h6, .inl (cyI, 512, .inl (upd (upd (fun _ => 0) 0 0) 1 248155107))), (h7, .inl (cyI, 512, .inl f7)), (h8, .inl (cyI, 512, .inl f8)), (h9, .inl (cyI, 512, .inl f9)), (h10, .inl (cyI, 512, .inl f10)), (h11, .inl (cyI, 512, .inl f11))]) E hP hD hS 4 rfl (by decide) rfl rfl dX0_node_174 (fun H locs hP hD hS => ?_)
  refine lv_aload_n hx hb dX0_node_175 rfl (lv_at hl 3 rfl) ?_
  refine x_get E iX0 hP 0 rfl rfl 3 (by decide) wq12 rfl dX0_node_176 ?_
  refine lv_iload hx hb dX0_node_179 (lv_at hl 0 rfl) ?_
  refine lv_iload hx hb dX0_node_181 (lv_at hl 7 rfl) ?_
  refine x_iast (ws' := [(h0, .inr (0, [.ref h2, .ref h3, .ref h4, .ref h5, .ref h10, .ref h11, .ref h8, .ref h9, .ref h6, .ref h7, v0_10, .ref h1, .int 3, v0_13])), (h1, .inl (cyI, 512, .inl (upd (upd (fun _ => -1) 0 0) 483 1))), (h2, .inl (cyI, 512, .inl (upd (upd (upd (fun _ => 0) 0 0) 1 1) 2 1))), (h3, .inl (cyI, 512, .inl (upd (upd (upd (fun _ => 0) 0 0) 1 0) 2 0))), (h4, .inl (cyI, 512, .inl (upd (upd (upd (fun _ => 0) 0 0) 1 111) 2 105))), (h5, .inl (cyI, 512, .inl (upd f5 2 0))), (h6, .inl (cyI, 512, .inl (upd (upd (fun _ => 0) 0 0) 1 248155107))), (h7, .inl (cyI, 512, .inl f7)), (h8, .inl (cyI, 512, .inl f8)), (h9, .inl (cyI, 512, .inl f9)), (h10, .inl (cyI, 512, .inl f10)), (h11, .inl (cyI, 512, .inl f11))]) E hP hD hS 5 rfl (by decide) rfl rfl dX0_node_183 (fun H locs hP hD hS => ?_)
  refine lv_aload_n hx hb dX0_node_184 rfl (lv_at hl 3 rfl) ?_
  refine x_get E iX0 hP 0 rfl rfl 8 (by decide) wq17 rfl dX0_node_185 ?_
  refine lv_iload hx hb dX0_node_188 (lv_at hl 0 rfl) ?_
  refine lv_iload hx hb dX0_node_190 (lv_at hl 2 rfl) ?_
  refine x_iast (ws' := [(h0, .inr (0, [.ref h2, .ref h3, .ref h4, .ref h5, .ref h10, .ref h11, .ref h8, .ref h9, .ref h6, .ref h7, v0_10, .ref h1, .int 3, v0_13])), (h1, .inl (cyI, 512, .inl (upd (upd (fun _ => -1) 0 0) 483 1))), (h2, .inl (cyI, 512, .inl (upd (upd (upd (fun _ => 0) 0 0) 1 1) 2 1))), (h3, .inl (cyI, 512, .inl (upd (upd (upd (fun _ => 0) 0 0) 1 0) 2 0))), (h4, .inl (cyI, 512, .inl (upd (upd (upd (fun _ => 0) 0 0) 1 111) 2 105))), (h5, .inl (cyI, 512, .inl (upd f5 2 0))), (h6, .inl (cyI, 512, .inl (upd (upd (upd (fun _ => 0) 0 0) 1 248155107) 2 248155109))), (h7, .inl (cyI, 512, .inl f7)), (h8, .inl (cyI, 512, .inl f8)), (h9, .inl (cyI, 512, .inl f9)), (h10, .inl (cyI, 512, .inl f10)), (h11, .inl (cyI, 512, .inl f11))]) E hP hD hS 6 rfl (by decide) rfl rfl dX0_node_192 (fun H locs hP hD hS => ?_)
  refine lv_aload_n hx hb dX0_node_193 rfl (lv_at hl 3 rfl) ?_
  refine lv_iload hx hb dX0_node_194 (lv_at hl 0 rfl) ?_
  refine x_Vv (rest := []) (ws' := fun _ => [(h2, .inl (cyI, 512, .inl (upd (upd (upd (fun _ => 0) 0 0) 1 1) 2 1))), (h3, .inl (cyI, 512, .inl (upd (upd (upd (fun _ => 0) 0 0) 1 0) 2 0))), (h4, .inl (cyI, 512, .inl (upd (upd (upd (fun _ => 0) 0 0) 1 111) 2 105))), (h5, .inl (cyI, 512, .inl (upd f5 2 0))), (h8, .inl (cyI, 512, .inl f8)), (h9, .inl (cyI, 512, .inl f9)), (h10, .inl (cyI, 512, .inl f10)), (h11, .inl (cyI, 512, .inl f11)), (h0, .inr (0, [.ref h2, .ref h3, .ref h4, .ref h5, .ref h10, .ref h11, .ref h8, .ref h9, .ref h6, .ref h7, v0_10, .ref h1, .int 3, v0_13])), (h6, .inl (cyI, 512, .inl (upd (upd (upd (fun _ => 0) 0 0) 1 248155107) 2 248155109))), (h1, .inl (cyI, 512, .inl (upd (upd (upd (fun _ => -1) 0 0) 483 1) 485 2))), (h7, .inl (cyI, 512, .inl (upd f7 2 (-1))))]) (wr := [(h2, .inl (cyI, 512, .inl (upd (upd (upd (fun _ => 0) 0 0) 1 1) 2 1))), (h3, .inl (cyI, 512, .inl (upd (upd (upd (fun _ => 0) 0 0) 1 0) 2 0))), (h4, .inl (cyI, 512, .inl (upd (upd (upd (fun _ => 0) 0 0) 1 111) 2 105))), (h5, .inl (cyI, 512, .inl (upd f5 2 0))), (h8, .inl (cyI, 512, .inl f8)), (h9, .inl (cyI, 512, .inl f9)), (h10, .inl (cyI, 512, .inl f10)), (h11, .inl (cyI, 512, .inl f11))]) E (mX0_link_2 l D cyI cyJ Z h0 h6 h1 h7 (.ref h2) (.ref h3) (.ref h4) (.ref h5) (.ref h10) (.ref h11) (.ref h8) (.ref h9) v0_10 (.int 3) v0_13 f7) kX0_link wq24 wq25 wq26 ⟨rfl, rfl, Nat.le_of_ble_eq_true rfl, Nat.le_of_ble_eq_true rfl⟩ hP hD hS hA [0, 6, 1, 7] [2, 3, 4, 5, 8, 9, 10, 11] rfl rfl (by decide) (fun _ => rfl) 0 rfl rfl rfl hl.1 rfl (Nat.le_of_ble_eq_true rfl) dX0_node_196 ⟨rfl, rfl⟩ ⟨Nat.le_of_ble_eq_true rfl, Nat.le_of_ble_eq_true rfl⟩ (fun _ H locs hP hD hS => ?_)
  refine lv_aload_n hx hb dX0_node_199 rfl (lv_at hl 3 rfl) ?_
  refine lv_iload hx hb dX0_node_200 (lv_at hl 0 rfl) ?_
  refine x_Vv (rest := []) (ws' := fun _ => [(h5, .inl (cyI, 512, .inl (upd f5 2 0))), (h6, .inl (cyI, 512, .inl (upd (upd (upd (fun _ => 0) 0 0) 1 248155107) 2 248155109))), (h1, .inl (cyI, 512, .inl (upd (upd (upd (fun _ => -1) 0 0) 483 1) 485 2))), (h7, .inl (cyI, 512, .inl (upd f7 2 (-1)))), (h0, .inr (0, [.ref h2, .ref h3, .ref h4, .ref h5, .ref h10, .ref h11, .ref h8, .ref h9, .ref h6, .ref h7, v0_10, .ref h1, .int 3, v0_13])), (h4, .inl (cyI, 512, .inl (upd (upd (upd (fun _ => 0) 0 0) 1 111) 2 105))), (h3, .inl (cyI, 512, .inl (upd (upd (upd (fun _ => 0) 0 0) 1 0) 2 0))), (h2, .inl (cyI, 512, .inl (upd (upd (upd (fun _ => 0) 0 0) 1 1) 2 1))), (h8, .inl (cyI, 512, .inl (upd f8 2 0))), (h9, .inl (cyI, 512, .inl (upd f9 2 0))), (h10, .inl (cyI, 512, .inl (upd f10 2 1))), (h11, .inl (cyI, 512, .inl (upd f11 2 0)))]) (wr := [(h5, .inl (cyI, 512, .inl (upd f5 2 0))), (h6, .inl (cyI, 512, .inl (upd (upd (upd (fun _ => 0) 0 0) 1 248155107) 2 248155109))), (h1, .inl (cyI, 512, .inl (upd (upd (upd (fun _ => -1) 0 0) 483 1) 485 2))), (h7, .inl (cyI, 512, .inl (upd f7 2 (-1))))]) E (mX0_measure_2 l D cyI cyJ Z h0 h4 h3 h2 h8 h9 h10 h11 (.ref h5) (.ref h6) (.ref h7) v0_10 (.ref h1) (.int 3) v0_13 f8 f9 f10 f11) kX0_measure wq27 wq28 wq29 ⟨rfl, rfl, Nat.le_of_ble_eq_true rfl, Nat.le_of_ble_eq_true rfl⟩ hP hD hS hA [8, 2, 1, 0, 4, 5, 6, 7] [3, 9, 10, 11] rfl rfl (by decide) (fun _ => rfl) 8 rfl rfl rfl hl.1 rfl (Nat.le_of_ble_eq_true rfl) dX0_node_202 ⟨rfl, rfl⟩ ⟨Nat.le_of_ble_eq_true rfl, Nat.le_of_ble_eq_true rfl⟩ (fun _ H locs hP hD hS => ?_)
  refine lv_iload hx hb dX0_node_205 (lv_at hl 0 rfl) ?_
  exact x_iret E hr hlk hP hD hS () rfl [4, 2, 7, 6, 5, 0, 1, 3, 8, 9, 10, 11] (by decide) rfl rfl dX0_node_207
end
section
set_option maxHeartbeats 4000000 in
set_option maxRecDepth 100000 in
theorem mX0_init (l : Launch) (D : va_G) (cyI cyJ : ClassId) (Z : xZ) (h0 : Nat) (v0_0 : Value) (v0_1 : Value) (v0_2 : Value) (v0_3 : Value) (v0_4 : Value) (v0_5 : Value) (v0_6 : Value) (v0_7 : Value) (v0_8 : Value) (v0_9 : Value) (v0_10 : Value) (v0_11 : Value) (v0_13 : Value) : MetV l yX0_init (Cond.code yX0_init cX0_init 1 none) { frames := 2, cells := 12, slots := 6144, locals := 52 } D cyI cyJ Z [.ref h0] [(h0, .inr (0, [v0_0, v0_1, v0_2, v0_3, v0_4, v0_5, v0_6, v0_7, v0_8, v0_9, v0_10, v0_11, .int 0, v0_13]))] (fun u : ((Nat → Nat) × (Nat → Nat → Int32)) => ([(h0, .inr (0, [.ref (u.1 0), .ref (u.1 1), .ref (u.1 2), .ref (u.1 3), .ref (u.1 4), .ref (u.1 5), .ref (u.1 6), .ref (u.1 7), .ref (u.1 8), .ref (u.1 9), .ref (u.1 10), .ref (u.1 11), .int 3, .int 3])), ((u.1 0), .inl (cyI, 512, .inl (u.2 0))), ((u.1 1), .inl (cyI, 512, .inl (u.2 1))), ((u.1 2), .inl (cyI, 512, .inl (u.2 2))), ((u.1 3), .inl (cyI, 512, .inl (u.2 3))), ((u.1 4), .inl (cyI, 512, .inl (u.2 4))), ((u.1 5), .inl (cyI, 512, .inl (u.2 5))), ((u.1 6), .inl (cyI, 512, .inl (u.2 6))), ((u.1 7), .inl (cyI, 512, .inl (u.2 7))), ((u.1 8), .inl (cyI, 512, .inl (u.2 8))), ((u.1 9), .inl (cyI, 512, .inl (u.2 9))), ((u.1 10), .inl (cyI, 512, .inl (fun _ => 0))), ((u.1 11), .inl (cyI, 512, .inl (u.2 10)))] : va_W)) 12 6144 := by
  refine met_v (by decide) rfl ?_
  intro p e s m below meth c A ls E hr hlk hnm hP hD hA hl
  have hS : va_S A s.heap s.heap [] := va_S.rf
  have hx := E.1.1
  have hb := E.1.2.1
  have hl : lv_has ls 1 [(0, .ref h0)] := hl
  refine lv_aload_n hx hb dX0_init_0 rfl (lv_at hl 0 rfl) ?_
  refine x_obj E wq8 wq1 wq2 hl.1 dX0_init_1 (Nat.le_of_ble_eq_true rfl) (Nat.le_of_ble_eq_true rfl) ?_
  refine lv_aload_n hx hb dX0_init_4 rfl (lv_at hl 0 rfl) ?_
  refine lv_sipush (v := 512) hx hb dX0_init_5 (by decide) ?_
  refine x_newI (wg := fun q1 => [(h0, .inr (0, [v0_0, v0_1, v0_2, v0_3, v0_4, v0_5, v0_6, v0_7, v0_8, v0_9, v0_10, v0_11, .int 0, v0_13])), (q1, .inl (cyI, 512, .inl (fun _ => 0)))]) E wq3 hP hD hS hA 512 (by decide) (by decide) rfl ⟨rfl, rfl⟩ ⟨Nat.le_of_ble_eq_true rfl, Nat.le_of_ble_eq_true rfl⟩ (fun _ => rfl) dX0_init_8 (fun q1 H hP hD hS => ?_)
  refine x_put (ws' := [(h0, .inr (0, [.ref q1, v0_1, v0_2, v0_3, v0_4, v0_5, v0_6, v0_7, v0_8, v0_9, v0_10, v0_11, .int 0, v0_13])), (q1, .inl (cyI, 512, .inl (fun _ => 0)))]) E iX0 tyX0 tyX0_ok nmX0 hP hD hS 0 rfl rfl 0 (by decide) wq9 rfl rfl rfl rfl rfl dX0_init_10 (fun H locs hP hD hS => ?_)
  refine lv_aload_n hx hb dX0_init_13 rfl (lv_at hl 0 rfl) ?_
  refine lv_sipush (v := 512) hx hb dX0_init_14 (by decide) ?_
  refine x_newI (wg := fun q2 => [(h0, .inr (0, [.ref q1, v0_1, v0_2, v0_3, v0_4, v0_5, v0_6, v0_7, v0_8, v0_9, v0_10, v0_11, .int 0, v0_13])), (q1, .inl (cyI, 512, .inl (fun _ => 0))), (q2, .inl (cyI, 512, .inl (fun _ => 0)))]) E wq3 hP hD hS hA 512 (by decide) (by decide) rfl ⟨rfl, rfl⟩ ⟨Nat.le_of_ble_eq_true rfl, Nat.le_of_ble_eq_true rfl⟩ (fun _ => rfl) dX0_init_17 (fun q2 H hP hD hS => ?_)
  refine x_put (ws' := [(h0, .inr (0, [.ref q1, .ref q2, v0_2, v0_3, v0_4, v0_5, v0_6, v0_7, v0_8, v0_9, v0_10, v0_11, .int 0, v0_13])), (q1, .inl (cyI, 512, .inl (fun _ => 0))), (q2, .inl (cyI, 512, .inl (fun _ => 0)))]) E iX0 tyX0 tyX0_ok nmX0 hP hD hS 0 rfl rfl 1 (by decide) wq10 rfl rfl rfl rfl rfl dX0_init_19 (fun H locs hP hD hS => ?_)
  refine lv_aload_n hx hb dX0_init_22 rfl (lv_at hl 0 rfl) ?_
  refine lv_sipush (v := 512) hx hb dX0_init_23 (by decide) ?_
  refine x_newI (wg := fun q3 => [(h0, .inr (0, [.ref q1, .ref q2, v0_2, v0_3, v0_4, v0_5, v0_6, v0_7, v0_8, v0_9, v0_10, v0_11, .int 0, v0_13])), (q1, .inl (cyI, 512, .inl (fun _ => 0))), (q2, .inl (cyI, 512, .inl (fun _ => 0))), (q3, .inl (cyI, 512, .inl (fun _ => 0)))]) E wq3 hP hD hS hA 512 (by decide) (by decide) rfl ⟨rfl, rfl⟩ ⟨Nat.le_of_ble_eq_true rfl, Nat.le_of_ble_eq_true rfl⟩ (fun _ => rfl) dX0_init_26 (fun q3 H hP hD hS => ?_)
  refine x_put (ws' := [(h0, .inr (0, [.ref q1, .ref q2, .ref q3, v0_3, v0_4, v0_5, v0_6, v0_7, v0_8, v0_9, v0_10, v0_11, .int 0, v0_13])), (q1, .inl (cyI, 512, .inl (fun _ => 0))), (q2, .inl (cyI, 512, .inl (fun _ => 0))), (q3, .inl (cyI, 512, .inl (fun _ => 0)))]) E iX0 tyX0 tyX0_ok nmX0 hP hD hS 0 rfl rfl 2 (by decide) wq11 rfl rfl rfl rfl rfl dX0_init_28 (fun H locs hP hD hS => ?_)
  refine lv_aload_n hx hb dX0_init_31 rfl (lv_at hl 0 rfl) ?_
  refine lv_sipush (v := 512) hx hb dX0_init_32 (by decide) ?_
  refine x_newI (wg := fun q4 => [(h0, .inr (0, [.ref q1, .ref q2, .ref q3, v0_3, v0_4, v0_5, v0_6, v0_7, v0_8, v0_9, v0_10, v0_11, .int 0, v0_13])), (q1, .inl (cyI, 512, .inl (fun _ => 0))), (q2, .inl (cyI, 512, .inl (fun _ => 0))), (q3, .inl (cyI, 512, .inl (fun _ => 0))), (q4, .inl (cyI, 512, .inl (fun _ => 0)))]) E wq3 hP hD hS hA 512 (by decide) (by decide) rfl ⟨rfl, rfl⟩ ⟨Nat.le_of_ble_eq_true rfl, Nat.le_of_ble_eq_true rfl⟩ (fun _ => rfl) dX0_init_35 (fun q4 H hP hD hS => ?_)
  refine x_put (ws' := [(h0, .inr (0, [.ref q1, .ref q2, .ref q3, .ref q4, v0_4, v0_5, v0_6, v0_7, v0_8, v0_9, v0_10, v0_11, .int 0, v0_13])), (q1, .inl (cyI, 512, .inl (fun _ => 0))), (q2, .inl (cyI, 512, .inl (fun _ => 0))), (q3, .inl (cyI, 512, .inl (fun _ => 0))), (q4, .inl (cyI, 512, .inl (fun _ => 0)))]) E iX0 tyX0 tyX0_ok nmX0 hP hD hS 0 rfl rfl 3 (by decide) wq12 rfl rfl rfl rfl rfl dX0_init_37 (fun H locs hP hD hS => ?_)
  refine lv_aload_n hx hb dX0_init_40 rfl (lv_at hl 0 rfl) ?_
  refine lv_sipush (v := 512) hx hb dX0_init_41 (by decide) ?_
  refine x_newI (wg := fun q5 => [(h0, .inr (0, [.ref q1, .ref q2, .ref q3, .ref q4, v0_4, v0_5, v0_6, v0_7, v0_8, v0_9, v0_10, v0_11, .int 0, v0_13])), (q1, .inl (cyI, 512, .inl (fun _ => 0))), (q2, .inl (cyI, 512, .inl (fun _ => 0))), (q3, .inl (cyI, 512, .inl (fun _ => 0))), (q4, .inl (cyI, 512, .inl (fun _ => 0))), (q5, .inl (cyI, 512, .inl (fun _ => 0)))]) E wq3 hP hD hS hA 512 (by decide) (by decide) rfl ⟨rfl, rfl⟩ ⟨Nat.le_of_ble_eq_true rfl, Nat.le_of_ble_eq_true rfl⟩ (fun _ => rfl) dX0_init_44 (fun q5 H hP hD hS => ?_)
  refine x_put (ws' := [(h0, .inr (0, [.ref q1, .ref q2, .ref q3, .ref q4, .ref q5, v0_5, v0_6, v0_7, v0_8, v0_9, v0_10, v0_11, .int 0, v0_13])), (q1, .inl (cyI, 512, .inl (fun _ => 0))), (q2, .inl (cyI, 512, .inl (fun _ => 0))), (q3, .inl (cyI, 512, .inl (fun _ => 0))), (q4, .inl (cyI, 512, .inl (fun _ => 0))), (q5, .inl (cyI, 512, .inl (fun _ => 0)))]) E iX0 tyX0 tyX0_ok nmX0 hP hD hS 0 rfl rfl 4 (by decide) wq13 rfl rfl rfl rfl rfl dX0_init_46 (fun H locs hP hD hS => ?_)
  refine lv_aload_n hx hb dX0_init_49 rfl (lv_at hl 0 rfl) ?_
  refine lv_sipush (v := 512) hx hb dX0_init_50 (by decide) ?_
  refine x_newI (wg := fun q6 => [(h0, .inr (0, [.ref q1, .ref q2, .ref q3, .ref q4, .ref q5, v0_5, v0_6, v0_7, v0_8, v0_9, v0_10, v0_11, .int 0, v0_13])), (q1, .inl (cyI, 512, .inl (fun _ => 0))), (q2, .inl (cyI, 512, .inl (fun _ => 0))), (q3, .inl (cyI, 512, .inl (fun _ => 0))), (q4, .inl (cyI, 512, .inl (fun _ => 0))), (q5, .inl (cyI, 512, .inl (fun _ => 0))), (q6, .inl (cyI, 512, .inl (fun _ => 0)))]) E wq3 hP hD hS hA 512 (by decide) (by decide) rfl ⟨rfl, rfl⟩ ⟨Nat.le_of_ble_eq_true rfl, Nat.le_of_ble_eq_true rfl⟩ (fun _ => rfl) dX0_init_53 (fun q6 H hP hD hS => ?_)
  refine x_put (ws' := [(h0, .inr (0, [.ref q1, .ref q2, .ref q3, .ref q4, .ref q5, .ref q6, v0_6, v0_7, v0_8, v0_9, v0_10, v0_11, .int 0, v0_13])), (q1, .inl (cyI, 512, .inl (fun _ => 0))), (q2, .inl (cyI, 512, .inl (fun _ => 0))), (q3, .inl (cyI, 512, .inl (fun _ => 0))), (q4, .inl (cyI, 512, .inl (fun _ => 0))), (q5, .inl (cyI, 512, .inl (fun _ => 0))), (q6, .inl (cyI, 512, .inl (fun _ => 0)))]) E iX0 tyX0 tyX0_ok nmX0 hP hD hS 0 rfl rfl 5 (by decide) wq14 rfl rfl rfl rfl rfl dX0_init_55 (fun H locs hP hD hS => ?_)
  refine lv_aload_n hx hb dX0_init_58 rfl (lv_at hl 0 rfl) ?_
  refine lv_sipush (v := 512) hx hb dX0_init_59 (by decide) ?_
  refine x_newI (wg := fun q7 => [(h0, .inr (0, [.ref q1, .ref q2, .ref q3, .ref q4, .ref q5, .ref q6, v0_6, v0_7, v0_8, v0_9, v0_10, v0_11, .int 0, v0_13])), (q1, .inl (cyI, 512, .inl (fun _ => 0))), (q2, .inl (cyI, 512, .inl (fun _ => 0))), (q3, .inl (cyI, 512, .inl (fun _ => 0))), (q4, .inl (cyI, 512, .inl (fun _ => 0))), (q5, .inl (cyI, 512, .inl (fun _ => 0))), (q6, .inl (cyI, 512, .inl (fun _ => 0))), (q7, .inl (cyI, 512, .inl (fun _ => 0)))]) E wq3 hP hD hS hA 512 (by decide) (by decide) rfl ⟨rfl, rfl⟩ ⟨Nat.le_of_ble_eq_true rfl, Nat.le_of_ble_eq_true rfl⟩ (fun _ => rfl) dX0_init_62 (fun q7 H hP hD hS => ?_)
  refine x_put (ws' := [(h0, .inr (0, [.ref q1, .ref q2, .ref q3, .ref q4, .ref q5, .ref q6, .ref q7, v0_7, v0_8, v0_9, v0_10, v0_11, .int 0, v0_13])), (q1, .inl (cyI, 512, .inl (fun _ => 0))), (q2, .inl (cyI, 512, .inl (fun _ => 0))), (q3, .inl (cyI, 512, .inl (fun _ => 0))), (q4, .inl (cyI, 512, .inl (fun _ => 0))), (q5, .inl (cyI, 512, .inl (fun _ => 0))), (q6, .inl (cyI, 512, .inl (fun _ => 0))), (q7, .inl (cyI, 512, .inl (fun _ => 0)))]) E iX0 tyX0 tyX0_ok nmX0 hP hD hS 0 rfl rfl 6 (by decide) wq15 rfl rfl rfl rfl rfl dX0_init_64 (fun H locs hP hD hS => ?_)
  refine lv_aload_n hx hb dX0_init_67 rfl (lv_at hl 0 rfl) ?_
  refine lv_sipush (v := 512) hx hb dX0_init_68 (by decide) ?_
  refine x_newI (wg := fun q8 => [(h0, .inr (0, [.ref q1, .ref q2, .ref q3, .ref q4, .ref q5, .ref q6, .ref q7, v0_7, v0_8, v0_9, v0_10, v0_11, .int 0, v0_13])), (q1, .inl (cyI, 512, .inl (fun _ => 0))), (q2, .inl (cyI, 512, .inl (fun _ => 0))), (q3, .inl (cyI, 512, .inl (fun _ => 0))), (q4, .inl (cyI, 512, .inl (fun _ => 0))), (q5, .inl (cyI, 512, .inl (fun _ => 0))), (q6, .inl (cyI, 512, .inl (fun _ => 0))), (q7, .inl (cyI, 512, .inl (fun _ => 0))), (q8, .inl (cyI, 512, .inl (fun _ => 0)))]) E wq3 hP hD hS hA 512 (by decide) (by decide) rfl ⟨rfl, rfl⟩ ⟨Nat.le_of_ble_eq_true rfl, Nat.le_of_ble_eq_true rfl⟩ (fun _ => rfl) dX0_init_71 (fun q8 H hP hD hS => ?_)
  refine x_put (ws' := [(h0, .inr (0, [.ref q1, .ref q2, .ref q3, .ref q4, .ref q5, .ref q6, .ref q7, .ref q8, v0_8, v0_9, v0_10, v0_11, .int 0, v0_13])), (q1, .inl (cyI, 512, .inl (fun _ => 0))), (q2, .inl (cyI, 512, .inl (fun _ => 0))), (q3, .inl (cyI, 512, .inl (fun _ => 0))), (q4, .inl (cyI, 512, .inl (fun _ => 0))), (q5, .inl (cyI, 512, .inl (fun _ => 0))), (q6, .inl (cyI, 512, .inl (fun _ => 0))), (q7, .inl (cyI, 512, .inl (fun _ => 0))), (q8, .inl (cyI, 512, .inl (fun _ => 0)))]) E iX0 tyX0 tyX0_ok nmX0 hP hD hS 0 rfl rfl 7 (by decide) wq16 rfl rfl rfl rfl rfl dX0_init_73 (fun H locs hP hD hS => ?_)
  refine lv_aload_n hx hb dX0_init_76 rfl (lv_at hl 0 rfl) ?_
  refine lv_sipush (v := 512) hx hb dX0_init_77 (by decide) ?_
  refine x_newI (wg := fun q9 => [(h0, .inr (0, [.ref q1, .ref q2, .ref q3, .ref q4, .ref q5, .ref q6, .ref q7, .ref q8, v0_8, v0_9, v0_10, v0_11, .int 0, v0_13])), (q1, .inl (cyI, 512, .inl (fun _ => 0))), (q2, .inl (cyI, 512, .inl (fun _ => 0))), (q3, .inl (cyI, 512, .inl (fun _ => 0))), (q4, .inl (cyI, 512, .inl (fun _ => 0))), (q5, .inl (cyI, 512, .inl (fun _ => 0))), (q6, .inl (cyI, 512, .inl (fun _ => 0))), (q7, .inl (cyI, 512, .inl (fun _ => 0))), (q8, .inl (cyI, 512, .inl (fun _ => 0))), (q9, .inl (cyI, 512, .inl (fun _ => 0)))]) E wq3 hP hD hS hA 512 (by decide) (by decide) rfl ⟨rfl, rfl⟩ ⟨Nat.le_of_ble_eq_true rfl, Nat.le_of_ble_eq_true rfl⟩ (fun _ => rfl) dX0_init_80 (fun q9 H hP hD hS => ?_)
  refine x_put (ws' := [(h0, .inr (0, [.ref q1, .ref q2, .ref q3, .ref q4, .ref q5, .ref q6, .ref q7, .ref q8, .ref q9, v0_9, v0_10, v0_11, .int 0, v0_13])), (q1, .inl (cyI, 512, .inl (fun _ => 0))), (q2, .inl (cyI, 512, .inl (fun _ => 0))), (q3, .inl (cyI, 512, .inl (fun _ => 0))), (q4, .inl (cyI, 512, .inl (fun _ => 0))), (q5, .inl (cyI, 512, .inl (fun _ => 0))), (q6, .inl (cyI, 512, .inl (fun _ => 0))), (q7, .inl (cyI, 512, .inl (fun _ => 0))), (q8, .inl (cyI, 512, .inl (fun _ => 0))), (q9, .inl (cyI, 512, .inl (fun _ => 0)))]) E iX0 tyX0 tyX0_ok nmX0 hP hD hS 0 rfl rfl 8 (by decide) wq17 rfl rfl rfl rfl rfl dX0_init_82 (fun H locs hP hD hS => ?_)
  refine lv_aload_n hx hb dX0_init_85 rfl (lv_at hl 0 rfl) ?_
  refine lv_sipush (v := 512) hx hb dX0_init_86 (by decide) ?_
  refine x_newI (wg := fun q10 => [(h0, .inr (0, [.ref q1, .ref q2, .ref q3, .ref q4, .ref q5, .ref q6, .ref q7, .ref q8, .ref q9, v0_9, v0_10, v0_11, .int 0, v0_13])), (q1, .inl (cyI, 512, .inl (fun _ => 0))), (q2, .inl (cyI, 512, .inl (fun _ => 0))), (q3, .inl (cyI, 512, .inl (fun _ => 0))), (q4, .inl (cyI, 512, .inl (fun _ => 0))), (q5, .inl (cyI, 512, .inl (fun _ => 0))), (q6, .inl (cyI, 512, .inl (fun _ => 0))), (q7, .inl (cyI, 512, .inl (fun _ => 0))), (q8, .inl (cyI, 512, .inl (fun _ => 0))), (q9, .inl (cyI, 512, .inl (fun _ => 0))), (q10, .inl (cyI, 512, .inl (fun _ => 0)))]) E wq3 hP hD hS hA 512 (by decide) (by decide) rfl ⟨rfl, rfl⟩ ⟨Nat.le_of_ble_eq_true rfl, Nat.le_of_ble_eq_true rfl⟩ (fun _ => rfl) dX0_init_89 (fun q10 H hP hD hS => ?_)
  refine x_put (ws' := [(h0, .inr (0, [.ref q1, .ref q2, .ref q3, .ref q4, .ref q5, .ref q6, .ref q7, .ref q8, .ref q9, .ref q10, v0_10, v0_11, .int 0, v0_13])), (q1, .inl (cyI, 512, .inl (fun _ => 0))), (q2, .inl (cyI, 512, .inl (fun _ => 0))), (q3, .inl (cyI, 512, .inl (fun _ => 0))), (q4, .inl (cyI, 512, .inl (fun _ => 0))), (q5, .inl (cyI, 512, .inl (fun _ => 0))), (q6, .inl (cyI, 512, .inl (fun _ => 0))), (q7, .inl (cyI, 512, .inl (fun _ => 0))), (q8, .inl (cyI, 512, .inl (fun _ => 0))), (q9, .inl (cyI, 512, .inl (fun _ => 0))), (q10, .inl (cyI, 512, .inl (fun _ => 0)))]) E iX0 tyX0 tyX0_ok nmX0 hP hD hS 0 rfl rfl 9 (by decide) wq18 rfl rfl rfl rfl rfl dX0_init_91 (fun H locs hP hD hS => ?_)
  refine lv_aload_n hx hb dX0_init_94 rfl (lv_at hl 0 rfl) ?_
  refine lv_sipush (v := 512) hx hb dX0_init_95 (by decide) ?_
  refine x_newI (wg := fun q11 => [(h0, .inr (0, [.ref q1, .ref q2, .ref q3, .ref q4, .ref q5, .ref q6, .ref q7, .ref q8, .ref q9, .ref q10, v0_10, v0_11, .int 0, v0_13])), (q1, .inl (cyI, 512, .inl (fun _ => 0))), (q2, .inl (cyI, 512, .inl (fun _ => 0))), (q3, .inl (cyI, 512, .inl (fun _ => 0))), (q4, .inl (cyI, 512, .inl (fun _ => 0))), (q5, .inl (cyI, 512, .inl (fun _ => 0))), (q6, .inl (cyI, 512, .inl (fun _ => 0))), (q7, .inl (cyI, 512, .inl (fun _ => 0))), (q8, .inl (cyI, 512, .inl (fun _ => 0))), (q9, .inl (cyI, 512, .inl (fun _ => 0))), (q10, .inl (cyI, 512, .inl (fun _ => 0))), (q11, .inl (cyI, 512, .inl (fun _ => 0)))]) E wq3 hP hD hS hA 512 (by decide) (by decide) rfl ⟨rfl, rfl⟩ ⟨Nat.le_of_ble_eq_true rfl, Nat.le_of_ble_eq_true rfl⟩ (fun _ => rfl) dX0_init_98 (fun q11 H hP hD hS => ?_)
  refine x_put (ws' := [(h0, .inr (0, [.ref q1, .ref q2, .ref q3, .ref q4, .ref q5, .ref q6, .ref q7, .ref q8, .ref q9, .ref q10, .ref q11, v0_11, .int 0, v0_13])), (q1, .inl (cyI, 512, .inl (fun _ => 0))), (q2, .inl (cyI, 512, .inl (fun _ => 0))), (q3, .inl (cyI, 512, .inl (fun _ => 0))), (q4, .inl (cyI, 512, .inl (fun _ => 0))), (q5, .inl (cyI, 512, .inl (fun _ => 0))), (q6, .inl (cyI, 512, .inl (fun _ => 0))), (q7, .inl (cyI, 512, .inl (fun _ => 0))), (q8, .inl (cyI, 512, .inl (fun _ => 0))), (q9, .inl (cyI, 512, .inl (fun _ => 0))), (q10, .inl (cyI, 512, .inl (fun _ => 0))), (q11, .inl (cyI, 512, .inl (fun _ => 0)))]) E iX0 tyX0 tyX0_ok nmX0 hP hD hS 0 rfl rfl 10 (by decide) wq19 rfl rfl rfl rfl rfl dX0_init_100 (fun H locs hP hD hS => ?_)
  refine lv_aload_n hx hb dX0_init_103 rfl (lv_at hl 0 rfl) ?_
  refine lv_sipush (v := 512) hx hb dX0_init_104 (by decide) ?_
  refine x_newI (wg := fun q12 => [(h0, .inr (0, [.ref q1, .ref q2, .ref q3, .ref q4, .ref q5, .ref q6, .ref q7, .ref q8, .ref q9, .ref q10, .ref q11, v0_11, .int 0, v0_13])), (q1, .inl (cyI, 512, .inl (fun _ => 0))), (q2, .inl (cyI, 512, .inl (fun _ => 0))), (q3, .inl (cyI, 512, .inl (fun _ => 0))), (q4, .inl (cyI, 512, .inl (fun _ => 0))), (q5, .inl (cyI, 512, .inl (fun _ => 0))), (q6, .inl (cyI, 512, .inl (fun _ => 0))), (q7, .inl (cyI, 512, .inl (fun _ => 0))), (q8, .inl (cyI, 512, .inl (fun _ => 0))), (q9, .inl (cyI, 512, .inl (fun _ => 0))), (q10, .inl (cyI, 512, .inl (fun _ => 0))), (q11, .inl (cyI, 512, .inl (fun _ => 0))), (q12, .inl (cyI, 512, .inl (fun _ => 0)))]) E wq3 hP hD hS hA 512 (by decide) (by decide) rfl ⟨rfl, rfl⟩ ⟨Nat.le_of_ble_eq_true rfl, Nat.le_of_ble_eq_true rfl⟩ (fun _ => rfl) dX0_init_107 (fun q12 H hP hD hS => ?_)
  refine x_put (ws' := [(h0, .inr (0, [.ref q1, .ref q2, .ref q3, .ref q4, .ref q5, .ref q6, .ref q7, .ref q8, .ref q9, .ref q10, .ref q11, .ref q12, .int 0, v0_13])), (q1, .inl (cyI, 512, .inl (fun _ => 0))), (q2, .inl (cyI, 512, .inl (fun _ => 0))), (q3, .inl (cyI, 512, .inl (fun _ => 0))), (q4, .inl (cyI, 512, .inl (fun _ => 0))), (q5, .inl (cyI, 512, .inl (fun _ => 0))), (q6, .inl (cyI, 512, .inl (fun _ => 0))), (q7, .inl (cyI, 512, .inl (fun _ => 0))), (q8, .inl (cyI, 512, .inl (fun _ => 0))), (q9, .inl (cyI, 512, .inl (fun _ => 0))), (q10, .inl (cyI, 512, .inl (fun _ => 0))), (q11, .inl (cyI, 512, .inl (fun _ => 0))), (q12, .inl (cyI, 512, .inl (fun _ => 0)))]) E iX0 tyX0 tyX0_ok nmX0 hP hD hS 0 rfl rfl 11 (by decide) wq20 rfl rfl rfl rfl rfl dX0_init_109 (fun H locs hP hD hS => ?_)
  refine lv_aload_n hx hb dX0_init_112 rfl (lv_at hl 0 rfl) ?_
  refine x_get E iX0 hP 0 rfl rfl 11 (by decide) wq20 rfl dX0_init_113 ?_
  refine lv_iconst (v := (-1)) hx hb dX0_init_116 (by decide) ?_
  refine x_Sv (rest := []) (ws' := fun _ => [(h0, .inr (0, [.ref q1, .ref q2, .ref q3, .ref q4, .ref q5, .ref q6, .ref q7, .ref q8, .ref q9, .ref q10, .ref q11, .ref q12, .int 0, v0_13])), (q1, .inl (cyI, 512, .inl (fun _ => 0))), (q2, .inl (cyI, 512, .inl (fun _ => 0))), (q3, .inl (cyI, 512, .inl (fun _ => 0))), (q4, .inl (cyI, 512, .inl (fun _ => 0))), (q5, .inl (cyI, 512, .inl (fun _ => 0))), (q6, .inl (cyI, 512, .inl (fun _ => 0))), (q7, .inl (cyI, 512, .inl (fun _ => 0))), (q8, .inl (cyI, 512, .inl (fun _ => 0))), (q9, .inl (cyI, 512, .inl (fun _ => 0))), (q10, .inl (cyI, 512, .inl (fun _ => 0))), (q11, .inl (cyI, 512, .inl (fun _ => 0))), (q12, .inl (cyI, 512, .inl (fun _ => -1)))]) (wr := [(h0, .inr (0, [.ref q1, .ref q2, .ref q3, .ref q4, .ref q5, .ref q6, .ref q7, .ref q8, .ref q9, .ref q10, .ref q11, .ref q12, .int 0, v0_13])), (q1, .inl (cyI, 512, .inl (fun _ => 0))), (q2, .inl (cyI, 512, .inl (fun _ => 0))), (q3, .inl (cyI, 512, .inl (fun _ => 0))), (q4, .inl (cyI, 512, .inl (fun _ => 0))), (q5, .inl (cyI, 512, .inl (fun _ => 0))), (q6, .inl (cyI, 512, .inl (fun _ => 0))), (q7, .inl (cyI, 512, .inl (fun _ => 0))), (q8, .inl (cyI, 512, .inl (fun _ => 0))), (q9, .inl (cyI, 512, .inl (fun _ => 0))), (q10, .inl (cyI, 512, .inl (fun _ => 0))), (q11, .inl (cyI, 512, .inl (fun _ => 0)))]) E (mJ7_fill l D cyI cyJ Z q12 512 (by decide) ((fun _ => 0)) ((-1))) kJ7_fill_53178 wq21 wq22 ⟨rfl, rfl, Nat.le_of_ble_eq_true rfl, Nat.le_of_ble_eq_true rfl⟩ hP hD hS hA [12] [0, 1, 2, 3, 4, 5, 6, 7, 8, 9, 10, 11] rfl rfl (by decide) (fun _ => rfl) hl.1 rfl (Nat.le_of_ble_eq_true rfl) dX0_init_117 ⟨rfl, rfl⟩ ⟨Nat.le_of_ble_eq_true rfl, Nat.le_of_ble_eq_true rfl⟩ (fun _ H locs hP hD hS => ?_)
  refine lv_aload_n hx hb dX0_init_120 rfl (lv_at hl 0 rfl) ?_
  refine lv_iconst (v := 0) hx hb dX0_init_121 (by decide) ?_
  refine lv_iconst (v := 0) hx hb dX0_init_122 (by decide) ?_
  refine lv_iconst (v := 0) hx hb dX0_init_123 (by decide) ?_
  refine lv_iconst (v := 0) hx hb dX0_init_124 (by decide) ?_
  refine x_Vi (rest := []) (ws' := fun _ => [(q11, .inl (cyI, 512, .inl (fun _ => 0))), (h0, .inr (0, [.ref q1, .ref q2, .ref q3, .ref q4, .ref q5, .ref q6, .ref q7, .ref q8, .ref q9, .ref q10, .ref q11, .ref q12, .int 1, v0_13])), (q12, .inl (cyI, 512, .inl (upd (fun _ => -1) 0 0))), (q1, .inl (cyI, 512, .inl (upd (fun _ => 0) 0 0))), (q2, .inl (cyI, 512, .inl (upd (fun _ => 0) 0 0))), (q3, .inl (cyI, 512, .inl (upd (fun _ => 0) 0 0))), (q4, .inl (cyI, 512, .inl (upd (fun _ => 0) 0 0))), (q9, .inl (cyI, 512, .inl (upd (fun _ => 0) 0 0))), (q10, .inl (cyI, 512, .inl (upd (fun _ => 0) 0 (-1)))), (q7, .inl (cyI, 512, .inl (upd (fun _ => 0) 0 0))), (q8, .inl (cyI, 512, .inl (upd (fun _ => 0) 0 0))), (q5, .inl (cyI, 512, .inl (upd (upd (fun _ => 0) 0 1) 0 0))), (q6, .inl (cyI, 512, .inl (upd (fun _ => 0) 0 0)))]) (wr := [(q11, .inl (cyI, 512, .inl (fun _ => 0)))]) E (mX0_node l D cyI cyJ Z h0 q12 q1 q2 q3 q4 q9 q10 q7 q8 q5 q6 (.ref q11) v0_13 ((fun _ => 0)) ((fun _ => 0)) ((fun _ => 0)) ((fun _ => 0)) ((fun _ => 0)) ((fun _ => 0))) kX0_node wq30 wq31 wq32 ⟨rfl, rfl, Nat.le_of_ble_eq_true rfl, Nat.le_of_ble_eq_true rfl⟩ hP hD hS hA [0, 12, 1, 2, 3, 4, 9, 10, 7, 8, 5, 6] [11] rfl rfl (by decide) (fun _ => rfl) 0 rfl rfl rfl hl.1 rfl (Nat.le_of_ble_eq_true rfl) dX0_init_125 ⟨rfl, rfl⟩ ⟨Nat.le_of_ble_eq_true rfl, Nat.le_of_ble_eq_true rfl⟩ (fun _ H locs hP hD hS => ?_)
  refine lv_pop hx hb dX0_init_128 rfl ?_
  refine lv_aload_n hx hb dX0_init_129 rfl (lv_at hl 0 rfl) ?_
  refine lv_iconst (v := 1) hx hb dX0_init_130 (by decide) ?_
  refine lv_iconst (v := 0) hx hb dX0_init_131 (by decide) ?_
  refine lv_bipush (v := 111) hx hb dX0_init_132 (by decide) ?_
  refine lv_iconst (v := 0) hx hb dX0_init_134 (by decide) ?_
  refine x_Vi (rest := []) (ws' := fun _ => [(q11, .inl (cyI, 512, .inl (fun _ => 0))), (h0, .inr (0, [.ref q1, .ref q2, .ref q3, .ref q4, .ref q5, .ref q6, .ref q7, .ref q8, .ref q9, .ref q10, .ref q11, .ref q12, .int 2, v0_13])), (q12, .inl (cyI, 512, .inl (upd (upd (fun _ => -1) 0 0) 483 1))), (q1, .inl (cyI, 512, .inl (upd (upd (fun _ => 0) 0 0) 1 1))), (q2, .inl (cyI, 512, .inl (upd (upd (fun _ => 0) 0 0) 1 0))), (q3, .inl (cyI, 512, .inl (upd (upd (fun _ => 0) 0 0) 1 111))), (q4, .inl (cyI, 512, .inl (upd (upd (fun _ => 0) 0 0) 1 0))), (q9, .inl (cyI, 512, .inl (upd (upd (fun _ => 0) 0 0) 1 248155107))), (q10, .inl (cyI, 512, .inl (upd (upd (fun _ => 0) 0 (-1)) 1 (-1)))), (q7, .inl (cyI, 512, .inl (upd (upd (fun _ => 0) 0 0) 1 0))), (q8, .inl (cyI, 512, .inl (upd (upd (fun _ => 0) 0 0) 1 0))), (q5, .inl (cyI, 512, .inl (upd (upd (upd (fun _ => 0) 0 1) 0 0) 1 1))), (q6, .inl (cyI, 512, .inl (upd (upd (fun _ => 0) 0 0) 1 0)))]) (wr := [(q11, .inl (cyI, 512, .inl (fun _ => 0)))]) E (mX0_node_1 l D cyI cyJ Z h0 q12 q1 q2 q3 q4 q9 q10 q7 q8 q5 q6 (.ref q11) v0_13 ((upd (fun _ => 0) 0 0)) ((upd (fun _ => 0) 0 (-1))) ((upd (fun _ => 0) 0 0)) ((upd (fun _ => 0) 0 0)) ((upd (upd (fun _ => 0) 0 1) 0 0)) ((upd (fun _ => 0) 0 0))) kX0_node wq30 wq31 wq32 ⟨rfl, rfl, Nat.le_of_ble_eq_true rfl, Nat.le_of_ble_eq_true rfl⟩ hP hD hS hA [1, 2, 3, 4, 5, 6, 7, 8, 9, 10, 11, 12] [0] rfl rfl (by decide) (fun _ => rfl) 1 rfl rfl rfl hl.1 rfl (Nat.le_of_ble_eq_true rfl) dX0_init_135 ⟨rfl, rfl⟩ ⟨Nat.le_of_ble_eq_true rfl, Nat.le_of_ble_eq_true rfl⟩ (fun _ H locs hP hD hS => ?_)
  refine lv_pop hx hb dX0_init_138 rfl ?_
  refine lv_aload_n hx hb dX0_init_139 rfl (lv_at hl 0 rfl) ?_
  refine lv_iconst (v := 1) hx hb dX0_init_140 (by decide) ?_
  refine lv_iconst (v := 0) hx hb dX0_init_141 (by decide) ?_
  refine lv_bipush (v := 105) hx hb dX0_init_142 (by decide) ?_
  refine lv_iconst (v := 0) hx hb dX0_init_144 (by decide) ?_
  refine x_Vi (rest := []) (ws' := fun _ => [(q11, .inl (cyI, 512, .inl (fun _ => 0))), (h0, .inr (0, [.ref q1, .ref q2, .ref q3, .ref q4, .ref q5, .ref q6, .ref q7, .ref q8, .ref q9, .ref q10, .ref q11, .ref q12, .int 3, v0_13])), (q12, .inl (cyI, 512, .inl (upd (upd (upd (fun _ => -1) 0 0) 483 1) 485 2))), (q1, .inl (cyI, 512, .inl (upd (upd (upd (fun _ => 0) 0 0) 1 1) 2 1))), (q2, .inl (cyI, 512, .inl (upd (upd (upd (fun _ => 0) 0 0) 1 0) 2 0))), (q3, .inl (cyI, 512, .inl (upd (upd (upd (fun _ => 0) 0 0) 1 111) 2 105))), (q4, .inl (cyI, 512, .inl (upd (upd (upd (fun _ => 0) 0 0) 1 0) 2 0))), (q9, .inl (cyI, 512, .inl (upd (upd (upd (fun _ => 0) 0 0) 1 248155107) 2 248155109))), (q10, .inl (cyI, 512, .inl (upd (upd (upd (fun _ => 0) 0 (-1)) 1 (-1)) 2 (-1)))), (q7, .inl (cyI, 512, .inl (upd (upd (upd (fun _ => 0) 0 0) 1 0) 2 0))), (q8, .inl (cyI, 512, .inl (upd (upd (upd (fun _ => 0) 0 0) 1 0) 2 0))), (q5, .inl (cyI, 512, .inl (upd (upd (upd (upd (fun _ => 0) 0 1) 0 0) 1 1) 2 1))), (q6, .inl (cyI, 512, .inl (upd (upd (upd (fun _ => 0) 0 0) 1 0) 2 0)))]) (wr := [(q11, .inl (cyI, 512, .inl (fun _ => 0)))]) E (mX0_node_2 l D cyI cyJ Z h0 q12 q1 q2 q3 q4 q9 q10 q7 q8 q5 q6 (.ref q11) v0_13 ((upd (upd (fun _ => 0) 0 0) 1 0)) ((upd (upd (fun _ => 0) 0 (-1)) 1 (-1))) ((upd (upd (fun _ => 0) 0 0) 1 0)) ((upd (upd (fun _ => 0) 0 0) 1 0)) ((upd (upd (upd (fun _ => 0) 0 1) 0 0) 1 1)) ((upd (upd (fun _ => 0) 0 0) 1 0))) kX0_node wq30 wq31 wq32 ⟨rfl, rfl, Nat.le_of_ble_eq_true rfl, Nat.le_of_ble_eq_true rfl⟩ hP hD hS hA [1, 2, 3, 4, 5, 6, 7, 8, 9, 10, 11, 12] [0] rfl rfl (by decide) (fun _ => rfl) 1 rfl rfl rfl hl.1 rfl (Nat.le_of_ble_eq_true rfl) dX0_init_145 ⟨rfl, rfl⟩ ⟨Nat.le_of_ble_eq_true rfl, Nat.le_of_ble_eq_true rfl⟩ (fun _ H locs hP hD hS => ?_)
  refine lv_pop hx hb dX0_init_148 rfl ?_
  refine lv_aload_n hx hb dX0_init_149 rfl (lv_at hl 0 rfl) ?_
  refine lv_iconst (v := 3) hx hb dX0_init_150 (by decide) ?_
  refine x_put (ws' := [(q11, .inl (cyI, 512, .inl (fun _ => 0))), (h0, .inr (0, [.ref q1, .ref q2, .ref q3, .ref q4, .ref q5, .ref q6, .ref q7, .ref q8, .ref q9, .ref q10, .ref q11, .ref q12, .int 3, .int 3])), (q12, .inl (cyI, 512, .inl (upd (upd (upd (fun _ => -1) 0 0) 483 1) 485 2))), (q1, .inl (cyI, 512, .inl (upd (upd (upd (fun _ => 0) 0 0) 1 1) 2 1))), (q2, .inl (cyI, 512, .inl (upd (upd (upd (fun _ => 0) 0 0) 1 0) 2 0))), (q3, .inl (cyI, 512, .inl (upd (upd (upd (fun _ => 0) 0 0) 1 111) 2 105))), (q4, .inl (cyI, 512, .inl (upd (upd (upd (fun _ => 0) 0 0) 1 0) 2 0))), (q9, .inl (cyI, 512, .inl (upd (upd (upd (fun _ => 0) 0 0) 1 248155107) 2 248155109))), (q10, .inl (cyI, 512, .inl (upd (upd (upd (fun _ => 0) 0 (-1)) 1 (-1)) 2 (-1)))), (q7, .inl (cyI, 512, .inl (upd (upd (upd (fun _ => 0) 0 0) 1 0) 2 0))), (q8, .inl (cyI, 512, .inl (upd (upd (upd (fun _ => 0) 0 0) 1 0) 2 0))), (q5, .inl (cyI, 512, .inl (upd (upd (upd (upd (fun _ => 0) 0 1) 0 0) 1 1) 2 1))), (q6, .inl (cyI, 512, .inl (upd (upd (upd (fun _ => 0) 0 0) 1 0) 2 0)))]) E iX0 tyX0 tyX0_ok nmX0 hP hD hS 1 rfl rfl 13 (by decide) wq33 rfl rfl rfl rfl rfl dX0_init_151 (fun H locs hP hD hS => ?_)
  exact x_vret E hr hlk hP hD hS (fun k => [q1, q2, q3, q4, q5, q6, q7, q8, q9, q10, q11, q12].getD k 0, fun k => [(upd (upd (upd (fun _ => 0) 0 0) 1 1) 2 1), (upd (upd (upd (fun _ => 0) 0 0) 1 0) 2 0), (upd (upd (upd (fun _ => 0) 0 0) 1 111) 2 105), (upd (upd (upd (fun _ => 0) 0 0) 1 0) 2 0), (upd (upd (upd (upd (fun _ => 0) 0 1) 0 0) 1 1) 2 1), (upd (upd (upd (fun _ => 0) 0 0) 1 0) 2 0), (upd (upd (upd (fun _ => 0) 0 0) 1 0) 2 0), (upd (upd (upd (fun _ => 0) 0 0) 1 0) 2 0), (upd (upd (upd (fun _ => 0) 0 0) 1 248155107) 2 248155109), (upd (upd (upd (fun _ => 0) 0 (-1)) 1 (-1)) 2 (-1)), (upd (upd (upd (fun _ => -1) 0 0) 483 1) 485 2)].getD k (fun _ => 0)) [1, 3, 4, 5, 6, 11, 12, 9, 10, 7, 8, 0, 2] (by decide) rfl dX0_init_154

set_option maxHeartbeats 4000000 in
set_option maxRecDepth 100000 in
theorem mX7_init (l : Launch) (D : va_G) (cyI cyJ : ClassId) (Z : xZ) (h0 : Nat) (h1 : Nat) (v0_0 : Value) : MetV l yX7_init (Cond.code yX7_init cX7_init 2 none) { frames := 1, cells := 0, slots := 0, locals := 12 } D cyI cyJ Z [.ref h0, .ref h1] [(h0, .inr (7, [v0_0]))] (fun _ : Unit => ([(h0, .inr (7, [.ref h1]))] : va_W)) 0 0 := by
  refine met_v (by decide) rfl ?_
  intro p e s m below meth c A ls E hr hlk hnm hP hD hA hl
  have hS : va_S A s.heap s.heap [] := va_S.rf
  have hx := E.1.1
  have hb := E.1.2.1
  have hl : lv_has ls 2 [(0, .ref h0), (1, .ref h1)] := hl
  refine lv_aload_n hx hb dX7_init_0 rfl (lv_at hl 0 rfl) ?_
  refine x_obj E wq40 wq1 wq2 hl.1 dX7_init_1 (Nat.le_of_ble_eq_true rfl) (Nat.le_of_ble_eq_true rfl) ?_
  refine lv_aload_n hx hb dX7_init_4 rfl (lv_at hl 0 rfl) ?_
  refine lv_aload_n hx hb dX7_init_5 rfl (lv_at hl 1 rfl) ?_
  refine x_putF (ws' := [(h0, .inr (7, [.ref h1]))]) E iX7 tyX7 tyX7_ok nmX7 hP hD hS hnm 0 rfl rfl 0 (by decide) wq41 rfl rfl rfl rfl rfl rfl dX7_init_6 (fun H locs hP hD hS => ?_)
  exact x_vret E hr hlk hP hD hS () [0] (by decide) rfl dX7_init_9

set_option maxHeartbeats 4000000 in
set_option maxRecDepth 100000 in
theorem mX9_init (l : Launch) (D : va_G) (cyI cyJ : ClassId) (Z : xZ) (h0 : Nat) (h1 : Nat) (v0_0 : Value) (v0_1 : Value) (v0_2 : Value) (v0_3 : Value) (v0_4 : Value) (v0_5 : Value) (v0_6 : Value) (v0_7 : Value) (v0_8 : Value) (v0_9 : Value) (v0_10 : Value) (v0_11 : Value) (v0_12 : Value) (v0_13 : Value) (v0_14 : Value) : MetV l yX9_init (Cond.code yX9_init cX9_init 2 none) { frames := 1, cells := 8, slots := 230, locals := 12 } D cyI cyJ Z [.ref h0, .ref h1] [(h0, .inr (9, [v0_0, v0_1, v0_2, v0_3, v0_4, v0_5, v0_6, v0_7, v0_8, v0_9, v0_10, v0_11, v0_12, v0_13, v0_14]))] (fun u : ((Nat → Nat) × (Nat → Nat → Int32)) => ([(h0, .inr (9, [.ref h1, .ref (u.1 0), .ref (u.1 1), .ref (u.1 2), .ref (u.1 3), .ref (u.1 4), .ref (u.1 5), .ref (u.1 6), .ref (u.1 7), v0_9, v0_10, v0_11, v0_12, v0_13, v0_14])), ((u.1 0), .inl (cyI, 10, .inl (fun _ => 0))), ((u.1 1), .inl (cyI, 10, .inl (fun _ => 0))), ((u.1 2), .inl (cyI, 10, .inl (fun _ => 0))), ((u.1 3), .inl (cyI, 10, .inl (fun _ => 0))), ((u.1 4), .inl (cyI, 10, .inl (fun _ => 0))), ((u.1 5), .inl (cyI, 60, .inl (fun _ => 0))), ((u.1 6), .inl (cyI, 60, .inl (fun _ => 0))), ((u.1 7), .inl (cyI, 60, .inl (fun _ => 0)))] : va_W)) 8 230 := by
  refine met_v (by decide) rfl ?_
  intro p e s m below meth c A ls E hr hlk hnm hP hD hA hl
  have hS : va_S A s.heap s.heap [] := va_S.rf
  have hx := E.1.1
  have hb := E.1.2.1
  have hl : lv_has ls 2 [(0, .ref h0), (1, .ref h1)] := hl
  refine lv_aload_n hx hb dX9_init_0 rfl (lv_at hl 0 rfl) ?_
  refine x_obj E wq48 wq1 wq2 hl.1 dX9_init_1 (Nat.le_of_ble_eq_true rfl) (Nat.le_of_ble_eq_true rfl) ?_
  refine lv_aload_n hx hb dX9_init_4 rfl (lv_at hl 0 rfl) ?_
  refine lv_bipush (v := 10) hx hb dX9_init_5 (by decide) ?_
  refine x_newI (wg := fun q1 => [(h0, .inr (9, [v0_0, v0_1, v0_2, v0_3, v0_4, v0_5, v0_6, v0_7, v0_8, v0_9, v0_10, v0_11, v0_12, v0_13, v0_14])), (q1, .inl (cyI, 10, .inl (fun _ => 0)))]) E wq3 hP hD hS hA 10 (by decide) (by decide) rfl ⟨rfl, rfl⟩ ⟨Nat.le_of_ble_eq_true rfl, Nat.le_of_ble_eq_true rfl⟩ (fun _ => rfl) dX9_init_7 (fun q1 H hP hD hS => ?_)
  refine x_putF (ws' := [(h0, .inr (9, [v0_0, .ref q1, v0_2, v0_3, v0_4, v0_5, v0_6, v0_7, v0_8, v0_9, v0_10, v0_11, v0_12, v0_13, v0_14])), (q1, .inl (cyI, 10, .inl (fun _ => 0)))]) E iX9 tyX9 tyX9_ok nmX9 hP hD hS hnm 0 rfl rfl 1 (by decide) wq49 rfl rfl rfl rfl rfl rfl dX9_init_9 (fun H locs hP hD hS => ?_)
  refine lv_aload_n hx hb dX9_init_12 rfl (lv_at hl 0 rfl) ?_
  refine lv_bipush (v := 10) hx hb dX9_init_13 (by decide) ?_
  refine x_newI (wg := fun q2 => [(h0, .inr (9, [v0_0, .ref q1, v0_2, v0_3, v0_4, v0_5, v0_6, v0_7, v0_8, v0_9, v0_10, v0_11, v0_12, v0_13, v0_14])), (q1, .inl (cyI, 10, .inl (fun _ => 0))), (q2, .inl (cyI, 10, .inl (fun _ => 0)))]) E wq3 hP hD hS hA 10 (by decide) (by decide) rfl ⟨rfl, rfl⟩ ⟨Nat.le_of_ble_eq_true rfl, Nat.le_of_ble_eq_true rfl⟩ (fun _ => rfl) dX9_init_15 (fun q2 H hP hD hS => ?_)
  refine x_putF (ws' := [(h0, .inr (9, [v0_0, .ref q1, .ref q2, v0_3, v0_4, v0_5, v0_6, v0_7, v0_8, v0_9, v0_10, v0_11, v0_12, v0_13, v0_14])), (q1, .inl (cyI, 10, .inl (fun _ => 0))), (q2, .inl (cyI, 10, .inl (fun _ => 0)))]) E iX9 tyX9 tyX9_ok nmX9 hP hD hS hnm 0 rfl rfl 2 (by decide) wq50 rfl rfl rfl rfl rfl rfl dX9_init_17 (fun H locs hP hD hS => ?_)
  refine lv_aload_n hx hb dX9_init_20 rfl (lv_at hl 0 rfl) ?_
  refine lv_bipush (v := 10) hx hb dX9_init_21 (by decide) ?_
  refine x_newI (wg := fun q3 => [(h0, .inr (9, [v0_0, .ref q1, .ref q2, v0_3, v0_4, v0_5, v0_6, v0_7, v0_8, v0_9, v0_10, v0_11, v0_12, v0_13, v0_14])), (q1, .inl (cyI, 10, .inl (fun _ => 0))), (q2, .inl (cyI, 10, .inl (fun _ => 0))), (q3, .inl (cyI, 10, .inl (fun _ => 0)))]) E wq3 hP hD hS hA 10 (by decide) (by decide) rfl ⟨rfl, rfl⟩ ⟨Nat.le_of_ble_eq_true rfl, Nat.le_of_ble_eq_true rfl⟩ (fun _ => rfl) dX9_init_23 (fun q3 H hP hD hS => ?_)
  refine x_putF (ws' := [(h0, .inr (9, [v0_0, .ref q1, .ref q2, .ref q3, v0_4, v0_5, v0_6, v0_7, v0_8, v0_9, v0_10, v0_11, v0_12, v0_13, v0_14])), (q1, .inl (cyI, 10, .inl (fun _ => 0))), (q2, .inl (cyI, 10, .inl (fun _ => 0))), (q3, .inl (cyI, 10, .inl (fun _ => 0)))]) E iX9 tyX9 tyX9_ok nmX9 hP hD hS hnm 0 rfl rfl 3 (by decide) wq51 rfl rfl rfl rfl rfl rfl dX9_init_25 (fun H locs hP hD hS => ?_)
  refine lv_aload_n hx hb dX9_init_28 rfl (lv_at hl 0 rfl) ?_
  refine lv_bipush (v := 10) hx hb dX9_init_29 (by decide) ?_
  refine x_newI (wg := fun q4 => [(h0, .inr (9, [v0_0, .ref q1, .ref q2, .ref q3, v0_4, v0_5, v0_6, v0_7, v0_8, v0_9, v0_10, v0_11, v0_12, v0_13, v0_14])), (q1, .inl (cyI, 10, .inl (fun _ => 0))), (q2, .inl (cyI, 10, .inl (fun _ => 0))), (q3, .inl (cyI, 10, .inl (fun _ => 0))), (q4, .inl (cyI, 10, .inl (fun _ => 0)))]) E wq3 hP hD hS hA 10 (by decide) (by decide) rfl ⟨rfl, rfl⟩ ⟨Nat.le_of_ble_eq_true rfl, Nat.le_of_ble_eq_true rfl⟩ (fun _ => rfl) dX9_init_31 (fun q4 H hP hD hS => ?_)
  refine x_putF (ws' := [(h0, .inr (9, [v0_0, .ref q1, .ref q2, .ref q3, .ref q4, v0_5, v0_6, v0_7, v0_8, v0_9, v0_10, v0_11, v0_12, v0_13, v0_14])), (q1, .inl (cyI, 10, .inl (fun _ => 0))), (q2, .inl (cyI, 10, .inl (fun _ => 0))), (q3, .inl (cyI, 10, .inl (fun _ => 0))), (q4, .inl (cyI, 10, .inl (fun _ => 0)))]) E iX9 tyX9 tyX9_ok nmX9 hP hD hS hnm 0 rfl rfl 4 (by decide) wq52 rfl rfl rfl rfl rfl rfl dX9_init_33 (fun H locs hP hD hS => ?_)
  refine lv_aload_n hx hb dX9_init_36 rfl (lv_at hl 0 rfl) ?_
  refine lv_bipush (v := 10) hx hb dX9_init_37 (by decide) ?_
  refine x_newI (wg := fun q5 => [(h0, .inr (9, [v0_0, .ref q1, .ref q2, .ref q3, .ref q4, v0_5, v0_6, v0_7, v0_8, v0_9, v0_10, v0_11, v0_12, v0_13, v0_14])), (q1, .inl (cyI, 10, .inl (fun _ => 0))), (q2, .inl (cyI, 10, .inl (fun _ => 0))), (q3, .inl (cyI, 10, .inl (fun _ => 0))), (q4, .inl (cyI, 10, .inl (fun _ => 0))), (q5, .inl (cyI, 10, .inl (fun _ => 0)))]) E wq3 hP hD hS hA 10 (by decide) (by decide) rfl ⟨rfl, rfl⟩ ⟨Nat.le_of_ble_eq_true rfl, Nat.le_of_ble_eq_true rfl⟩ (fun _ => rfl) dX9_init_39 (fun q5 H hP hD hS => ?_)
  refine x_putF (ws' := [(h0, .inr (9, [v0_0, .ref q1, .ref q2, .ref q3, .ref q4, .ref q5, v0_6, v0_7, v0_8, v0_9, v0_10, v0_11, v0_12, v0_13, v0_14])), (q1, .inl (cyI, 10, .inl (fun _ => 0))), (q2, .inl (cyI, 10, .inl (fun _ => 0))), (q3, .inl (cyI, 10, .inl (fun _ => 0))), (q4, .inl (cyI, 10, .inl (fun _ => 0))), (q5, .inl (cyI, 10, .inl (fun _ => 0)))]) E iX9 tyX9 tyX9_ok nmX9 hP hD hS hnm 0 rfl rfl 5 (by decide) wq53 rfl rfl rfl rfl rfl rfl dX9_init_41 (fun H locs hP hD hS => ?_)
  refine lv_aload_n hx hb dX9_init_44 rfl (lv_at hl 0 rfl) ?_
  refine lv_bipush (v := 60) hx hb dX9_init_45 (by decide) ?_
  refine x_newI (wg := fun q6 => [(h0, .inr (9, [v0_0, .ref q1, .ref q2, .ref q3, .ref q4, .ref q5, v0_6, v0_7, v0_8, v0_9, v0_10, v0_11, v0_12, v0_13, v0_14])), (q1, .inl (cyI, 10, .inl (fun _ => 0))), (q2, .inl (cyI, 10, .inl (fun _ => 0))), (q3, .inl (cyI, 10, .inl (fun _ => 0))), (q4, .inl (cyI, 10, .inl (fun _ => 0))), (q5, .inl (cyI, 10, .inl (fun _ => 0))), (q6, .inl (cyI, 60, .inl (fun _ => 0)))]) E wq3 hP hD hS hA 60 (by decide) (by decide) rfl ⟨rfl, rfl⟩ ⟨Nat.le_of_ble_eq_true rfl, Nat.le_of_ble_eq_true rfl⟩ (fun _ => rfl) dX9_init_47 (fun q6 H hP hD hS => ?_)
  refine x_putF (ws' := [(h0, .inr (9, [v0_0, .ref q1, .ref q2, .ref q3, .ref q4, .ref q5, .ref q6, v0_7, v0_8, v0_9, v0_10, v0_11, v0_12, v0_13, v0_14])), (q1, .inl (cyI, 10, .inl (fun _ => 0))), (q2, .inl (cyI, 10, .inl (fun _ => 0))), (q3, .inl (cyI, 10, .inl (fun _ => 0))), (q4, .inl (cyI, 10, .inl (fun _ => 0))), (q5, .inl (cyI, 10, .inl (fun _ => 0))), (q6, .inl (cyI, 60, .inl (fun _ => 0)))]) E iX9 tyX9 tyX9_ok nmX9 hP hD hS hnm 0 rfl rfl 6 (by decide) wq54 rfl rfl rfl rfl rfl rfl dX9_init_49 (fun H locs hP hD hS => ?_)
  refine lv_aload_n hx hb dX9_init_52 rfl (lv_at hl 0 rfl) ?_
  refine lv_bipush (v := 60) hx hb dX9_init_53 (by decide) ?_
  refine x_newI (wg := fun q7 => [(h0, .inr (9, [v0_0, .ref q1, .ref q2, .ref q3, .ref q4, .ref q5, .ref q6, v0_7, v0_8, v0_9, v0_10, v0_11, v0_12, v0_13, v0_14])), (q1, .inl (cyI, 10, .inl (fun _ => 0))), (q2, .inl (cyI, 10, .inl (fun _ => 0))), (q3, .inl (cyI, 10, .inl (fun _ => 0))), (q4, .inl (cyI, 10, .inl (fun _ => 0))), (q5, .inl (cyI, 10, .inl (fun _ => 0))), (q6, .inl (cyI, 60, .inl (fun _ => 0))), (q7, .inl (cyI, 60, .inl (fun _ => 0)))]) E wq3 hP hD hS hA 60 (by decide) (by decide) rfl ⟨rfl, rfl⟩ ⟨Nat.le_of_ble_eq_true rfl, Nat.le_of_ble_eq_true rfl⟩ (fun _ => rfl) dX9_init_55 (fun q7 H hP hD hS => ?_)
  refine x_putF (ws' := [(h0, .inr (9, [v0_0, .ref q1, .ref q2, .ref q3, .ref q4, .ref q5, .ref q6, .ref q7, v0_8, v0_9, v0_10, v0_11, v0_12, v0_13, v0_14])), (q1, .inl (cyI, 10, .inl (fun _ => 0))), (q2, .inl (cyI, 10, .inl (fun _ => 0))), (q3, .inl (cyI, 10, .inl (fun _ => 0))), (q4, .inl (cyI, 10, .inl (fun _ => 0))), (q5, .inl (cyI, 10, .inl (fun _ => 0))), (q6, .inl (cyI, 60, .inl (fun _ => 0))), (q7, .inl (cyI, 60, .inl (fun _ => 0)))]) E iX9 tyX9 tyX9_ok nmX9 hP hD hS hnm 0 rfl rfl 7 (by decide) wq55 rfl rfl rfl rfl rfl rfl dX9_init_57 (fun H locs hP hD hS => ?_)
  refine lv_aload_n hx hb dX9_init_60 rfl (lv_at hl 0 rfl) ?_
  refine lv_bipush (v := 60) hx hb dX9_init_61 (by decide) ?_
  refine x_newI (wg := fun q8 => [(h0, .inr (9, [v0_0, .ref q1, .ref q2, .ref q3, .ref q4, .ref q5, .ref q6, .ref q7, v0_8, v0_9, v0_10, v0_11, v0_12, v0_13, v0_14])), (q1, .inl (cyI, 10, .inl (fun _ => 0))), (q2, .inl (cyI, 10, .inl (fun _ => 0))), (q3, .inl (cyI, 10, .inl (fun _ => 0))), (q4, .inl (cyI, 10, .inl (fun _ => 0))), (q5, .inl (cyI, 10, .inl (fun _ => 0))), (q6, .inl (cyI, 60, .inl (fun _ => 0))), (q7, .inl (cyI, 60, .inl (fun _ => 0))), (q8, .inl (cyI, 60, .inl (fun _ => 0)))]) E wq3 hP hD hS hA 60 (by decide) (by decide) rfl ⟨rfl, rfl⟩ ⟨Nat.le_of_ble_eq_true rfl, Nat.le_of_ble_eq_true rfl⟩ (fun _ => rfl) dX9_init_63 (fun q8 H hP hD hS => ?_)
  refine x_putF (ws' := [(h0, .inr (9, [v0_0, .ref q1, .ref q2, .ref q3, .ref q4, .ref q5, .ref q6, .ref q7, .ref q8, v0_9, v0_10, v0_11, v0_12, v0_13, v0_14])), (q1, .inl (cyI, 10, .inl (fun _ => 0))), (q2, .inl (cyI, 10, .inl (fun _ => 0))), (q3, .inl (cyI, 10, .inl (fun _ => 0))), (q4, .inl (cyI, 10, .inl (fun _ => 0))), (q5, .inl (cyI, 10, .inl (fun _ => 0))), (q6, .inl (cyI, 60, .inl (fun _ => 0))), (q7, .inl (cyI, 60, .inl (fun _ => 0))), (q8, .inl (cyI, 60, .inl (fun _ => 0)))]) E iX9 tyX9 tyX9_ok nmX9 hP hD hS hnm 0 rfl rfl 8 (by decide) wq56 rfl rfl rfl rfl rfl rfl dX9_init_65 (fun H locs hP hD hS => ?_)
  refine lv_aload_n hx hb dX9_init_68 rfl (lv_at hl 0 rfl) ?_
  refine lv_aload_n hx hb dX9_init_69 rfl (lv_at hl 1 rfl) ?_
  refine x_putF (ws' := [(h0, .inr (9, [.ref h1, .ref q1, .ref q2, .ref q3, .ref q4, .ref q5, .ref q6, .ref q7, .ref q8, v0_9, v0_10, v0_11, v0_12, v0_13, v0_14])), (q1, .inl (cyI, 10, .inl (fun _ => 0))), (q2, .inl (cyI, 10, .inl (fun _ => 0))), (q3, .inl (cyI, 10, .inl (fun _ => 0))), (q4, .inl (cyI, 10, .inl (fun _ => 0))), (q5, .inl (cyI, 10, .inl (fun _ => 0))), (q6, .inl (cyI, 60, .inl (fun _ => 0))), (q7, .inl (cyI, 60, .inl (fun _ => 0))), (q8, .inl (cyI, 60, .inl (fun _ => 0)))]) E iX9 tyX9 tyX9_ok nmX9 hP hD hS hnm 0 rfl rfl 0 (by decide) wq57 rfl rfl rfl rfl rfl rfl dX9_init_70 (fun H locs hP hD hS => ?_)
  exact x_vret E hr hlk hP hD hS (fun k => [q1, q2, q3, q4, q5, q6, q7, q8].getD k 0, fun k => [].getD k (fun _ => 0)) [0, 1, 2, 3, 4, 5, 6, 7, 8] (by decide) rfl dX9_init_73

set_option maxHeartbeats 4000000 in
set_option maxRecDepth 100000 in
theorem mX5_init (l : Launch) (D : va_G) (cyI cyJ : ClassId) (Z : xZ) (h0 : Nat) (h1 : Nat) (h2 : Nat) (h3 : Nat) (v0_0 : Value) (v0_1 : Value) (v0_2 : Value) : MetV l yX5_init (Cond.code yX5_init cX5_init 4 none) { frames := 1, cells := 0, slots := 0, locals := 12 } D cyI cyJ Z [.ref h0, .ref h1, .ref h2, .ref h3] [(h0, .inr (5, [v0_0, v0_1, v0_2]))] (fun _ : Unit => ([(h0, .inr (5, [.ref h1, .ref h2, .ref h3]))] : va_W)) 0 0 := by
  refine met_v (by decide) rfl ?_
  intro p e s m below meth c A ls E hr hlk hnm hP hD hA hl
  have hS : va_S A s.heap s.heap [] := va_S.rf
  have hx := E.1.1
  have hb := E.1.2.1
  have hl : lv_has ls 4 [(0, .ref h0), (1, .ref h1), (2, .ref h2), (3, .ref h3)] := hl
  refine lv_aload_n hx hb dX5_init_0 rfl (lv_at hl 0 rfl) ?_
  refine x_obj E wq64 wq1 wq2 hl.1 dX5_init_1 (Nat.le_of_ble_eq_true rfl) (Nat.le_of_ble_eq_true rfl) ?_
  refine lv_aload_n hx hb dX5_init_4 rfl (lv_at hl 0 rfl) ?_
  refine lv_aload_n hx hb dX5_init_5 rfl (lv_at hl 1 rfl) ?_
  refine x_putF (ws' := [(h0, .inr (5, [.ref h1, v0_1, v0_2]))]) E iX5 tyX5 tyX5_ok nmX5 hP hD hS hnm 0 rfl rfl 0 (by decide) wq65 rfl rfl rfl rfl rfl rfl dX5_init_6 (fun H locs hP hD hS => ?_)
  refine lv_aload_n hx hb dX5_init_9 rfl (lv_at hl 0 rfl) ?_
  refine lv_aload_n hx hb dX5_init_10 rfl (lv_at hl 2 rfl) ?_
  refine x_putF (ws' := [(h0, .inr (5, [.ref h1, .ref h2, v0_2]))]) E iX5 tyX5 tyX5_ok nmX5 hP hD hS hnm 0 rfl rfl 1 (by decide) wq66 rfl rfl rfl rfl rfl rfl dX5_init_11 (fun H locs hP hD hS => ?_)
  refine lv_aload_n hx hb dX5_init_14 rfl (lv_at hl 0 rfl) ?_
  refine lv_aload_n hx hb dX5_init_15 rfl (lv_at hl 3 rfl) ?_
  refine x_putF (ws' := [(h0, .inr (5, [.ref h1, .ref h2, .ref h3]))]) E iX5 tyX5 tyX5_ok nmX5 hP hD hS hnm 0 rfl rfl 2 (by decide) wq67 rfl rfl rfl rfl rfl rfl dX5_init_16 (fun H locs hP hD hS => ?_)
  exact x_vret E hr hlk hP hD hS () [0] (by decide) rfl dX5_init_19

set_option maxHeartbeats 4000000 in
set_option maxRecDepth 100000 in
theorem mX3_init (l : Launch) (D : va_G) (cyI cyJ : ClassId) (Z : xZ) (h0 : Nat) (h1 : Nat) (h2 : Nat) (h3 : Nat) (v0_0 : Value) (v0_1 : Value) (v0_2 : Value) (v0_3 : Value) (v0_4 : Value) (v0_5 : Value) (v0_6 : Value) (v0_7 : Value) : MetV l yX3_init (Cond.code yX3_init cX3_init 4 none) { frames := 1, cells := 3, slots := 36, locals := 12 } D cyI cyJ Z [.ref h0, .ref h1, .ref h2, .ref h3] [(h0, .inr (3, [v0_0, v0_1, v0_2, v0_3, v0_4, v0_5, v0_6, v0_7]))] (fun u : ((Nat → Nat) × (Nat → Nat → Int32)) => ([(h0, .inr (3, [.ref h1, .ref h2, .ref h3, .ref (u.1 0), .ref (u.1 1), v0_5, .ref (u.1 2), v0_7])), ((u.1 0), .inl (cyI, 10, .inl (fun _ => 0))), ((u.1 1), .inl (cyI, 10, .inl (fun _ => 0))), ((u.1 2), .inl (cyI, 16, .inl (fun _ => 0)))] : va_W)) 3 36 := by
  refine met_v (by decide) rfl ?_
  intro p e s m below meth c A ls E hr hlk hnm hP hD hA hl
  have hS : va_S A s.heap s.heap [] := va_S.rf
  have hx := E.1.1
  have hb := E.1.2.1
  have hl : lv_has ls 4 [(0, .ref h0), (1, .ref h1), (2, .ref h2), (3, .ref h3)] := hl
  refine lv_aload_n hx hb dX3_init_0 rfl (lv_at hl 0 rfl) ?_
  refine x_obj E wq74 wq1 wq2 hl.1 dX3_init_1 (Nat.le_of_ble_eq_true rfl) (Nat.le_of_ble_eq_true rfl) ?_
  refine lv_aload_n hx hb dX3_init_4 rfl (lv_at hl 0 rfl) ?_
  refine lv_bipush (v := 10) hx hb dX3_init_5 (by decide) ?_
  refine x_newI (wg := fun q1 => [(h0, .inr (3, [v0_0, v0_1, v0_2, v0_3, v0_4, v0_5, v0_6, v0_7])), (q1, .inl (cyI, 10, .inl (fun _ => 0)))]) E wq3 hP hD hS hA 10 (by decide) (by decide) rfl ⟨rfl, rfl⟩ ⟨Nat.le_of_ble_eq_true rfl, Nat.le_of_ble_eq_true rfl⟩ (fun _ => rfl) dX3_init_7 (fun q1 H hP hD hS => ?_)
  refine x_putF (ws' := [(h0, .inr (3, [v0_0, v0_1, v0_2, .ref q1, v0_4, v0_5, v0_6, v0_7])), (q1, .inl (cyI, 10, .inl (fun _ => 0)))]) E iX3 tyX3 tyX3_ok nmX3 hP hD hS hnm 0 rfl rfl 3 (by decide) wq75 rfl rfl rfl rfl rfl rfl dX3_init_9 (fun H locs hP hD hS => ?_)
  refine lv_aload_n hx hb dX3_init_12 rfl (lv_at hl 0 rfl) ?_
  refine lv_bipush (v := 10) hx hb dX3_init_13 (by decide) ?_
  refine x_newI (wg := fun q2 => [(h0, .inr (3, [v0_0, v0_1, v0_2, .ref q1, v0_4, v0_5, v0_6, v0_7])), (q1, .inl (cyI, 10, .inl (fun _ => 0))), (q2, .inl (cyI, 10, .inl (fun _ => 0)))]) E wq3 hP hD hS hA 10 (by decide) (by decide) rfl ⟨rfl, rfl⟩ ⟨Nat.le_of_ble_eq_true rfl, Nat.le_of_ble_eq_true rfl⟩ (fun _ => rfl) dX3_init_15 (fun q2 H hP hD hS => ?_)
  refine x_putF (ws' := [(h0, .inr (3, [v0_0, v0_1, v0_2, .ref q1, .ref q2, v0_5, v0_6, v0_7])), (q1, .inl (cyI, 10, .inl (fun _ => 0))), (q2, .inl (cyI, 10, .inl (fun _ => 0)))]) E iX3 tyX3 tyX3_ok nmX3 hP hD hS hnm 0 rfl rfl 4 (by decide) wq76 rfl rfl rfl rfl rfl rfl dX3_init_17 (fun H locs hP hD hS => ?_)
  refine lv_aload_n hx hb dX3_init_20 rfl (lv_at hl 0 rfl) ?_
  refine lv_bipush (v := 16) hx hb dX3_init_21 (by decide) ?_
  refine x_newI (wg := fun q3 => [(h0, .inr (3, [v0_0, v0_1, v0_2, .ref q1, .ref q2, v0_5, v0_6, v0_7])), (q1, .inl (cyI, 10, .inl (fun _ => 0))), (q2, .inl (cyI, 10, .inl (fun _ => 0))), (q3, .inl (cyI, 16, .inl (fun _ => 0)))]) E wq3 hP hD hS hA 16 (by decide) (by decide) rfl ⟨rfl, rfl⟩ ⟨Nat.le_of_ble_eq_true rfl, Nat.le_of_ble_eq_true rfl⟩ (fun _ => rfl) dX3_init_23 (fun q3 H hP hD hS => ?_)
  refine x_putF (ws' := [(h0, .inr (3, [v0_0, v0_1, v0_2, .ref q1, .ref q2, v0_5, .ref q3, v0_7])), (q1, .inl (cyI, 10, .inl (fun _ => 0))), (q2, .inl (cyI, 10, .inl (fun _ => 0))), (q3, .inl (cyI, 16, .inl (fun _ => 0)))]) E iX3 tyX3 tyX3_ok nmX3 hP hD hS hnm 0 rfl rfl 6 (by decide) wq77 rfl rfl rfl rfl rfl rfl dX3_init_25 (fun H locs hP hD hS => ?_)
  refine lv_aload_n hx hb dX3_init_28 rfl (lv_at hl 0 rfl) ?_
  refine lv_aload_n hx hb dX3_init_29 rfl (lv_at hl 1 rfl) ?_
  refine x_putF (ws' := [(h0, .inr (3, [.ref h1, v0_1, v0_2, .ref q1, .ref q2, v0_5, .ref q3, v0_7])), (q1, .inl (cyI, 10, .inl (fun _ => 0))), (q2, .inl (cyI, 10, .inl (fun _ => 0))), (q3, .inl (cyI, 16, .inl (fun _ => 0)))]) E iX3 tyX3 tyX3_ok nmX3 hP hD hS hnm 0 rfl rfl 0 (by decide) wq78 rfl rfl rfl rfl rfl rfl dX3_init_30 (fun H locs hP hD hS => ?_)
  refine lv_aload_n hx hb dX3_init_33 rfl (lv_at hl 0 rfl) ?_
  refine lv_aload_n hx hb dX3_init_34 rfl (lv_at hl 2 rfl) ?_
  refine x_putF (ws' := [(h0, .inr (3, [.ref h1, .ref h2, v0_2, .ref q1, .ref q2, v0_5, .ref q3, v0_7])), (q1, .inl (cyI, 10, .inl (fun _ => 0))), (q2, .inl (cyI, 10, .inl (fun _ => 0))), (q3, .inl (cyI, 16, .inl (fun _ => 0)))]) E iX3 tyX3 tyX3_ok nmX3 hP hD hS hnm 0 rfl rfl 1 (by decide) wq79 rfl rfl rfl rfl rfl rfl dX3_init_35 (fun H locs hP hD hS => ?_)
  refine lv_aload_n hx hb dX3_init_38 rfl (lv_at hl 0 rfl) ?_
  refine lv_aload_n hx hb dX3_init_39 rfl (lv_at hl 3 rfl) ?_
  refine x_putF (ws' := [(h0, .inr (3, [.ref h1, .ref h2, .ref h3, .ref q1, .ref q2, v0_5, .ref q3, v0_7])), (q1, .inl (cyI, 10, .inl (fun _ => 0))), (q2, .inl (cyI, 10, .inl (fun _ => 0))), (q3, .inl (cyI, 16, .inl (fun _ => 0)))]) E iX3 tyX3 tyX3_ok nmX3 hP hD hS hnm 0 rfl rfl 2 (by decide) wq80 rfl rfl rfl rfl rfl rfl dX3_init_40 (fun H locs hP hD hS => ?_)
  exact x_vret E hr hlk hP hD hS (fun k => [q1, q2, q3].getD k 0, fun k => [].getD k (fun _ => 0)) [0, 1, 2, 3] (by decide) rfl dX3_init_43

set_option maxHeartbeats 4000000 in
set_option maxRecDepth 100000 in
theorem mX8_init (l : Launch) (D : va_G) (cyI cyJ : ClassId) (Z : xZ) (h0 : Nat) (h1 : Nat) (v0_0 : Value) (v0_1 : Value) (v0_2 : Value) (v0_3 : Value) (v0_4 : Value) (v0_5 : Value) (v0_6 : Value) (v0_7 : Value) (v0_8 : Value) (v0_9 : Value) (v0_10 : Value) (v0_11 : Value) : MetV l yX8_init (Cond.code yX8_init cX8_init 7 none) { frames := 9, cells := 4, slots := 1228, locals := 400 } D cyI cyJ Z [.ref h0, .ref h1] [(h0, .inr (8, [v0_0, v0_1, v0_2, v0_3, v0_4, v0_5, v0_6, v0_7, v0_8, v0_9, v0_10, v0_11]))] (fun u : ((Nat → Nat) × (Nat → Nat → Int32)) => ([(h0, .inr (8, [.ref h1, .ref (u.1 0), .ref (u.1 1), .ref (u.1 2), .ref (u.1 3), v0_5, v0_6, v0_7, v0_8, v0_9, v0_10, v0_11])), ((u.1 0), .inl (cyI, 25, .inl (u.2 0))), ((u.1 1), .inl (cyI, 401, .inl (fun _ => 0))), ((u.1 2), .inl (cyI, 401, .inl (fun _ => 0))), ((u.1 3), .inl (cyI, 401, .inl (fun _ => 0)))] : va_W)) 4 1228 := by
  refine met_v (by decide) rfl ?_
  intro p e s m below meth c A ls E hr hlk hnm hP hD hA hl
  have hS : va_S A s.heap s.heap [] := va_S.rf
  have hx := E.1.1
  have hb := E.1.2.1
  have hl : lv_has ls 7 [(0, .ref h0), (1, .ref h1)] := hl
  refine lv_aload_n hx hb dX8_init_0 rfl (lv_at hl 0 rfl) ?_
  refine x_obj E wq87 wq1 wq2 hl.1 dX8_init_1 (Nat.le_of_ble_eq_true rfl) (Nat.le_of_ble_eq_true rfl) ?_
  refine lv_aload_n hx hb dX8_init_4 rfl (lv_at hl 0 rfl) ?_
  refine lv_bipush (v := 25) hx hb dX8_init_5 (by decide) ?_
  refine x_newI (wg := fun q1 => [(h0, .inr (8, [v0_0, v0_1, v0_2, v0_3, v0_4, v0_5, v0_6, v0_7, v0_8, v0_9, v0_10, v0_11])), (q1, .inl (cyI, 25, .inl (fun _ => 0)))]) E wq3 hP hD hS hA 25 (by decide) (by decide) rfl ⟨rfl, rfl⟩ ⟨Nat.le_of_ble_eq_true rfl, Nat.le_of_ble_eq_true rfl⟩ (fun _ => rfl) dX8_init_7 (fun q1 H hP hD hS => ?_)
  refine x_putF (ws' := [(h0, .inr (8, [v0_0, .ref q1, v0_2, v0_3, v0_4, v0_5, v0_6, v0_7, v0_8, v0_9, v0_10, v0_11])), (q1, .inl (cyI, 25, .inl (fun _ => 0)))]) E iX8 tyX8 tyX8_ok nmX8 hP hD hS hnm 0 rfl rfl 1 (by decide) wq88 rfl rfl rfl rfl rfl rfl dX8_init_9 (fun H locs hP hD hS => ?_)
  refine lv_aload_n hx hb dX8_init_12 rfl (lv_at hl 0 rfl) ?_
  refine lv_sipush (v := 401) hx hb dX8_init_13 (by decide) ?_
  refine x_newI (wg := fun q2 => [(h0, .inr (8, [v0_0, .ref q1, v0_2, v0_3, v0_4, v0_5, v0_6, v0_7, v0_8, v0_9, v0_10, v0_11])), (q1, .inl (cyI, 25, .inl (fun _ => 0))), (q2, .inl (cyI, 401, .inl (fun _ => 0)))]) E wq3 hP hD hS hA 401 (by decide) (by decide) rfl ⟨rfl, rfl⟩ ⟨Nat.le_of_ble_eq_true rfl, Nat.le_of_ble_eq_true rfl⟩ (fun _ => rfl) dX8_init_16 (fun q2 H hP hD hS => ?_)
  refine x_putF (ws' := [(h0, .inr (8, [v0_0, .ref q1, .ref q2, v0_3, v0_4, v0_5, v0_6, v0_7, v0_8, v0_9, v0_10, v0_11])), (q1, .inl (cyI, 25, .inl (fun _ => 0))), (q2, .inl (cyI, 401, .inl (fun _ => 0)))]) E iX8 tyX8 tyX8_ok nmX8 hP hD hS hnm 0 rfl rfl 2 (by decide) wq89 rfl rfl rfl rfl rfl rfl dX8_init_18 (fun H locs hP hD hS => ?_)
  refine lv_aload_n hx hb dX8_init_21 rfl (lv_at hl 0 rfl) ?_
  refine lv_sipush (v := 401) hx hb dX8_init_22 (by decide) ?_
  refine x_newI (wg := fun q3 => [(h0, .inr (8, [v0_0, .ref q1, .ref q2, v0_3, v0_4, v0_5, v0_6, v0_7, v0_8, v0_9, v0_10, v0_11])), (q1, .inl (cyI, 25, .inl (fun _ => 0))), (q2, .inl (cyI, 401, .inl (fun _ => 0))), (q3, .inl (cyI, 401, .inl (fun _ => 0)))]) E wq3 hP hD hS hA 401 (by decide) (by decide) rfl ⟨rfl, rfl⟩ ⟨Nat.le_of_ble_eq_true rfl, Nat.le_of_ble_eq_true rfl⟩ (fun _ => rfl) dX8_init_25 (fun q3 H hP hD hS => ?_)
  refine x_putF (ws' := [(h0, .inr (8, [v0_0, .ref q1, .ref q2, .ref q3, v0_4, v0_5, v0_6, v0_7, v0_8, v0_9, v0_10, v0_11])), (q1, .inl (cyI, 25, .inl (fun _ => 0))), (q2, .inl (cyI, 401, .inl (fun _ => 0))), (q3, .inl (cyI, 401, .inl (fun _ => 0)))]) E iX8 tyX8 tyX8_ok nmX8 hP hD hS hnm 0 rfl rfl 3 (by decide) wq90 rfl rfl rfl rfl rfl rfl dX8_init_27 (fun H locs hP hD hS => ?_)
  refine lv_aload_n hx hb dX8_init_30 rfl (lv_at hl 0 rfl) ?_
  refine lv_sipush (v := 401) hx hb dX8_init_31 (by decide) ?_
  refine x_newI (wg := fun q4 => [(h0, .inr (8, [v0_0, .ref q1, .ref q2, .ref q3, v0_4, v0_5, v0_6, v0_7, v0_8, v0_9, v0_10, v0_11])), (q1, .inl (cyI, 25, .inl (fun _ => 0))), (q2, .inl (cyI, 401, .inl (fun _ => 0))), (q3, .inl (cyI, 401, .inl (fun _ => 0))), (q4, .inl (cyI, 401, .inl (fun _ => 0)))]) E wq3 hP hD hS hA 401 (by decide) (by decide) rfl ⟨rfl, rfl⟩ ⟨Nat.le_of_ble_eq_true rfl, Nat.le_of_ble_eq_true rfl⟩ (fun _ => rfl) dX8_init_34 (fun q4 H hP hD hS => ?_)
  refine x_putF (ws' := [(h0, .inr (8, [v0_0, .ref q1, .ref q2, .ref q3, .ref q4, v0_5, v0_6, v0_7, v0_8, v0_9, v0_10, v0_11])), (q1, .inl (cyI, 25, .inl (fun _ => 0))), (q2, .inl (cyI, 401, .inl (fun _ => 0))), (q3, .inl (cyI, 401, .inl (fun _ => 0))), (q4, .inl (cyI, 401, .inl (fun _ => 0)))]) E iX8 tyX8 tyX8_ok nmX8 hP hD hS hnm 0 rfl rfl 4 (by decide) wq91 rfl rfl rfl rfl rfl rfl dX8_init_36 (fun H locs hP hD hS => ?_)
  refine lv_aload_n hx hb dX8_init_39 rfl (lv_at hl 0 rfl) ?_
  refine lv_aload_n hx hb dX8_init_40 rfl (lv_at hl 1 rfl) ?_
  refine x_putF (ws' := [(h0, .inr (8, [.ref h1, .ref q1, .ref q2, .ref q3, .ref q4, v0_5, v0_6, v0_7, v0_8, v0_9, v0_10, v0_11])), (q1, .inl (cyI, 25, .inl (fun _ => 0))), (q2, .inl (cyI, 401, .inl (fun _ => 0))), (q3, .inl (cyI, 401, .inl (fun _ => 0))), (q4, .inl (cyI, 401, .inl (fun _ => 0)))]) E iX8 tyX8 tyX8_ok nmX8 hP hD hS hnm 0 rfl rfl 0 (by decide) wq92 rfl rfl rfl rfl rfl rfl dX8_init_41 (fun H locs hP hD hS => ?_)
  refine lv_iconst (v := 0) hx hb dX8_init_44 (by decide) ?_
  refine lv_istore_n (lv' := [(2, .int 0), (0, .ref h0), (1, .ref h1)]) hx hb dX8_init_45 rfl hl (by decide) rfl (fun ls hl => ?_)
  refine lv_iconst (v := 0) hx hb dX8_init_46 (by decide) ?_
  refine lv_istore_n (lv' := [(3, .int 0), (2, .int 0), (0, .ref h0), (1, .ref h1)]) hx hb dX8_init_47 rfl hl (by decide) rfl (fun ls hl => ?_)
  refine lv_iconst (v := 0) hx hb dX8_init_48 (by decide) ?_
  refine lv_istore (lv' := [(4, .int 0), (3, .int 0), (2, .int 0), (0, .ref h0), (1, .ref h1)]) hx hb dX8_init_49 hl (by decide) rfl (fun ls hl => ?_)
  refine lv_iconst (v := 0) hx hb dX8_init_51 (by decide) ?_
  refine lv_istore (lv' := [(5, .int 0), (4, .int 0), (3, .int 0), (2, .int 0), (0, .ref h0), (1, .ref h1)]) hx hb dX8_init_52 hl (by decide) rfl (fun ls hl => ?_)
  refine x8_loop (wg := fun g5 => [(h0, .inr (8, [.ref h1, .ref q1, .ref q2, .ref q3, .ref q4, v0_5, v0_6, v0_7, v0_8, v0_9, v0_10, v0_11])), (q1, .inl (cyI, 25, .inl g5)), (q2, .inl (cyI, 401, .inl (fun _ => 0))), (q3, .inl (cyI, 401, .inl (fun _ => 0))), (q4, .inl (cyI, 401, .inl (fun _ => 0)))]) E (Nat.le_of_ble_eq_true rfl) (Nat.le_of_ble_eq_true rfl) hD hS hA 0 1 (fun _ => rfl) rfl (fun _ => rfl) (fun _ _ => rfl) (fun g5 H locs ls hP hD hS hl => ?_) hP hl
  exact x_vret E hr hlk hP hD hS (fun k => [q1, q2, q3, q4].getD k 0, fun k => [g5].getD k (fun _ => 0)) [0, 1, 2, 3, 4] (by decide) rfl dX8_init_133

set_option maxHeartbeats 4000000 in
set_option maxRecDepth 100000 in
theorem mX6_init (l : Launch) (D : va_G) (cyI cyJ : ClassId) (Z : xZ) (h0 : Nat) (h1 : Nat) (h2 : Nat) (h3 : Nat) (h4 : Nat) (v0_0 : Value) (v0_1 : Value) (v0_2 : Value) (v0_3 : Value) (v0_4 : Value) (v0_5 : Value) (v0_6 : Value) (v0_7 : Value) (v0_8 : Value) : MetV l yX6_init (Cond.code yX6_init cX6_init 5 none) { frames := 1, cells := 3, slots := 424, locals := 12 } D cyI cyJ Z [.ref h0, .ref h1, .ref h2, .ref h3, .ref h4] [(h0, .inr (6, [v0_0, v0_1, v0_2, v0_3, v0_4, v0_5, v0_6, v0_7, v0_8]))] (fun u : ((Nat → Nat) × (Nat → Nat → Int32)) => ([(h0, .inr (6, [.ref h1, .ref h2, .ref h3, .ref h4, .ref (u.1 0), .ref (u.1 1), v0_6, .ref (u.1 2), v0_8])), ((u.1 0), .inl (cyI, 12, .inl (fun _ => 0))), ((u.1 1), .inl (cyI, 12, .inl (fun _ => 0))), ((u.1 2), .inl (cyI, 400, .inl (fun _ => 0)))] : va_W)) 3 424 := by
  refine met_v (by decide) rfl ?_
  intro p e s m below meth c A ls E hr hlk hnm hP hD hA hl
  have hS : va_S A s.heap s.heap [] := va_S.rf
  have hx := E.1.1
  have hb := E.1.2.1
  have hl : lv_has ls 5 [(0, .ref h0), (1, .ref h1), (2, .ref h2), (3, .ref h3), (4, .ref h4)] := hl
  refine lv_aload_n hx hb dX6_init_0 rfl (lv_at hl 0 rfl) ?_
  refine x_obj E wq99 wq1 wq2 hl.1 dX6_init_1 (Nat.le_of_ble_eq_true rfl) (Nat.le_of_ble_eq_true rfl) ?_
  refine lv_aload_n hx hb dX6_init_4 rfl (lv_at hl 0 rfl) ?_
  refine lv_bipush (v := 12) hx hb dX6_init_5 (by decide) ?_
  refine x_newI (wg := fun q1 => [(h0, .inr (6, [v0_0, v0_1, v0_2, v0_3, v0_4, v0_5, v0_6, v0_7, v0_8])), (q1, .inl (cyI, 12, .inl (fun _ => 0)))]) E wq3 hP hD hS hA 12 (by decide) (by decide) rfl ⟨rfl, rfl⟩ ⟨Nat.le_of_ble_eq_true rfl, Nat.le_of_ble_eq_true rfl⟩ (fun _ => rfl) dX6_init_7 (fun q1 H hP hD hS => ?_)
  refine x_putF (ws' := [(h0, .inr (6, [v0_0, v0_1, v0_2, v0_3, .ref q1, v0_5, v0_6, v0_7, v0_8])), (q1, .inl (cyI, 12, .inl (fun _ => 0)))]) E iX6 tyX6 tyX6_ok nmX6 hP hD hS hnm 0 rfl rfl 4 (by decide) wq100 rfl rfl rfl rfl rfl rfl dX6_init_9 (fun H locs hP hD hS => ?_)
  refine lv_aload_n hx hb dX6_init_12 rfl (lv_at hl 0 rfl) ?_
  refine lv_bipush (v := 12) hx hb dX6_init_13 (by decide) ?_
  refine x_newI (wg := fun q2 => [(h0, .inr (6, [v0_0, v0_1, v0_2, v0_3, .ref q1, v0_5, v0_6, v0_7, v0_8])), (q1, .inl (cyI, 12, .inl (fun _ => 0))), (q2, .inl (cyI, 12, .inl (fun _ => 0)))]) E wq3 hP hD hS hA 12 (by decide) (by decide) rfl ⟨rfl, rfl⟩ ⟨Nat.le_of_ble_eq_true rfl, Nat.le_of_ble_eq_true rfl⟩ (fun _ => rfl) dX6_init_15 (fun q2 H hP hD hS => ?_)
  refine x_putF (ws' := [(h0, .inr (6, [v0_0, v0_1, v0_2, v0_3, .ref q1, .ref q2, v0_6, v0_7, v0_8])), (q1, .inl (cyI, 12, .inl (fun _ => 0))), (q2, .inl (cyI, 12, .inl (fun _ => 0)))]) E iX6 tyX6 tyX6_ok nmX6 hP hD hS hnm 0 rfl rfl 5 (by decide) wq101 rfl rfl rfl rfl rfl rfl dX6_init_17 (fun H locs hP hD hS => ?_)
  refine lv_aload_n hx hb dX6_init_20 rfl (lv_at hl 0 rfl) ?_
  refine lv_sipush (v := 400) hx hb dX6_init_21 (by decide) ?_
  refine x_newI (wg := fun q3 => [(h0, .inr (6, [v0_0, v0_1, v0_2, v0_3, .ref q1, .ref q2, v0_6, v0_7, v0_8])), (q1, .inl (cyI, 12, .inl (fun _ => 0))), (q2, .inl (cyI, 12, .inl (fun _ => 0))), (q3, .inl (cyI, 400, .inl (fun _ => 0)))]) E wq3 hP hD hS hA 400 (by decide) (by decide) rfl ⟨rfl, rfl⟩ ⟨Nat.le_of_ble_eq_true rfl, Nat.le_of_ble_eq_true rfl⟩ (fun _ => rfl) dX6_init_24 (fun q3 H hP hD hS => ?_)
  refine x_putF (ws' := [(h0, .inr (6, [v0_0, v0_1, v0_2, v0_3, .ref q1, .ref q2, v0_6, .ref q3, v0_8])), (q1, .inl (cyI, 12, .inl (fun _ => 0))), (q2, .inl (cyI, 12, .inl (fun _ => 0))), (q3, .inl (cyI, 400, .inl (fun _ => 0)))]) E iX6 tyX6 tyX6_ok nmX6 hP hD hS hnm 0 rfl rfl 7 (by decide) wq102 rfl rfl rfl rfl rfl rfl dX6_init_26 (fun H locs hP hD hS => ?_)
  refine lv_aload_n hx hb dX6_init_29 rfl (lv_at hl 0 rfl) ?_
  refine lv_aload_n hx hb dX6_init_30 rfl (lv_at hl 1 rfl) ?_
  refine x_putF (ws' := [(h0, .inr (6, [.ref h1, v0_1, v0_2, v0_3, .ref q1, .ref q2, v0_6, .ref q3, v0_8])), (q1, .inl (cyI, 12, .inl (fun _ => 0))), (q2, .inl (cyI, 12, .inl (fun _ => 0))), (q3, .inl (cyI, 400, .inl (fun _ => 0)))]) E iX6 tyX6 tyX6_ok nmX6 hP hD hS hnm 0 rfl rfl 0 (by decide) wq103 rfl rfl rfl rfl rfl rfl dX6_init_31 (fun H locs hP hD hS => ?_)
  refine lv_aload_n hx hb dX6_init_34 rfl (lv_at hl 0 rfl) ?_
  refine lv_aload_n hx hb dX6_init_35 rfl (lv_at hl 2 rfl) ?_
  refine x_putF (ws' := [(h0, .inr (6, [.ref h1, .ref h2, v0_2, v0_3, .ref q1, .ref q2, v0_6, .ref q3, v0_8])), (q1, .inl (cyI, 12, .inl (fun _ => 0))), (q2, .inl (cyI, 12, .inl (fun _ => 0))), (q3, .inl (cyI, 400, .inl (fun _ => 0)))]) E iX6 tyX6 tyX6_ok nmX6 hP hD hS hnm 0 rfl rfl 1 (by decide) wq104 rfl rfl rfl rfl rfl rfl dX6_init_36 (fun H locs hP hD hS => ?_)
  refine lv_aload_n hx hb dX6_init_39 rfl (lv_at hl 0 rfl) ?_
  refine lv_aload_n hx hb dX6_init_40 rfl (lv_at hl 3 rfl) ?_
  refine x_putF (ws' := [(h0, .inr (6, [.ref h1, .ref h2, .ref h3, v0_3, .ref q1, .ref q2, v0_6, .ref q3, v0_8])), (q1, .inl (cyI, 12, .inl (fun _ => 0))), (q2, .inl (cyI, 12, .inl (fun _ => 0))), (q3, .inl (cyI, 400, .inl (fun _ => 0)))]) E iX6 tyX6 tyX6_ok nmX6 hP hD hS hnm 0 rfl rfl 2 (by decide) wq105 rfl rfl rfl rfl rfl rfl dX6_init_41 (fun H locs hP hD hS => ?_)
  refine lv_aload_n hx hb dX6_init_44 rfl (lv_at hl 0 rfl) ?_
  refine lv_aload hx hb dX6_init_45 (lv_at hl 4 rfl) ?_
  refine x_putF (ws' := [(h0, .inr (6, [.ref h1, .ref h2, .ref h3, .ref h4, .ref q1, .ref q2, v0_6, .ref q3, v0_8])), (q1, .inl (cyI, 12, .inl (fun _ => 0))), (q2, .inl (cyI, 12, .inl (fun _ => 0))), (q3, .inl (cyI, 400, .inl (fun _ => 0)))]) E iX6 tyX6 tyX6_ok nmX6 hP hD hS hnm 0 rfl rfl 3 (by decide) wq106 rfl rfl rfl rfl rfl rfl dX6_init_47 (fun H locs hP hD hS => ?_)
  exact x_vret E hr hlk hP hD hS (fun k => [q1, q2, q3].getD k 0, fun k => [].getD k (fun _ => 0)) [0, 1, 2, 3] (by decide) rfl dX6_init_50

set_option maxHeartbeats 4000000 in
set_option maxRecDepth 100000 in
theorem mX4_init (l : Launch) (D : va_G) (cyI cyJ : ClassId) (Z : xZ) (h0 : Nat) (h1 : Nat) (h2 : Nat) (h3 : Nat) (h4 : Nat) (h5 : Nat) (h6 : Nat) (v0_0 : Value) (v0_1 : Value) (v0_2 : Value) (v0_3 : Value) (v0_4 : Value) (v0_5 : Value) : MetV l yX4_init (Cond.code yX4_init cX4_init 7 none) { frames := 1, cells := 0, slots := 0, locals := 12 } D cyI cyJ Z [.ref h0, .ref h1, .ref h2, .ref h3, .ref h4, .ref h5, .ref h6] [(h0, .inr (4, [v0_0, v0_1, v0_2, v0_3, v0_4, v0_5]))] (fun _ : Unit => ([(h0, .inr (4, [.ref h1, .ref h2, .ref h3, .ref h4, .ref h5, .ref h6]))] : va_W)) 0 0 := by
  refine met_v (by decide) rfl ?_
  intro p e s m below meth c A ls E hr hlk hnm hP hD hA hl
  have hS : va_S A s.heap s.heap [] := va_S.rf
  have hx := E.1.1
  have hb := E.1.2.1
  have hl : lv_has ls 7 [(0, .ref h0), (1, .ref h1), (2, .ref h2), (3, .ref h3), (4, .ref h4), (5, .ref h5), (6, .ref h6)] := hl
  refine lv_aload_n hx hb dX4_init_0 rfl (lv_at hl 0 rfl) ?_
  refine x_obj E wq113 wq1 wq2 hl.1 dX4_init_1 (Nat.le_of_ble_eq_true rfl) (Nat.le_of_ble_eq_true rfl) ?_
  refine lv_aload_n hx hb dX4_init_4 rfl (lv_at hl 0 rfl) ?_
  refine lv_aload_n hx hb dX4_init_5 rfl (lv_at hl 1 rfl) ?_
  refine x_putF (ws' := [(h0, .inr (4, [.ref h1, v0_1, v0_2, v0_3, v0_4, v0_5]))]) E iX4 tyX4 tyX4_ok nmX4 hP hD hS hnm 0 rfl rfl 0 (by decide) wq114 rfl rfl rfl rfl rfl rfl dX4_init_6 (fun H locs hP hD hS => ?_)
  refine lv_aload_n hx hb dX4_init_9 rfl (lv_at hl 0 rfl) ?_
  refine lv_aload_n hx hb dX4_init_10 rfl (lv_at hl 2 rfl) ?_
  refine x_putF (ws' := [(h0, .inr (4, [.ref h1, .ref h2, v0_2, v0_3, v0_4, v0_5]))]) E iX4 tyX4 tyX4_ok nmX4 hP hD hS hnm 0 rfl rfl 1 (by decide) wq115 rfl rfl rfl rfl rfl rfl dX4_init_11 (fun H locs hP hD hS => ?_)
  refine lv_aload_n hx hb dX4_init_14 rfl (lv_at hl 0 rfl) ?_
  refine lv_aload_n hx hb dX4_init_15 rfl (lv_at hl 3 rfl) ?_
  refine x_putF (ws' := [(h0, .inr (4, [.ref h1, .ref h2, .ref h3, v0_3, v0_4, v0_5]))]) E iX4 tyX4 tyX4_ok nmX4 hP hD hS hnm 0 rfl rfl 2 (by decide) wq116 rfl rfl rfl rfl rfl rfl dX4_init_16 (fun H locs hP hD hS => ?_)
  refine lv_aload_n hx hb dX4_init_19 rfl (lv_at hl 0 rfl) ?_
  refine lv_aload hx hb dX4_init_20 (lv_at hl 4 rfl) ?_
  refine x_putF (ws' := [(h0, .inr (4, [.ref h1, .ref h2, .ref h3, .ref h4, v0_4, v0_5]))]) E iX4 tyX4 tyX4_ok nmX4 hP hD hS hnm 0 rfl rfl 3 (by decide) wq117 rfl rfl rfl rfl rfl rfl dX4_init_22 (fun H locs hP hD hS => ?_)
  refine lv_aload_n hx hb dX4_init_25 rfl (lv_at hl 0 rfl) ?_
  refine lv_aload hx hb dX4_init_26 (lv_at hl 5 rfl) ?_
  refine x_putF (ws' := [(h0, .inr (4, [.ref h1, .ref h2, .ref h3, .ref h4, .ref h5, v0_5]))]) E iX4 tyX4 tyX4_ok nmX4 hP hD hS hnm 0 rfl rfl 4 (by decide) wq118 rfl rfl rfl rfl rfl rfl dX4_init_28 (fun H locs hP hD hS => ?_)
  refine lv_aload_n hx hb dX4_init_31 rfl (lv_at hl 0 rfl) ?_
  refine lv_aload hx hb dX4_init_32 (lv_at hl 6 rfl) ?_
  refine x_putF (ws' := [(h0, .inr (4, [.ref h1, .ref h2, .ref h3, .ref h4, .ref h5, .ref h6]))]) E iX4 tyX4 tyX4_ok nmX4 hP hD hS hnm 0 rfl rfl 5 (by decide) wq119 rfl rfl rfl rfl rfl rfl dX4_init_34 (fun H locs hP hD hS => ?_)
  exact x_vret E hr hlk hP hD hS () [0] (by decide) rfl dX4_init_37

set_option maxHeartbeats 4000000 in
set_option maxRecDepth 100000 in
theorem mX1_init (l : Launch) (D : va_G) (cyI cyJ : ClassId) (Z : xZ) (h0 : Nat) (h1 : Nat) (h2 : Nat) (v0_0 : Value) (v0_1 : Value) (v0_2 : Value) (v0_3 : Value) (v0_4 : Value) (v0_5 : Value) : MetV l yX1_init (Cond.code yX1_init cX1_init 3 none) { frames := 1, cells := 3, slots := 1200, locals := 12 } D cyI cyJ Z [.ref h0, .ref h1, .ref h2] [(h0, .inr (1, [v0_0, v0_1, v0_2, v0_3, v0_4, v0_5]))] (fun u : ((Nat → Nat) × (Nat → Nat → Int32)) => ([(h0, .inr (1, [.ref h1, .ref h2, .ref (u.1 0), .ref (u.1 1), .ref (u.1 2), v0_5])), ((u.1 0), .inl (cyI, 400, .inl (fun _ => 0))), ((u.1 1), .inl (cyI, 400, .inl (fun _ => 0))), ((u.1 2), .inl (cyI, 400, .inl (fun _ => 0)))] : va_W)) 3 1200 := by
  refine met_v (by decide) rfl ?_
  intro p e s m below meth c A ls E hr hlk hnm hP hD hA hl
  have hS : va_S A s.heap s.heap [] := va_S.rf
  have hx := E.1.1
  have hb := E.1.2.1
  have hl : lv_has ls 3 [(0, .ref h0), (1, .ref h1), (2, .ref h2)] := hl
  refine lv_aload_n hx hb dX1_init_0 rfl (lv_at hl 0 rfl) ?_
  refine x_obj E wq126 wq1 wq2 hl.1 dX1_init_1 (Nat.le_of_ble_eq_true rfl) (Nat.le_of_ble_eq_true rfl) ?_
  refine lv_aload_n hx hb dX1_init_4 rfl (lv_at hl 0 rfl) ?_
  refine lv_sipush (v := 400) hx hb dX1_init_5 (by decide) ?_
  refine x_newI (wg := fun q1 => [(h0, .inr (1, [v0_0, v0_1, v0_2, v0_3, v0_4, v0_5])), (q1, .inl (cyI, 400, .inl (fun _ => 0)))]) E wq3 hP hD hS hA 400 (by decide) (by decide) rfl ⟨rfl, rfl⟩ ⟨Nat.le_of_ble_eq_true rfl, Nat.le_of_ble_eq_true rfl⟩ (fun _ => rfl) dX1_init_8 (fun q1 H hP hD hS => ?_)
  refine x_putF (ws' := [(h0, .inr (1, [v0_0, v0_1, .ref q1, v0_3, v0_4, v0_5])), (q1, .inl (cyI, 400, .inl (fun _ => 0)))]) E iX1 tyX1 tyX1_ok nmX1 hP hD hS hnm 0 rfl rfl 2 (by decide) wq127 rfl rfl rfl rfl rfl rfl dX1_init_10 (fun H locs hP hD hS => ?_)
  refine lv_aload_n hx hb dX1_init_13 rfl (lv_at hl 0 rfl) ?_
  refine lv_sipush (v := 400) hx hb dX1_init_14 (by decide) ?_
  refine x_newI (wg := fun q2 => [(h0, .inr (1, [v0_0, v0_1, .ref q1, v0_3, v0_4, v0_5])), (q1, .inl (cyI, 400, .inl (fun _ => 0))), (q2, .inl (cyI, 400, .inl (fun _ => 0)))]) E wq3 hP hD hS hA 400 (by decide) (by decide) rfl ⟨rfl, rfl⟩ ⟨Nat.le_of_ble_eq_true rfl, Nat.le_of_ble_eq_true rfl⟩ (fun _ => rfl) dX1_init_17 (fun q2 H hP hD hS => ?_)
  refine x_putF (ws' := [(h0, .inr (1, [v0_0, v0_1, .ref q1, .ref q2, v0_4, v0_5])), (q1, .inl (cyI, 400, .inl (fun _ => 0))), (q2, .inl (cyI, 400, .inl (fun _ => 0)))]) E iX1 tyX1 tyX1_ok nmX1 hP hD hS hnm 0 rfl rfl 3 (by decide) wq128 rfl rfl rfl rfl rfl rfl dX1_init_19 (fun H locs hP hD hS => ?_)
  refine lv_aload_n hx hb dX1_init_22 rfl (lv_at hl 0 rfl) ?_
  refine lv_sipush (v := 400) hx hb dX1_init_23 (by decide) ?_
  refine x_newI (wg := fun q3 => [(h0, .inr (1, [v0_0, v0_1, .ref q1, .ref q2, v0_4, v0_5])), (q1, .inl (cyI, 400, .inl (fun _ => 0))), (q2, .inl (cyI, 400, .inl (fun _ => 0))), (q3, .inl (cyI, 400, .inl (fun _ => 0)))]) E wq3 hP hD hS hA 400 (by decide) (by decide) rfl ⟨rfl, rfl⟩ ⟨Nat.le_of_ble_eq_true rfl, Nat.le_of_ble_eq_true rfl⟩ (fun _ => rfl) dX1_init_26 (fun q3 H hP hD hS => ?_)
  refine x_putF (ws' := [(h0, .inr (1, [v0_0, v0_1, .ref q1, .ref q2, .ref q3, v0_5])), (q1, .inl (cyI, 400, .inl (fun _ => 0))), (q2, .inl (cyI, 400, .inl (fun _ => 0))), (q3, .inl (cyI, 400, .inl (fun _ => 0)))]) E iX1 tyX1 tyX1_ok nmX1 hP hD hS hnm 0 rfl rfl 4 (by decide) wq129 rfl rfl rfl rfl rfl rfl dX1_init_28 (fun H locs hP hD hS => ?_)
  refine lv_aload_n hx hb dX1_init_31 rfl (lv_at hl 0 rfl) ?_
  refine lv_aload_n hx hb dX1_init_32 rfl (lv_at hl 1 rfl) ?_
  refine x_putF (ws' := [(h0, .inr (1, [.ref h1, v0_1, .ref q1, .ref q2, .ref q3, v0_5])), (q1, .inl (cyI, 400, .inl (fun _ => 0))), (q2, .inl (cyI, 400, .inl (fun _ => 0))), (q3, .inl (cyI, 400, .inl (fun _ => 0)))]) E iX1 tyX1 tyX1_ok nmX1 hP hD hS hnm 0 rfl rfl 0 (by decide) wq130 rfl rfl rfl rfl rfl rfl dX1_init_33 (fun H locs hP hD hS => ?_)
  refine lv_aload_n hx hb dX1_init_36 rfl (lv_at hl 0 rfl) ?_
  refine lv_aload_n hx hb dX1_init_37 rfl (lv_at hl 2 rfl) ?_
  refine x_putF (ws' := [(h0, .inr (1, [.ref h1, .ref h2, .ref q1, .ref q2, .ref q3, v0_5])), (q1, .inl (cyI, 400, .inl (fun _ => 0))), (q2, .inl (cyI, 400, .inl (fun _ => 0))), (q3, .inl (cyI, 400, .inl (fun _ => 0)))]) E iX1 tyX1 tyX1_ok nmX1 hP hD hS hnm 0 rfl rfl 1 (by decide) wq131 rfl rfl rfl rfl rfl rfl dX1_init_38 (fun H locs hP hD hS => ?_)
  exact x_vret E hr hlk hP hD hS (fun k => [q1, q2, q3].getD k 0, fun k => [].getD k (fun _ => 0)) [0, 1, 2, 3] (by decide) rfl dX1_init_41

set_option maxHeartbeats 4000000 in
set_option maxRecDepth 100000 in
theorem mX2_init (l : Launch) (D : va_G) (cyI cyJ : ClassId) (Z : xZ) (h0 : Nat) (h1 : Nat) (h2 : Nat) (h3 : Nat) (h4 : Nat) (h5 : Nat) (v0_0 : Value) (v0_1 : Value) (v0_2 : Value) (v0_3 : Value) (v0_4 : Value) (v0_5 : Value) (v0_6 : Value) (v0_7 : Value) (v0_8 : Value) (v0_9 : Value) (v0_10 : Value) (v0_11 : Value) : MetV l yX2_init (Cond.code yX2_init cX2_init 6 none) { frames := 1, cells := 5, slots := 266, locals := 12 } D cyI cyJ Z [.ref h0, .ref h1, .ref h2, .ref h3, .ref h4, .ref h5] [(h0, .inr (2, [v0_0, v0_1, v0_2, v0_3, v0_4, v0_5, v0_6, v0_7, v0_8, v0_9, v0_10, v0_11]))] (fun u : ((Nat → Nat) × (Nat → Nat → Int32)) => ([(h0, .inr (2, [.ref h1, .ref h2, .ref h3, .ref h4, .ref h5, .ref (u.1 0), .ref (u.1 1), .ref (u.1 2), .ref (u.1 3), v0_9, v0_10, .ref (u.1 4)])), ((u.1 0), .inl (cyI, 64, .inl (fun _ => 0))), ((u.1 1), .inl (cyI, 64, .inl (fun _ => 0))), ((u.1 2), .inl (cyI, 64, .inl (fun _ => 0))), ((u.1 3), .inl (cyI, 64, .inl (fun _ => 0))), ((u.1 4), .inl (cyI, 10, .inl (fun _ => 0)))] : va_W)) 5 266 := by
  refine met_v (by decide) rfl ?_
  intro p e s m below meth c A ls E hr hlk hnm hP hD hA hl
  have hS : va_S A s.heap s.heap [] := va_S.rf
  have hx := E.1.1
  have hb := E.1.2.1
  have hl : lv_has ls 6 [(0, .ref h0), (1, .ref h1), (2, .ref h2), (3, .ref h3), (4, .ref h4), (5, .ref h5)] := hl
  refine lv_aload_n hx hb dX2_init_0 rfl (lv_at hl 0 rfl) ?_
  refine x_obj E wq138 wq1 wq2 hl.1 dX2_init_1 (Nat.le_of_ble_eq_true rfl) (Nat.le_of_ble_eq_true rfl) ?_
  refine lv_aload_n hx hb dX2_init_4 rfl (lv_at hl 0 rfl) ?_
  refine lv_bipush (v := 64) hx hb dX2_init_5 (by decide) ?_
  refine x_newI (wg := fun q1 => [(h0, .inr (2, [v0_0, v0_1, v0_2, v0_3, v0_4, v0_5, v0_6, v0_7, v0_8, v0_9, v0_10, v0_11])), (q1, .inl (cyI, 64, .inl (fun _ => 0)))]) E wq3 hP hD hS hA 64 (by decide) (by decide) rfl ⟨rfl, rfl⟩ ⟨Nat.le_of_ble_eq_true rfl, Nat.le_of_ble_eq_true rfl⟩ (fun _ => rfl) dX2_init_7 (fun q1 H hP hD hS => ?_)
  refine x_put (ws' := [(h0, .inr (2, [v0_0, v0_1, v0_2, v0_3, v0_4, .ref q1, v0_6, v0_7, v0_8, v0_9, v0_10, v0_11])), (q1, .inl (cyI, 64, .inl (fun _ => 0)))]) E iX2 tyX2 tyX2_ok nmX2 hP hD hS 0 rfl rfl 5 (by decide) wq139 rfl rfl rfl rfl rfl dX2_init_9 (fun H locs hP hD hS => ?_)
  refine lv_aload_n hx hb dX2_init_12 rfl (lv_at hl 0 rfl) ?_
  refine lv_bipush (v := 64) hx hb dX2_init_13 (by decide) ?_
  refine x_newI (wg := fun q2 => [(h0, .inr (2, [v0_0, v0_1, v0_2, v0_3, v0_4, .ref q1, v0_6, v0_7, v0_8, v0_9, v0_10, v0_11])), (q1, .inl (cyI, 64, .inl (fun _ => 0))), (q2, .inl (cyI, 64, .inl (fun _ => 0)))]) E wq3 hP hD hS hA 64 (by decide) (by decide) rfl ⟨rfl, rfl⟩ ⟨Nat.le_of_ble_eq_true rfl, Nat.le_of_ble_eq_true rfl⟩ (fun _ => rfl) dX2_init_15 (fun q2 H hP hD hS => ?_)
  refine x_put (ws' := [(h0, .inr (2, [v0_0, v0_1, v0_2, v0_3, v0_4, .ref q1, .ref q2, v0_7, v0_8, v0_9, v0_10, v0_11])), (q1, .inl (cyI, 64, .inl (fun _ => 0))), (q2, .inl (cyI, 64, .inl (fun _ => 0)))]) E iX2 tyX2 tyX2_ok nmX2 hP hD hS 0 rfl rfl 6 (by decide) wq140 rfl rfl rfl rfl rfl dX2_init_17 (fun H locs hP hD hS => ?_)
  refine lv_aload_n hx hb dX2_init_20 rfl (lv_at hl 0 rfl) ?_
  refine lv_bipush (v := 64) hx hb dX2_init_21 (by decide) ?_
  refine x_newI (wg := fun q3 => [(h0, .inr (2, [v0_0, v0_1, v0_2, v0_3, v0_4, .ref q1, .ref q2, v0_7, v0_8, v0_9, v0_10, v0_11])), (q1, .inl (cyI, 64, .inl (fun _ => 0))), (q2, .inl (cyI, 64, .inl (fun _ => 0))), (q3, .inl (cyI, 64, .inl (fun _ => 0)))]) E wq3 hP hD hS hA 64 (by decide) (by decide) rfl ⟨rfl, rfl⟩ ⟨Nat.le_of_ble_eq_true rfl, Nat.le_of_ble_eq_true rfl⟩ (fun _ => rfl) dX2_init_23 (fun q3 H hP hD hS => ?_)
  refine x_put (ws' := [(h0, .inr (2, [v0_0, v0_1, v0_2, v0_3, v0_4, .ref q1, .ref q2, .ref q3, v0_8, v0_9, v0_10, v0_11])), (q1, .inl (cyI, 64, .inl (fun _ => 0))), (q2, .inl (cyI, 64, .inl (fun _ => 0))), (q3, .inl (cyI, 64, .inl (fun _ => 0)))]) E iX2 tyX2 tyX2_ok nmX2 hP hD hS 0 rfl rfl 7 (by decide) wq141 rfl rfl rfl rfl rfl dX2_init_25 (fun H locs hP hD hS => ?_)
  refine lv_aload_n hx hb dX2_init_28 rfl (lv_at hl 0 rfl) ?_
  refine lv_bipush (v := 64) hx hb dX2_init_29 (by decide) ?_
  refine x_newI (wg := fun q4 => [(h0, .inr (2, [v0_0, v0_1, v0_2, v0_3, v0_4, .ref q1, .ref q2, .ref q3, v0_8, v0_9, v0_10, v0_11])), (q1, .inl (cyI, 64, .inl (fun _ => 0))), (q2, .inl (cyI, 64, .inl (fun _ => 0))), (q3, .inl (cyI, 64, .inl (fun _ => 0))), (q4, .inl (cyI, 64, .inl (fun _ => 0)))]) E wq3 hP hD hS hA 64 (by decide) (by decide) rfl ⟨rfl, rfl⟩ ⟨Nat.le_of_ble_eq_true rfl, Nat.le_of_ble_eq_true rfl⟩ (fun _ => rfl) dX2_init_31 (fun q4 H hP hD hS => ?_)
  refine x_put (ws' := [(h0, .inr (2, [v0_0, v0_1, v0_2, v0_3, v0_4, .ref q1, .ref q2, .ref q3, .ref q4, v0_9, v0_10, v0_11])), (q1, .inl (cyI, 64, .inl (fun _ => 0))), (q2, .inl (cyI, 64, .inl (fun _ => 0))), (q3, .inl (cyI, 64, .inl (fun _ => 0))), (q4, .inl (cyI, 64, .inl (fun _ => 0)))]) E iX2 tyX2 tyX2_ok nmX2 hP hD hS 0 rfl rfl 8 (by decide) wq142 rfl rfl rfl rfl rfl dX2_init_33 (fun H locs hP hD hS => ?_)
  refine lv_aload_n hx hb dX2_init_36 rfl (lv_at hl 0 rfl) ?_
  refine lv_bipush (v := 10) hx hb dX2_init_37 (by decide) ?_
  refine x_newI (wg := fun q5 => [(h0, .inr (2, [v0_0, v0_1, v0_2, v0_3, v0_4, .ref q1, .ref q2, .ref q3, .ref q4, v0_9, v0_10, v0_11])), (q1, .inl (cyI, 64, .inl (fun _ => 0))), (q2, .inl (cyI, 64, .inl (fun _ => 0))), (q3, .inl (cyI, 64, .inl (fun _ => 0))), (q4, .inl (cyI, 64, .inl (fun _ => 0))), (q5, .inl (cyI, 10, .inl (fun _ => 0)))]) E wq3 hP hD hS hA 10 (by decide) (by decide) rfl ⟨rfl, rfl⟩ ⟨Nat.le_of_ble_eq_true rfl, Nat.le_of_ble_eq_true rfl⟩ (fun _ => rfl) dX2_init_39 (fun q5 H hP hD hS => ?_)
  refine x_putF (ws' := [(h0, .inr (2, [v0_0, v0_1, v0_2, v0_3, v0_4, .ref q1, .ref q2, .ref q3, .ref q4, v0_9, v0_10, .ref q5])), (q1, .inl (cyI, 64, .inl (fun _ => 0))), (q2, .inl (cyI, 64, .inl (fun _ => 0))), (q3, .inl (cyI, 64, .inl (fun _ => 0))), (q4, .inl (cyI, 64, .inl (fun _ => 0))), (q5, .inl (cyI, 10, .inl (fun _ => 0)))]) E iX2 tyX2 tyX2_ok nmX2 hP hD hS hnm 0 rfl rfl 11 (by decide) wq143 rfl rfl rfl rfl rfl rfl dX2_init_41 (fun H locs hP hD hS => ?_)
  refine lv_aload_n hx hb dX2_init_44 rfl (lv_at hl 0 rfl) ?_
  refine lv_aload_n hx hb dX2_init_45 rfl (lv_at hl 1 rfl) ?_
  refine x_putF (ws' := [(h0, .inr (2, [.ref h1, v0_1, v0_2, v0_3, v0_4, .ref q1, .ref q2, .ref q3, .ref q4, v0_9, v0_10, .ref q5])), (q1, .inl (cyI, 64, .inl (fun _ => 0))), (q2, .inl (cyI, 64, .inl (fun _ => 0))), (q3, .inl (cyI, 64, .inl (fun _ => 0))), (q4, .inl (cyI, 64, .inl (fun _ => 0))), (q5, .inl (cyI, 10, .inl (fun _ => 0)))]) E iX2 tyX2 tyX2_ok nmX2 hP hD hS hnm 0 rfl rfl 0 (by decide) wq144 rfl rfl rfl rfl rfl rfl dX2_init_46 (fun H locs hP hD hS => ?_)
  refine lv_aload_n hx hb dX2_init_49 rfl (lv_at hl 0 rfl) ?_
  refine lv_aload_n hx hb dX2_init_50 rfl (lv_at hl 2 rfl) ?_
  refine x_putF (ws' := [(h0, .inr (2, [.ref h1, .ref h2, v0_2, v0_3, v0_4, .ref q1, .ref q2, .ref q3, .ref q4, v0_9, v0_10, .ref q5])), (q1, .inl (cyI, 64, .inl (fun _ => 0))), (q2, .inl (cyI, 64, .inl (fun _ => 0))), (q3, .inl (cyI, 64, .inl (fun _ => 0))), (q4, .inl (cyI, 64, .inl (fun _ => 0))), (q5, .inl (cyI, 10, .inl (fun _ => 0)))]) E iX2 tyX2 tyX2_ok nmX2 hP hD hS hnm 0 rfl rfl 1 (by decide) wq145 rfl rfl rfl rfl rfl rfl dX2_init_51 (fun H locs hP hD hS => ?_)
  refine lv_aload_n hx hb dX2_init_54 rfl (lv_at hl 0 rfl) ?_
  refine lv_aload_n hx hb dX2_init_55 rfl (lv_at hl 3 rfl) ?_
  refine x_putF (ws' := [(h0, .inr (2, [.ref h1, .ref h2, .ref h3, v0_3, v0_4, .ref q1, .ref q2, .ref q3, .ref q4, v0_9, v0_10, .ref q5])), (q1, .inl (cyI, 64, .inl (fun _ => 0))), (q2, .inl (cyI, 64, .inl (fun _ => 0))), (q3, .inl (cyI, 64, .inl (fun _ => 0))), (q4, .inl (cyI, 64, .inl (fun _ => 0))), (q5, .inl (cyI, 10, .inl (fun _ => 0)))]) E iX2 tyX2 tyX2_ok nmX2 hP hD hS hnm 0 rfl rfl 2 (by decide) wq146 rfl rfl rfl rfl rfl rfl dX2_init_56 (fun H locs hP hD hS => ?_)
  refine lv_aload_n hx hb dX2_init_59 rfl (lv_at hl 0 rfl) ?_
  refine lv_aload hx hb dX2_init_60 (lv_at hl 4 rfl) ?_
  refine x_putF (ws' := [(h0, .inr (2, [.ref h1, .ref h2, .ref h3, .ref h4, v0_4, .ref q1, .ref q2, .ref q3, .ref q4, v0_9, v0_10, .ref q5])), (q1, .inl (cyI, 64, .inl (fun _ => 0))), (q2, .inl (cyI, 64, .inl (fun _ => 0))), (q3, .inl (cyI, 64, .inl (fun _ => 0))), (q4, .inl (cyI, 64, .inl (fun _ => 0))), (q5, .inl (cyI, 10, .inl (fun _ => 0)))]) E iX2 tyX2 tyX2_ok nmX2 hP hD hS hnm 0 rfl rfl 3 (by decide) wq147 rfl rfl rfl rfl rfl rfl dX2_init_62 (fun H locs hP hD hS => ?_)
  refine lv_aload_n hx hb dX2_init_65 rfl (lv_at hl 0 rfl) ?_
  refine lv_aload hx hb dX2_init_66 (lv_at hl 5 rfl) ?_
  refine x_putF (ws' := [(h0, .inr (2, [.ref h1, .ref h2, .ref h3, .ref h4, .ref h5, .ref q1, .ref q2, .ref q3, .ref q4, v0_9, v0_10, .ref q5])), (q1, .inl (cyI, 64, .inl (fun _ => 0))), (q2, .inl (cyI, 64, .inl (fun _ => 0))), (q3, .inl (cyI, 64, .inl (fun _ => 0))), (q4, .inl (cyI, 64, .inl (fun _ => 0))), (q5, .inl (cyI, 10, .inl (fun _ => 0)))]) E iX2 tyX2 tyX2_ok nmX2 hP hD hS hnm 0 rfl rfl 4 (by decide) wq148 rfl rfl rfl rfl rfl rfl dX2_init_68 (fun H locs hP hD hS => ?_)
  exact x_vret E hr hlk hP hD hS (fun k => [q1, q2, q3, q4, q5].getD k 0, fun k => [].getD k (fun _ => 0)) [0, 1, 2, 3, 4, 5] (by decide) rfl dX2_init_71

set_option maxHeartbeats 4000000 in
set_option maxRecDepth 100000 in
theorem mX10_init (l : Launch) (D : va_G) (cyI cyJ : ClassId) (Z : xZ) (h0 : Nat) (h1 : Nat) (h2 : Nat) (v0_0 : Value) (v0_1 : Value) (v0_2 : Value) (v0_3 : Value) : MetV l yX10_init (Cond.code yX10_init cX10_init 3 none) { frames := 1, cells := 1, slots := 4608, locals := 12 } D cyI cyJ Z [.ref h0, .ref h1, .ref h2] [(h0, .inr (10, [v0_0, v0_1, v0_2, v0_3]))] (fun u : ((Nat → Nat) × (Nat → Nat → Int32)) => ([(h0, .inr (10, [.ref h1, .ref h2, .ref (u.1 0), v0_3])), ((u.1 0), .inl (cyI, 4608, .inl (fun _ => 0)))] : va_W)) 1 4608 := by
  refine met_v (by decide) rfl ?_
  intro p e s m below meth c A ls E hr hlk hnm hP hD hA hl
  have hS : va_S A s.heap s.heap [] := va_S.rf
  have hx := E.1.1
  have hb := E.1.2.1
  have hl : lv_has ls 3 [(0, .ref h0), (1, .ref h1), (2, .ref h2)] := hl
  refine lv_aload_n hx hb dX10_init_0 rfl (lv_at hl 0 rfl) ?_
  refine x_obj E wq155 wq1 wq2 hl.1 dX10_init_1 (Nat.le_of_ble_eq_true rfl) (Nat.le_of_ble_eq_true rfl) ?_
  refine lv_aload_n hx hb dX10_init_4 rfl (lv_at hl 0 rfl) ?_
  refine lv_sipush (v := 4608) hx hb dX10_init_5 (by decide) ?_
  refine x_newI (wg := fun q1 => [(h0, .inr (10, [v0_0, v0_1, v0_2, v0_3])), (q1, .inl (cyI, 4608, .inl (fun _ => 0)))]) E wq3 hP hD hS hA 4608 (by decide) (by decide) rfl ⟨rfl, rfl⟩ ⟨Nat.le_of_ble_eq_true rfl, Nat.le_of_ble_eq_true rfl⟩ (fun _ => rfl) dX10_init_8 (fun q1 H hP hD hS => ?_)
  refine x_putF (ws' := [(h0, .inr (10, [v0_0, v0_1, .ref q1, v0_3])), (q1, .inl (cyI, 4608, .inl (fun _ => 0)))]) E iX10 tyX10 tyX10_ok nmX10 hP hD hS hnm 0 rfl rfl 2 (by decide) wq156 rfl rfl rfl rfl rfl rfl dX10_init_10 (fun H locs hP hD hS => ?_)
  refine lv_aload_n hx hb dX10_init_13 rfl (lv_at hl 0 rfl) ?_
  refine lv_aload_n hx hb dX10_init_14 rfl (lv_at hl 1 rfl) ?_
  refine x_putF (ws' := [(h0, .inr (10, [.ref h1, v0_1, .ref q1, v0_3])), (q1, .inl (cyI, 4608, .inl (fun _ => 0)))]) E iX10 tyX10 tyX10_ok nmX10 hP hD hS hnm 0 rfl rfl 0 (by decide) wq157 rfl rfl rfl rfl rfl rfl dX10_init_15 (fun H locs hP hD hS => ?_)
  refine lv_aload_n hx hb dX10_init_18 rfl (lv_at hl 0 rfl) ?_
  refine lv_aload_n hx hb dX10_init_19 rfl (lv_at hl 2 rfl) ?_
  refine x_putF (ws' := [(h0, .inr (10, [.ref h1, .ref h2, .ref q1, v0_3])), (q1, .inl (cyI, 4608, .inl (fun _ => 0)))]) E iX10 tyX10 tyX10_ok nmX10 hP hD hS hnm 0 rfl rfl 1 (by decide) wq158 rfl rfl rfl rfl rfl rfl dX10_init_20 (fun H locs hP hD hS => ?_)
  exact x_vret E hr hlk hP hD hS (fun k => [q1].getD k 0, fun k => [].getD k (fun _ => 0)) [0, 1] (by decide) rfl dX10_init_23

set_option maxHeartbeats 4000000 in
set_option maxRecDepth 100000 in
theorem mX11_init (l : Launch) (D : va_G) (cyI cyJ : ClassId) (Z : xZ) (h0 : Nat) (v0_0 : Value) (v0_1 : Value) (v0_2 : Value) (v0_3 : Value) (v0_4 : Value) (v0_5 : Value) (v0_6 : Value) (v0_7 : Value) (v0_8 : Value) (v0_9 : Value) (v0_10 : Value) (v0_11 : Value) (v0_12 : Value) (v0_13 : Value) (v0_14 : Value) (v0_15 : Value) : MetV l yX11_init (Cond.code yX11_init cX11_init 1 none) { frames := 10, cells := 51, slots := 14626, locals := 426 } D cyI cyJ Z [.ref h0] [(h0, .inr (11, [v0_0, v0_1, v0_2, v0_3, v0_4, v0_5, v0_6, v0_7, v0_8, v0_9, v0_10, v0_11, v0_12, v0_13, v0_14, v0_15]))] (fun u : ((Nat → Nat) × (Nat → Nat → Int32)) => ([(h0, .inr (11, [.ref (u.1 0), v0_1, v0_2, v0_3, v0_4, .ref (u.1 1), .ref (u.1 14), .ref (u.1 15), .ref (u.1 24), .ref (u.1 25), .ref (u.1 29), .ref (u.1 34), .ref (u.1 38), .ref (u.1 39), .ref (u.1 43), .ref (u.1 49)])), ((u.1 0), .inl (cyI, 400, .inl (fun _ => 0))), ((u.1 1), .inr (0, [.ref (u.1 2), .ref (u.1 3), .ref (u.1 4), .ref (u.1 5), .ref (u.1 6), .ref (u.1 7), .ref (u.1 8), .ref (u.1 9), .ref (u.1 10), .ref (u.1 11), .ref (u.1 12), .ref (u.1 13), .int 3, .int 3])), ((u.1 2), .inl (cyI, 512, .inl (u.2 0))), ((u.1 3), .inl (cyI, 512, .inl (u.2 1))), ((u.1 4), .inl (cyI, 512, .inl (u.2 2))), ((u.1 5), .inl (cyI, 512, .inl (u.2 3))), ((u.1 6), .inl (cyI, 512, .inl (u.2 4))), ((u.1 7), .inl (cyI, 512, .inl (u.2 5))), ((u.1 8), .inl (cyI, 512, .inl (u.2 6))), ((u.1 9), .inl (cyI, 512, .inl (u.2 7))), ((u.1 10), .inl (cyI, 512, .inl (u.2 8))), ((u.1 11), .inl (cyI, 512, .inl (u.2 9))), ((u.1 12), .inl (cyI, 512, .inl (fun _ => 0))), ((u.1 13), .inl (cyI, 512, .inl (u.2 10))), ((u.1 14), .inr (7, [.ref (u.1 1)])), ((u.1 15), .inr (9, [.ref (u.1 1), .ref (u.1 16), .ref (u.1 17), .ref (u.1 18), .ref (u.1 19), .ref (u.1 20), .ref (u.1 21), .ref (u.1 22), .ref (u.1 23), .int 0, .int 0, .int 0, .int 0, .int 0, .int 0])), ((u.1 16), .inl (cyI, 10, .inl (fun _ => 0))), ((u.1 17), .inl (cyI, 10, .inl (fun _ => 0))), ((u.1 18), .inl (cyI, 10, .inl (fun _ => 0))), ((u.1 19), .inl (cyI, 10, .inl (fun _ => 0))), ((u.1 20), .inl (cyI, 10, .inl (fun _ => 0))), ((u.1 21), .inl (cyI, 60, .inl (fun _ => 0))), ((u.1 22), .inl (cyI, 60, .inl (fun _ => 0))), ((u.1 23), .inl (cyI, 60, .inl (fun _ => 0))), ((u.1 24), .inr (5, [.ref (u.1 1), .ref (u.1 14), .ref (u.1 15)])), ((u.1 25), .inr (3, [.ref (u.1 1), .ref (u.1 14), .ref (u.1 24), .ref (u.1 26), .ref (u.1 27), .int 0, .ref (u.1 28), .int 0])), ((u.1 26), .inl (cyI, 10, .inl (fun _ => 0))), ((u.1 27), .inl (cyI, 10, .inl (fun _ => 0))), ((u.1 28), .inl (cyI, 16, .inl (fun _ => 0))), ((u.1 29), .inr (8, [.ref (u.1 0), .ref (u.1 30), .ref (u.1 31), .ref (u.1 32), .ref (u.1 33), .int 0, .int 0, .int 0, .int 0, .int 0, .int 0, .int 0])), ((u.1 30), .inl (cyI, 25, .inl (u.2 11))), ((u.1 31), .inl (cyI, 401, .inl (fun _ => 0))), ((u.1 32), .inl (cyI, 401, .inl (fun _ => 0))), ((u.1 33), .inl (cyI, 401, .inl (fun _ => 0))), ((u.1 34), .inr (6, [.ref (u.1 29), .ref (u.1 1), .ref (u.1 14), .ref (u.1 15), .ref (u.1 35), .ref (u.1 36), .int 0, .ref (u.1 37), .int 0])), ((u.1 35), .inl (cyI, 12, .inl (fun _ => 0))), ((u.1 36), .inl (cyI, 12, .inl (fun _ => 0))), ((u.1 37), .inl (cyI, 400, .inl (fun _ => 0))), ((u.1 38), .inr (4, [.ref (u.1 29), .ref (u.1 34), .ref (u.1 1), .ref (u.1 14), .ref (u.1 15), .ref (u.1 25)])), ((u.1 39), .inr (1, [.ref (u.1 29), .ref (u.1 15), .ref (u.1 40), .ref (u.1 41), .ref (u.1 42), .int 0])), ((u.1 40), .inl (cyI, 400, .inl (fun _ => 0))), ((u.1 41), .inl (cyI, 400, .inl (fun _ => 0))), ((u.1 42), .inl (cyI, 400, .inl (fun _ => 0))), ((u.1 43), .inr (2, [.ref (u.1 1), .ref (u.1 14), .ref (u.1 15), .ref (u.1 25), .ref (u.1 39), .ref (u.1 44), .ref (u.1 45), .ref (u.1 46), .ref (u.1 47), .int 0, .int 0, .ref (u.1 48)])), ((u.1 44), .inl (cyI, 64, .inl (fun _ => 0))), ((u.1 45), .inl (cyI, 64, .inl (fun _ => 0))), ((u.1 46), .inl (cyI, 64, .inl (fun _ => 0))), ((u.1 47), .inl (cyI, 64, .inl (fun _ => 0))), ((u.1 48), .inl (cyI, 10, .inl (fun _ => 0))), ((u.1 49), .inr (10, [.ref (u.1 1), .ref (u.1 15), .ref (u.1 50), .int 0])), ((u.1 50), .inl (cyI, 4608, .inl (fun _ => 0)))] : va_W)) 51 14626 := by
  refine met_v (by decide) rfl ?_
  intro p e s m below meth c A ls E hr hlk hnm hP hD hA hl
  have hS : va_S A s.heap s.heap [] := va_S.rf
  have hx := E.1.1
  have hb := E.1.2.1
  have hl : lv_has ls 1 [(0, .ref h0)] := hl
  refine lv_aload_n hx hb dX11_init_0 rfl (lv_at hl 0 rfl) ?_
  refine x_obj E wq0 wq1 wq2 hl.1 dX11_init_1 (Nat.le_of_ble_eq_true rfl) (Nat.le_of_ble_eq_true rfl) ?_
  refine lv_aload_n hx hb dX11_init_4 rfl (lv_at hl 0 rfl) ?_
  refine lv_sipush (v := 400) hx hb dX11_init_5 (by decide) ?_
  refine x_newI (wg := fun q1 => [(h0, .inr (11, [v0_0, v0_1, v0_2, v0_3, v0_4, v0_5, v0_6, v0_7, v0_8, v0_9, v0_10, v0_11, v0_12, v0_13, v0_14, v0_15])), (q1, .inl (cyI, 400, .inl (fun _ => 0)))]) E wq3 hP hD hS hA 400 (by decide) (by decide) rfl ⟨rfl, rfl⟩ ⟨Nat.le_of_ble_eq_true rfl, Nat.le_of_ble_eq_true rfl⟩ (fun _ => rfl) dX11_init_8 (fun q1 H hP hD hS => ?_)
  refine x_putF (ws' := [(h0, .inr (11, [.ref q1, v0_1, v0_2, v0_3, v0_4, v0_5, v0_6, v0_7, v0_8, v0_9, v0_10, v0_11, v0_12, v0_13, v0_14, v0_15])), (q1, .inl (cyI, 400, .inl (fun _ => 0)))]) E iX11 tyX11 tyX11_ok nmX11 hP hD hS hnm 0 rfl rfl 0 (by decide) wq4 rfl rfl rfl rfl rfl rfl dX11_init_10 (fun H locs hP hD hS => ?_)
  refine lv_aload_n hx hb dX11_init_13 rfl (lv_at hl 0 rfl) ?_
  refine x_new (wg := fun q2 => [(h0, .inr (11, [.ref q1, v0_1, v0_2, v0_3, v0_4, v0_5, v0_6, v0_7, v0_8, v0_9, v0_10, v0_11, v0_12, v0_13, v0_14, v0_15])), (q1, .inl (cyI, 400, .inl (fun _ => 0))), (q2, .inr (0, [.null, .null, .null, .null, .null, .null, .null, .null, .null, .null, .null, .null, .int 0, .int 0]))]) E iX0 tyX0 tyX0_ok wq5 wq6 wq7 hP hD hS hA rfl [.null, .null, .null, .null, .null, .null, .null, .null, .null, .null, .null, .null, .int 0, .int 0] (by decide +kernel) ⟨rfl, rfl⟩ ⟨Nat.le_of_ble_eq_true rfl, Nat.le_of_ble_eq_true rfl⟩ (fun _ => rfl) dX11_init_14 (fun q2 H hP hD hS => ?_)
  refine lv_dup hx hb dX11_init_17 rfl ?_
  refine x_Iv (rest := [.ref q2, .ref h0]) (ws' := fun u3 => [(h0, .inr (11, [.ref q1, v0_1, v0_2, v0_3, v0_4, v0_5, v0_6, v0_7, v0_8, v0_9, v0_10, v0_11, v0_12, v0_13, v0_14, v0_15])), (q1, .inl (cyI, 400, .inl (fun _ => 0))), (q2, .inr (0, [.ref (u3.1 0), .ref (u3.1 1), .ref (u3.1 2), .ref (u3.1 3), .ref (u3.1 4), .ref (u3.1 5), .ref (u3.1 6), .ref (u3.1 7), .ref (u3.1 8), .ref (u3.1 9), .ref (u3.1 10), .ref (u3.1 11), .int 3, .int 3])), ((u3.1 0), .inl (cyI, 512, .inl (u3.2 0))), ((u3.1 1), .inl (cyI, 512, .inl (u3.2 1))), ((u3.1 2), .inl (cyI, 512, .inl (u3.2 2))), ((u3.1 3), .inl (cyI, 512, .inl (u3.2 3))), ((u3.1 4), .inl (cyI, 512, .inl (u3.2 4))), ((u3.1 5), .inl (cyI, 512, .inl (u3.2 5))), ((u3.1 6), .inl (cyI, 512, .inl (u3.2 6))), ((u3.1 7), .inl (cyI, 512, .inl (u3.2 7))), ((u3.1 8), .inl (cyI, 512, .inl (u3.2 8))), ((u3.1 9), .inl (cyI, 512, .inl (u3.2 9))), ((u3.1 10), .inl (cyI, 512, .inl (fun _ => 0))), ((u3.1 11), .inl (cyI, 512, .inl (u3.2 10)))]) (wr := [(h0, .inr (11, [.ref q1, v0_1, v0_2, v0_3, v0_4, v0_5, v0_6, v0_7, v0_8, v0_9, v0_10, v0_11, v0_12, v0_13, v0_14, v0_15])), (q1, .inl (cyI, 400, .inl (fun _ => 0)))]) E (mX0_init l D cyI cyJ Z q2 (.null) (.null) (.null) (.null) (.null) (.null) (.null) (.null) (.null) (.null) (.null) (.null) (.int 0)) kX0_init wq34 wq35 rfl ⟨rfl, rfl, Nat.le_of_ble_eq_true rfl, Nat.le_of_ble_eq_true rfl⟩ hP hD hS hA [2] [0, 1] rfl rfl (by decide) (fun _ => rfl) hl.1 rfl (Nat.le_of_ble_eq_true rfl) dX11_init_18 ⟨rfl, rfl⟩ ⟨Nat.le_of_ble_eq_true rfl, Nat.le_of_ble_eq_true rfl⟩ (fun u3 H locs hP hD hS => ?_)
  refine x_putF (ws' := [(h0, .inr (11, [.ref q1, v0_1, v0_2, v0_3, v0_4, .ref q2, v0_6, v0_7, v0_8, v0_9, v0_10, v0_11, v0_12, v0_13, v0_14, v0_15])), (q1, .inl (cyI, 400, .inl (fun _ => 0))), (q2, .inr (0, [.ref (u3.1 0), .ref (u3.1 1), .ref (u3.1 2), .ref (u3.1 3), .ref (u3.1 4), .ref (u3.1 5), .ref (u3.1 6), .ref (u3.1 7), .ref (u3.1 8), .ref (u3.1 9), .ref (u3.1 10), .ref (u3.1 11), .int 3, .int 3])), ((u3.1 0), .inl (cyI, 512, .inl (u3.2 0))), ((u3.1 1), .inl (cyI, 512, .inl (u3.2 1))), ((u3.1 2), .inl (cyI, 512, .inl (u3.2 2))), ((u3.1 3), .inl (cyI, 512, .inl (u3.2 3))), ((u3.1 4), .inl (cyI, 512, .inl (u3.2 4))), ((u3.1 5), .inl (cyI, 512, .inl (u3.2 5))), ((u3.1 6), .inl (cyI, 512, .inl (u3.2 6))), ((u3.1 7), .inl (cyI, 512, .inl (u3.2 7))), ((u3.1 8), .inl (cyI, 512, .inl (u3.2 8))), ((u3.1 9), .inl (cyI, 512, .inl (u3.2 9))), ((u3.1 10), .inl (cyI, 512, .inl (fun _ => 0))), ((u3.1 11), .inl (cyI, 512, .inl (u3.2 10)))]) E iX11 tyX11 tyX11_ok nmX11 hP hD hS hnm 0 rfl rfl 5 (by decide) wq36 rfl rfl rfl rfl rfl rfl dX11_init_21 (fun H locs hP hD hS => ?_)
  refine lv_aload_n hx hb dX11_init_24 rfl (lv_at hl 0 rfl) ?_
  refine x_new (wg := fun q4 => [(h0, .inr (11, [.ref q1, v0_1, v0_2, v0_3, v0_4, .ref q2, v0_6, v0_7, v0_8, v0_9, v0_10, v0_11, v0_12, v0_13, v0_14, v0_15])), (q1, .inl (cyI, 400, .inl (fun _ => 0))), (q2, .inr (0, [.ref (u3.1 0), .ref (u3.1 1), .ref (u3.1 2), .ref (u3.1 3), .ref (u3.1 4), .ref (u3.1 5), .ref (u3.1 6), .ref (u3.1 7), .ref (u3.1 8), .ref (u3.1 9), .ref (u3.1 10), .ref (u3.1 11), .int 3, .int 3])), ((u3.1 0), .inl (cyI, 512, .inl (u3.2 0))), ((u3.1 1), .inl (cyI, 512, .inl (u3.2 1))), ((u3.1 2), .inl (cyI, 512, .inl (u3.2 2))), ((u3.1 3), .inl (cyI, 512, .inl (u3.2 3))), ((u3.1 4), .inl (cyI, 512, .inl (u3.2 4))), ((u3.1 5), .inl (cyI, 512, .inl (u3.2 5))), ((u3.1 6), .inl (cyI, 512, .inl (u3.2 6))), ((u3.1 7), .inl (cyI, 512, .inl (u3.2 7))), ((u3.1 8), .inl (cyI, 512, .inl (u3.2 8))), ((u3.1 9), .inl (cyI, 512, .inl (u3.2 9))), ((u3.1 10), .inl (cyI, 512, .inl (fun _ => 0))), ((u3.1 11), .inl (cyI, 512, .inl (u3.2 10))), (q4, .inr (7, [.null]))]) E iX7 tyX7 tyX7_ok wq37 wq38 wq39 hP hD hS hA rfl [.null] (by decide +kernel) ⟨rfl, rfl⟩ ⟨Nat.le_of_ble_eq_true rfl, Nat.le_of_ble_eq_true rfl⟩ (fun _ => rfl) dX11_init_25 (fun q4 H hP hD hS => ?_)
  refine lv_dup hx hb dX11_init_28 rfl ?_
  refine lv_aload_n hx hb dX11_init_29 rfl (lv_at hl 0 rfl) ?_
  refine x_get E iX11 hP 0 rfl rfl 5 (by decide) wq36 rfl dX11_init_30 ?_
  refine x_Iv (rest := [.ref q4, .ref h0]) (ws' := fun _ => [(h0, .inr (11, [.ref q1, v0_1, v0_2, v0_3, v0_4, .ref q2, v0_6, v0_7, v0_8, v0_9, v0_10, v0_11, v0_12, v0_13, v0_14, v0_15])), (q1, .inl (cyI, 400, .inl (fun _ => 0))), (q2, .inr (0, [.ref (u3.1 0), .ref (u3.1 1), .ref (u3.1 2), .ref (u3.1 3), .ref (u3.1 4), .ref (u3.1 5), .ref (u3.1 6), .ref (u3.1 7), .ref (u3.1 8), .ref (u3.1 9), .ref (u3.1 10), .ref (u3.1 11), .int 3, .int 3])), ((u3.1 0), .inl (cyI, 512, .inl (u3.2 0))), ((u3.1 1), .inl (cyI, 512, .inl (u3.2 1))), ((u3.1 2), .inl (cyI, 512, .inl (u3.2 2))), ((u3.1 3), .inl (cyI, 512, .inl (u3.2 3))), ((u3.1 4), .inl (cyI, 512, .inl (u3.2 4))), ((u3.1 5), .inl (cyI, 512, .inl (u3.2 5))), ((u3.1 6), .inl (cyI, 512, .inl (u3.2 6))), ((u3.1 7), .inl (cyI, 512, .inl (u3.2 7))), ((u3.1 8), .inl (cyI, 512, .inl (u3.2 8))), ((u3.1 9), .inl (cyI, 512, .inl (u3.2 9))), ((u3.1 10), .inl (cyI, 512, .inl (fun _ => 0))), ((u3.1 11), .inl (cyI, 512, .inl (u3.2 10))), (q4, .inr (7, [.ref q2]))]) (wr := [(h0, .inr (11, [.ref q1, v0_1, v0_2, v0_3, v0_4, .ref q2, v0_6, v0_7, v0_8, v0_9, v0_10, v0_11, v0_12, v0_13, v0_14, v0_15])), (q1, .inl (cyI, 400, .inl (fun _ => 0))), (q2, .inr (0, [.ref (u3.1 0), .ref (u3.1 1), .ref (u3.1 2), .ref (u3.1 3), .ref (u3.1 4), .ref (u3.1 5), .ref (u3.1 6), .ref (u3.1 7), .ref (u3.1 8), .ref (u3.1 9), .ref (u3.1 10), .ref (u3.1 11), .int 3, .int 3])), ((u3.1 0), .inl (cyI, 512, .inl (u3.2 0))), ((u3.1 1), .inl (cyI, 512, .inl (u3.2 1))), ((u3.1 2), .inl (cyI, 512, .inl (u3.2 2))), ((u3.1 3), .inl (cyI, 512, .inl (u3.2 3))), ((u3.1 4), .inl (cyI, 512, .inl (u3.2 4))), ((u3.1 5), .inl (cyI, 512, .inl (u3.2 5))), ((u3.1 6), .inl (cyI, 512, .inl (u3.2 6))), ((u3.1 7), .inl (cyI, 512, .inl (u3.2 7))), ((u3.1 8), .inl (cyI, 512, .inl (u3.2 8))), ((u3.1 9), .inl (cyI, 512, .inl (u3.2 9))), ((u3.1 10), .inl (cyI, 512, .inl (fun _ => 0))), ((u3.1 11), .inl (cyI, 512, .inl (u3.2 10)))]) E (mX7_init l D cyI cyJ Z q4 q2 (.null)) kX7_init wq42 wq43 rfl ⟨rfl, rfl, Nat.le_of_ble_eq_true rfl, Nat.le_of_ble_eq_true rfl⟩ hP hD hS hA [15] [0, 1, 2, 3, 4, 5, 6, 7, 8, 9, 10, 11, 12, 13, 14] rfl rfl (by decide) (fun _ => rfl) hl.1 rfl (Nat.le_of_ble_eq_true rfl) dX11_init_33 ⟨rfl, rfl⟩ ⟨Nat.le_of_ble_eq_true rfl, Nat.le_of_ble_eq_true rfl⟩ (fun _ H locs hP hD hS => ?_)
  refine x_putF (ws' := [(h0, .inr (11, [.ref q1, v0_1, v0_2, v0_3, v0_4, .ref q2, .ref q4, v0_7, v0_8, v0_9, v0_10, v0_11, v0_12, v0_13, v0_14, v0_15])), (q1, .inl (cyI, 400, .inl (fun _ => 0))), (q2, .inr (0, [.ref (u3.1 0), .ref (u3.1 1), .ref (u3.1 2), .ref (u3.1 3), .ref (u3.1 4), .ref (u3.1 5), .ref (u3.1 6), .ref (u3.1 7), .ref (u3.1 8), .ref (u3.1 9), .ref (u3.1 10), .ref (u3.1 11), .int 3, .int 3])), ((u3.1 0), .inl (cyI, 512, .inl (u3.2 0))), ((u3.1 1), .inl (cyI, 512, .inl (u3.2 1))), ((u3.1 2), .inl (cyI, 512, .inl (u3.2 2))), ((u3.1 3), .inl (cyI, 512, .inl (u3.2 3))), ((u3.1 4), .inl (cyI, 512, .inl (u3.2 4))), ((u3.1 5), .inl (cyI, 512, .inl (u3.2 5))), ((u3.1 6), .inl (cyI, 512, .inl (u3.2 6))), ((u3.1 7), .inl (cyI, 512, .inl (u3.2 7))), ((u3.1 8), .inl (cyI, 512, .inl (u3.2 8))), ((u3.1 9), .inl (cyI, 512, .inl (u3.2 9))), ((u3.1 10), .inl (cyI, 512, .inl (fun _ => 0))), ((u3.1 11), .inl (cyI, 512, .inl (u3.2 10))), (q4, .inr (7, [.ref q2]))]) E iX11 tyX11 tyX11_ok nmX11 hP hD hS hnm 0 rfl rfl 6 (by decide) wq44 rfl rfl rfl rfl rfl rfl dX11_init_36 (fun H locs hP hD hS => ?_)
  refine lv_aload_n hx hb dX11_init_39 rfl (lv_at hl 0 rfl) ?_
  refine x_new (wg := fun q5 => [(h0, .inr (11, [.ref q1, v0_1, v0_2, v0_3, v0_4, .ref q2, .ref q4, v0_7, v0_8, v0_9, v0_10, v0_11, v0_12, v0_13, v0_14, v0_15])), (q1, .inl (cyI, 400, .inl (fun _ => 0))), (q2, .inr (0, [.ref (u3.1 0), .ref (u3.1 1), .ref (u3.1 2), .ref (u3.1 3), .ref (u3.1 4), .ref (u3.1 5), .ref (u3.1 6), .ref (u3.1 7), .ref (u3.1 8), .ref (u3.1 9), .ref (u3.1 10), .ref (u3.1 11), .int 3, .int 3])), ((u3.1 0), .inl (cyI, 512, .inl (u3.2 0))), ((u3.1 1), .inl (cyI, 512, .inl (u3.2 1))), ((u3.1 2), .inl (cyI, 512, .inl (u3.2 2))), ((u3.1 3), .inl (cyI, 512, .inl (u3.2 3))), ((u3.1 4), .inl (cyI, 512, .inl (u3.2 4))), ((u3.1 5), .inl (cyI, 512, .inl (u3.2 5))), ((u3.1 6), .inl (cyI, 512, .inl (u3.2 6))), ((u3.1 7), .inl (cyI, 512, .inl (u3.2 7))), ((u3.1 8), .inl (cyI, 512, .inl (u3.2 8))), ((u3.1 9), .inl (cyI, 512, .inl (u3.2 9))), ((u3.1 10), .inl (cyI, 512, .inl (fun _ => 0))), ((u3.1 11), .inl (cyI, 512, .inl (u3.2 10))), (q4, .inr (7, [.ref q2])), (q5, .inr (9, [.null, .null, .null, .null, .null, .null, .null, .null, .null, .int 0, .int 0, .int 0, .int 0, .int 0, .int 0]))]) E iX9 tyX9 tyX9_ok wq45 wq46 wq47 hP hD hS hA rfl [.null, .null, .null, .null, .null, .null, .null, .null, .null, .int 0, .int 0, .int 0, .int 0, .int 0, .int 0] (by decide +kernel) ⟨rfl, rfl⟩ ⟨Nat.le_of_ble_eq_true rfl, Nat.le_of_ble_eq_true rfl⟩ (fun _ => rfl) dX11_init_40 (fun q5 H hP hD hS => ?_)
  refine lv_dup hx hb dX11_init_43 rfl ?_
  refine lv_aload_n hx hb dX11_init_44 rfl (lv_at hl 0 rfl) ?_
  refine x_get E iX11 hP 0 rfl rfl 5 (by decide) wq36 rfl dX11_init_45 ?_
  refine x_Iv (rest := [.ref q5, .ref h0]) (ws' := fun u6 => [(h0, .inr (11, [.ref q1, v0_1, v0_2, v0_3, v0_4, .ref q2, .ref q4, v0_7, v0_8, v0_9, v0_10, v0_11, v0_12, v0_13, v0_14, v0_15])), (q1, .inl (cyI, 400, .inl (fun _ => 0))), (q2, .inr (0, [.ref (u3.1 0), .ref (u3.1 1), .ref (u3.1 2), .ref (u3.1 3), .ref (u3.1 4), .ref (u3.1 5), .ref (u3.1 6), .ref (u3.1 7), .ref (u3.1 8), .ref (u3.1 9), .ref (u3.1 10), .ref (u3.1 11), .int 3, .int 3])), ((u3.1 0), .inl (cyI, 512, .inl (u3.2 0))), ((u3.1 1), .inl (cyI, 512, .inl (u3.2 1))), ((u3.1 2), .inl (cyI, 512, .inl (u3.2 2))), ((u3.1 3), .inl (cyI, 512, .inl (u3.2 3))), ((u3.1 4), .inl (cyI, 512, .inl (u3.2 4))), ((u3.1 5), .inl (cyI, 512, .inl (u3.2 5))), ((u3.1 6), .inl (cyI, 512, .inl (u3.2 6))), ((u3.1 7), .inl (cyI, 512, .inl (u3.2 7))), ((u3.1 8), .inl (cyI, 512, .inl (u3.2 8))), ((u3.1 9), .inl (cyI, 512, .inl (u3.2 9))), ((u3.1 10), .inl (cyI, 512, .inl (fun _ => 0))), ((u3.1 11), .inl (cyI, 512, .inl (u3.2 10))), (q4, .inr (7, [.ref q2])), (q5, .inr (9, [.ref q2, .ref (u6.1 0), .ref (u6.1 1), .ref (u6.1 2), .ref (u6.1 3), .ref (u6.1 4), .ref (u6.1 5), .ref (u6.1 6), .ref (u6.1 7), .int 0, .int 0, .int 0, .int 0, .int 0, .int 0])), ((u6.1 0), .inl (cyI, 10, .inl (fun _ => 0))), ((u6.1 1), .inl (cyI, 10, .inl (fun _ => 0))), ((u6.1 2), .inl (cyI, 10, .inl (fun _ => 0))), ((u6.1 3), .inl (cyI, 10, .inl (fun _ => 0))), ((u6.1 4), .inl (cyI, 10, .inl (fun _ => 0))), ((u6.1 5), .inl (cyI, 60, .inl (fun _ => 0))), ((u6.1 6), .inl (cyI, 60, .inl (fun _ => 0))), ((u6.1 7), .inl (cyI, 60, .inl (fun _ => 0)))]) (wr := [(h0, .inr (11, [.ref q1, v0_1, v0_2, v0_3, v0_4, .ref q2, .ref q4, v0_7, v0_8, v0_9, v0_10, v0_11, v0_12, v0_13, v0_14, v0_15])), (q1, .inl (cyI, 400, .inl (fun _ => 0))), (q2, .inr (0, [.ref (u3.1 0), .ref (u3.1 1), .ref (u3.1 2), .ref (u3.1 3), .ref (u3.1 4), .ref (u3.1 5), .ref (u3.1 6), .ref (u3.1 7), .ref (u3.1 8), .ref (u3.1 9), .ref (u3.1 10), .ref (u3.1 11), .int 3, .int 3])), ((u3.1 0), .inl (cyI, 512, .inl (u3.2 0))), ((u3.1 1), .inl (cyI, 512, .inl (u3.2 1))), ((u3.1 2), .inl (cyI, 512, .inl (u3.2 2))), ((u3.1 3), .inl (cyI, 512, .inl (u3.2 3))), ((u3.1 4), .inl (cyI, 512, .inl (u3.2 4))), ((u3.1 5), .inl (cyI, 512, .inl (u3.2 5))), ((u3.1 6), .inl (cyI, 512, .inl (u3.2 6))), ((u3.1 7), .inl (cyI, 512, .inl (u3.2 7))), ((u3.1 8), .inl (cyI, 512, .inl (u3.2 8))), ((u3.1 9), .inl (cyI, 512, .inl (u3.2 9))), ((u3.1 10), .inl (cyI, 512, .inl (fun _ => 0))), ((u3.1 11), .inl (cyI, 512, .inl (u3.2 10))), (q4, .inr (7, [.ref q2]))]) E (mX9_init l D cyI cyJ Z q5 q2 (.null) (.null) (.null) (.null) (.null) (.null) (.null) (.null) (.null) (.int 0) (.int 0) (.int 0) (.int 0) (.int 0) (.int 0)) kX9_init wq58 wq59 rfl ⟨rfl, rfl, Nat.le_of_ble_eq_true rfl, Nat.le_of_ble_eq_true rfl⟩ hP hD hS hA [16] [0, 1, 2, 3, 4, 5, 6, 7, 8, 9, 10, 11, 12, 13, 14, 15] rfl rfl (by decide) (fun _ => rfl) hl.1 rfl (Nat.le_of_ble_eq_true rfl) dX11_init_48 ⟨rfl, rfl⟩ ⟨Nat.le_of_ble_eq_true rfl, Nat.le_of_ble_eq_true rfl⟩ (fun u6 H locs hP hD hS => ?_)
  refine x_putF (ws' := [(h0, .inr (11, [.ref q1, v0_1, v0_2, v0_3, v0_4, .ref q2, .ref q4, .ref q5, v0_8, v0_9, v0_10, v0_11, v0_12, v0_13, v0_14, v0_15])), (q1, .inl (cyI, 400, .inl (fun _ => 0))), (q2, .inr (0, [.ref (u3.1 0), .ref (u3.1 1), .ref (u3.1 2), .ref (u3.1 3), .ref (u3.1 4), .ref (u3.1 5), .ref (u3.1 6), .ref (u3.1 7), .ref (u3.1 8), .ref (u3.1 9), .ref (u3.1 10), .ref (u3.1 11), .int 3, .int 3])), ((u3.1 0), .inl (cyI, 512, .inl (u3.2 0))), ((u3.1 1), .inl (cyI, 512, .inl (u3.2 1))), ((u3.1 2), .inl (cyI, 512, .inl (u3.2 2))), ((u3.1 3), .inl (cyI, 512, .inl (u3.2 3))), ((u3.1 4), .inl (cyI, 512, .inl (u3.2 4))), ((u3.1 5), .inl (cyI, 512, .inl (u3.2 5))), ((u3.1 6), .inl (cyI, 512, .inl (u3.2 6))), ((u3.1 7), .inl (cyI, 512, .inl (u3.2 7))), ((u3.1 8), .inl (cyI, 512, .inl (u3.2 8))), ((u3.1 9), .inl (cyI, 512, .inl (u3.2 9))), ((u3.1 10), .inl (cyI, 512, .inl (fun _ => 0))), ((u3.1 11), .inl (cyI, 512, .inl (u3.2 10))), (q4, .inr (7, [.ref q2])), (q5, .inr (9, [.ref q2, .ref (u6.1 0), .ref (u6.1 1), .ref (u6.1 2), .ref (u6.1 3), .ref (u6.1 4), .ref (u6.1 5), .ref (u6.1 6), .ref (u6.1 7), .int 0, .int 0, .int 0, .int 0, .int 0, .int 0])), ((u6.1 0), .inl (cyI, 10, .inl (fun _ => 0))), ((u6.1 1), .inl (cyI, 10, .inl (fun _ => 0))), ((u6.1 2), .inl (cyI, 10, .inl (fun _ => 0))), ((u6.1 3), .inl (cyI, 10, .inl (fun _ => 0))), ((u6.1 4), .inl (cyI, 10, .inl (fun _ => 0))), ((u6.1 5), .inl (cyI, 60, .inl (fun _ => 0))), ((u6.1 6), .inl (cyI, 60, .inl (fun _ => 0))), ((u6.1 7), .inl (cyI, 60, .inl (fun _ => 0)))]) E iX11 tyX11 tyX11_ok nmX11 hP hD hS hnm 0 rfl rfl 7 (by decide) wq60 rfl rfl rfl rfl rfl rfl dX11_init_51 (fun H locs hP hD hS => ?_)
  refine lv_aload_n hx hb dX11_init_54 rfl (lv_at hl 0 rfl) ?_
  refine x_new (wg := fun q7 => [(h0, .inr (11, [.ref q1, v0_1, v0_2, v0_3, v0_4, .ref q2, .ref q4, .ref q5, v0_8, v0_9, v0_10, v0_11, v0_12, v0_13, v0_14, v0_15])), (q1, .inl (cyI, 400, .inl (fun _ => 0))), (q2, .inr (0, [.ref (u3.1 0), .ref (u3.1 1), .ref (u3.1 2), .ref (u3.1 3), .ref (u3.1 4), .ref (u3.1 5), .ref (u3.1 6), .ref (u3.1 7), .ref (u3.1 8), .ref (u3.1 9), .ref (u3.1 10), .ref (u3.1 11), .int 3, .int 3])), ((u3.1 0), .inl (cyI, 512, .inl (u3.2 0))), ((u3.1 1), .inl (cyI, 512, .inl (u3.2 1))), ((u3.1 2), .inl (cyI, 512, .inl (u3.2 2))), ((u3.1 3), .inl (cyI, 512, .inl (u3.2 3))), ((u3.1 4), .inl (cyI, 512, .inl (u3.2 4))), ((u3.1 5), .inl (cyI, 512, .inl (u3.2 5))), ((u3.1 6), .inl (cyI, 512, .inl (u3.2 6))), ((u3.1 7), .inl (cyI, 512, .inl (u3.2 7))), ((u3.1 8), .inl (cyI, 512, .inl (u3.2 8))), ((u3.1 9), .inl (cyI, 512, .inl (u3.2 9))), ((u3.1 10), .inl (cyI, 512, .inl (fun _ => 0))), ((u3.1 11), .inl (cyI, 512, .inl (u3.2 10))), (q4, .inr (7, [.ref q2])), (q5, .inr (9, [.ref q2, .ref (u6.1 0), .ref (u6.1 1), .ref (u6.1 2), .ref (u6.1 3), .ref (u6.1 4), .ref (u6.1 5), .ref (u6.1 6), .ref (u6.1 7), .int 0, .int 0, .int 0, .int 0, .int 0, .int 0])), ((u6.1 0), .inl (cyI, 10, .inl (fun _ => 0))), ((u6.1 1), .inl (cyI, 10, .inl (fun _ => 0))), ((u6.1 2), .inl (cyI, 10, .inl (fun _ => 0))), ((u6.1 3), .inl (cyI, 10, .inl (fun _ => 0))), ((u6.1 4), .inl (cyI, 10, .inl (fun _ => 0))), ((u6.1 5), .inl (cyI, 60, .inl (fun _ => 0))), ((u6.1 6), .inl (cyI, 60, .inl (fun _ => 0))), ((u6.1 7), .inl (cyI, 60, .inl (fun _ => 0))), (q7, .inr (5, [.null, .null, .null]))]) E iX5 tyX5 tyX5_ok wq61 wq62 wq63 hP hD hS hA rfl [.null, .null, .null] (by decide +kernel) ⟨rfl, rfl⟩ ⟨Nat.le_of_ble_eq_true rfl, Nat.le_of_ble_eq_true rfl⟩ (fun _ => rfl) dX11_init_55 (fun q7 H hP hD hS => ?_)
  refine lv_dup hx hb dX11_init_58 rfl ?_
  refine lv_aload_n hx hb dX11_init_59 rfl (lv_at hl 0 rfl) ?_
  refine x_get E iX11 hP 0 rfl rfl 5 (by decide) wq36 rfl dX11_init_60 ?_
  refine lv_aload_n hx hb dX11_init_63 rfl (lv_at hl 0 rfl) ?_
  refine x_get E iX11 hP 0 rfl rfl 6 (by decide) wq44 rfl dX11_init_64 ?_
  refine lv_aload_n hx hb dX11_init_67 rfl (lv_at hl 0 rfl) ?_
  refine x_get E iX11 hP 0 rfl rfl 7 (by decide) wq60 rfl dX11_init_68 ?_
  refine x_Iv (rest := [.ref q7, .ref h0]) (ws' := fun _ => [(h0, .inr (11, [.ref q1, v0_1, v0_2, v0_3, v0_4, .ref q2, .ref q4, .ref q5, v0_8, v0_9, v0_10, v0_11, v0_12, v0_13, v0_14, v0_15])), (q1, .inl (cyI, 400, .inl (fun _ => 0))), (q2, .inr (0, [.ref (u3.1 0), .ref (u3.1 1), .ref (u3.1 2), .ref (u3.1 3), .ref (u3.1 4), .ref (u3.1 5), .ref (u3.1 6), .ref (u3.1 7), .ref (u3.1 8), .ref (u3.1 9), .ref (u3.1 10), .ref (u3.1 11), .int 3, .int 3])), ((u3.1 0), .inl (cyI, 512, .inl (u3.2 0))), ((u3.1 1), .inl (cyI, 512, .inl (u3.2 1))), ((u3.1 2), .inl (cyI, 512, .inl (u3.2 2))), ((u3.1 3), .inl (cyI, 512, .inl (u3.2 3))), ((u3.1 4), .inl (cyI, 512, .inl (u3.2 4))), ((u3.1 5), .inl (cyI, 512, .inl (u3.2 5))), ((u3.1 6), .inl (cyI, 512, .inl (u3.2 6))), ((u3.1 7), .inl (cyI, 512, .inl (u3.2 7))), ((u3.1 8), .inl (cyI, 512, .inl (u3.2 8))), ((u3.1 9), .inl (cyI, 512, .inl (u3.2 9))), ((u3.1 10), .inl (cyI, 512, .inl (fun _ => 0))), ((u3.1 11), .inl (cyI, 512, .inl (u3.2 10))), (q4, .inr (7, [.ref q2])), (q5, .inr (9, [.ref q2, .ref (u6.1 0), .ref (u6.1 1), .ref (u6.1 2), .ref (u6.1 3), .ref (u6.1 4), .ref (u6.1 5), .ref (u6.1 6), .ref (u6.1 7), .int 0, .int 0, .int 0, .int 0, .int 0, .int 0])), ((u6.1 0), .inl (cyI, 10, .inl (fun _ => 0))), ((u6.1 1), .inl (cyI, 10, .inl (fun _ => 0))), ((u6.1 2), .inl (cyI, 10, .inl (fun _ => 0))), ((u6.1 3), .inl (cyI, 10, .inl (fun _ => 0))), ((u6.1 4), .inl (cyI, 10, .inl (fun _ => 0))), ((u6.1 5), .inl (cyI, 60, .inl (fun _ => 0))), ((u6.1 6), .inl (cyI, 60, .inl (fun _ => 0))), ((u6.1 7), .inl (cyI, 60, .inl (fun _ => 0))), (q7, .inr (5, [.ref q2, .ref q4, .ref q5]))]) (wr := [(h0, .inr (11, [.ref q1, v0_1, v0_2, v0_3, v0_4, .ref q2, .ref q4, .ref q5, v0_8, v0_9, v0_10, v0_11, v0_12, v0_13, v0_14, v0_15])), (q1, .inl (cyI, 400, .inl (fun _ => 0))), (q2, .inr (0, [.ref (u3.1 0), .ref (u3.1 1), .ref (u3.1 2), .ref (u3.1 3), .ref (u3.1 4), .ref (u3.1 5), .ref (u3.1 6), .ref (u3.1 7), .ref (u3.1 8), .ref (u3.1 9), .ref (u3.1 10), .ref (u3.1 11), .int 3, .int 3])), ((u3.1 0), .inl (cyI, 512, .inl (u3.2 0))), ((u3.1 1), .inl (cyI, 512, .inl (u3.2 1))), ((u3.1 2), .inl (cyI, 512, .inl (u3.2 2))), ((u3.1 3), .inl (cyI, 512, .inl (u3.2 3))), ((u3.1 4), .inl (cyI, 512, .inl (u3.2 4))), ((u3.1 5), .inl (cyI, 512, .inl (u3.2 5))), ((u3.1 6), .inl (cyI, 512, .inl (u3.2 6))), ((u3.1 7), .inl (cyI, 512, .inl (u3.2 7))), ((u3.1 8), .inl (cyI, 512, .inl (u3.2 8))), ((u3.1 9), .inl (cyI, 512, .inl (u3.2 9))), ((u3.1 10), .inl (cyI, 512, .inl (fun _ => 0))), ((u3.1 11), .inl (cyI, 512, .inl (u3.2 10))), (q4, .inr (7, [.ref q2])), (q5, .inr (9, [.ref q2, .ref (u6.1 0), .ref (u6.1 1), .ref (u6.1 2), .ref (u6.1 3), .ref (u6.1 4), .ref (u6.1 5), .ref (u6.1 6), .ref (u6.1 7), .int 0, .int 0, .int 0, .int 0, .int 0, .int 0])), ((u6.1 0), .inl (cyI, 10, .inl (fun _ => 0))), ((u6.1 1), .inl (cyI, 10, .inl (fun _ => 0))), ((u6.1 2), .inl (cyI, 10, .inl (fun _ => 0))), ((u6.1 3), .inl (cyI, 10, .inl (fun _ => 0))), ((u6.1 4), .inl (cyI, 10, .inl (fun _ => 0))), ((u6.1 5), .inl (cyI, 60, .inl (fun _ => 0))), ((u6.1 6), .inl (cyI, 60, .inl (fun _ => 0))), ((u6.1 7), .inl (cyI, 60, .inl (fun _ => 0)))]) E (mX5_init l D cyI cyJ Z q7 q2 q4 q5 (.null) (.null) (.null)) kX5_init wq68 wq69 rfl ⟨rfl, rfl, Nat.le_of_ble_eq_true rfl, Nat.le_of_ble_eq_true rfl⟩ hP hD hS hA [25] [0, 1, 2, 3, 4, 5, 6, 7, 8, 9, 10, 11, 12, 13, 14, 15, 16, 17, 18, 19, 20, 21, 22, 23, 24] rfl rfl (by decide) (fun _ => rfl) hl.1 rfl (Nat.le_of_ble_eq_true rfl) dX11_init_71 ⟨rfl, rfl⟩ ⟨Nat.le_of_ble_eq_true rfl, Nat.le_of_ble_eq_true rfl⟩ (fun _ H locs hP hD hS => ?_)
  refine x_putF (ws' := [(h0, .inr (11, [.ref q1, v0_1, v0_2, v0_3, v0_4, .ref q2, .ref q4, .ref q5, .ref q7, v0_9, v0_10, v0_11, v0_12, v0_13, v0_14, v0_15])), (q1, .inl (cyI, 400, .inl (fun _ => 0))), (q2, .inr (0, [.ref (u3.1 0), .ref (u3.1 1), .ref (u3.1 2), .ref (u3.1 3), .ref (u3.1 4), .ref (u3.1 5), .ref (u3.1 6), .ref (u3.1 7), .ref (u3.1 8), .ref (u3.1 9), .ref (u3.1 10), .ref (u3.1 11), .int 3, .int 3])), ((u3.1 0), .inl (cyI, 512, .inl (u3.2 0))), ((u3.1 1), .inl (cyI, 512, .inl (u3.2 1))), ((u3.1 2), .inl (cyI, 512, .inl (u3.2 2))), ((u3.1 3), .inl (cyI, 512, .inl (u3.2 3))), ((u3.1 4), .inl (cyI, 512, .inl (u3.2 4))), ((u3.1 5), .inl (cyI, 512, .inl (u3.2 5))), ((u3.1 6), .inl (cyI, 512, .inl (u3.2 6))), ((u3.1 7), .inl (cyI, 512, .inl (u3.2 7))), ((u3.1 8), .inl (cyI, 512, .inl (u3.2 8))), ((u3.1 9), .inl (cyI, 512, .inl (u3.2 9))), ((u3.1 10), .inl (cyI, 512, .inl (fun _ => 0))), ((u3.1 11), .inl (cyI, 512, .inl (u3.2 10))), (q4, .inr (7, [.ref q2])), (q5, .inr (9, [.ref q2, .ref (u6.1 0), .ref (u6.1 1), .ref (u6.1 2), .ref (u6.1 3), .ref (u6.1 4), .ref (u6.1 5), .ref (u6.1 6), .ref (u6.1 7), .int 0, .int 0, .int 0, .int 0, .int 0, .int 0])), ((u6.1 0), .inl (cyI, 10, .inl (fun _ => 0))), ((u6.1 1), .inl (cyI, 10, .inl (fun _ => 0))), ((u6.1 2), .inl (cyI, 10, .inl (fun _ => 0))), ((u6.1 3), .inl (cyI, 10, .inl (fun _ => 0))), ((u6.1 4), .inl (cyI, 10, .inl (fun _ => 0))), ((u6.1 5), .inl (cyI, 60, .inl (fun _ => 0))), ((u6.1 6), .inl (cyI, 60, .inl (fun _ => 0))), ((u6.1 7), .inl (cyI, 60, .inl (fun _ => 0))), (q7, .inr (5, [.ref q2, .ref q4, .ref q5]))]) E iX11 tyX11 tyX11_ok nmX11 hP hD hS hnm 0 rfl rfl 8 (by decide) wq70 rfl rfl rfl rfl rfl rfl dX11_init_74 (fun H locs hP hD hS => ?_)
  refine lv_aload_n hx hb dX11_init_77 rfl (lv_at hl 0 rfl) ?_
  refine x_new (wg := fun q8 => [(h0, .inr (11, [.ref q1, v0_1, v0_2, v0_3, v0_4, .ref q2, .ref q4, .ref q5, .ref q7, v0_9, v0_10, v0_11, v0_12, v0_13, v0_14, v0_15])), (q1, .inl (cyI, 400, .inl (fun _ => 0))), (q2, .inr (0, [.ref (u3.1 0), .ref (u3.1 1), .ref (u3.1 2), .ref (u3.1 3), .ref (u3.1 4), .ref (u3.1 5), .ref (u3.1 6), .ref (u3.1 7), .ref (u3.1 8), .ref (u3.1 9), .ref (u3.1 10), .ref (u3.1 11), .int 3, .int 3])), ((u3.1 0), .inl (cyI, 512, .inl (u3.2 0))), ((u3.1 1), .inl (cyI, 512, .inl (u3.2 1))), ((u3.1 2), .inl (cyI, 512, .inl (u3.2 2))), ((u3.1 3), .inl (cyI, 512, .inl (u3.2 3))), ((u3.1 4), .inl (cyI, 512, .inl (u3.2 4))), ((u3.1 5), .inl (cyI, 512, .inl (u3.2 5))), ((u3.1 6), .inl (cyI, 512, .inl (u3.2 6))), ((u3.1 7), .inl (cyI, 512, .inl (u3.2 7))), ((u3.1 8), .inl (cyI, 512, .inl (u3.2 8))), ((u3.1 9), .inl (cyI, 512, .inl (u3.2 9))), ((u3.1 10), .inl (cyI, 512, .inl (fun _ => 0))), ((u3.1 11), .inl (cyI, 512, .inl (u3.2 10))), (q4, .inr (7, [.ref q2])), (q5, .inr (9, [.ref q2, .ref (u6.1 0), .ref (u6.1 1), .ref (u6.1 2), .ref (u6.1 3), .ref (u6.1 4), .ref (u6.1 5), .ref (u6.1 6), .ref (u6.1 7), .int 0, .int 0, .int 0, .int 0, .int 0, .int 0])), ((u6.1 0), .inl (cyI, 10, .inl (fun _ => 0))), ((u6.1 1), .inl (cyI, 10, .inl (fun _ => 0))), ((u6.1 2), .inl (cyI, 10, .inl (fun _ => 0))), ((u6.1 3), .inl (cyI, 10, .inl (fun _ => 0))), ((u6.1 4), .inl (cyI, 10, .inl (fun _ => 0))), ((u6.1 5), .inl (cyI, 60, .inl (fun _ => 0))), ((u6.1 6), .inl (cyI, 60, .inl (fun _ => 0))), ((u6.1 7), .inl (cyI, 60, .inl (fun _ => 0))), (q7, .inr (5, [.ref q2, .ref q4, .ref q5])), (q8, .inr (3, [.null, .null, .null, .null, .null, .int 0, .null, .int 0]))]) E iX3 tyX3 tyX3_ok wq71 wq72 wq73 hP hD hS hA rfl [.null, .null, .null, .null, .null, .int 0, .null, .int 0] (by decide +kernel) ⟨rfl, rfl⟩ ⟨Nat.le_of_ble_eq_true rfl, Nat.le_of_ble_eq_true rfl⟩ (fun _ => rfl) dX11_init_78 (fun q8 H hP hD hS => ?_)
  refine lv_dup hx hb dX11_init_81 rfl ?_
  refine lv_aload_n hx hb dX11_init_82 rfl (lv_at hl 0 rfl) ?_
  refine x_get E iX11 hP 0 rfl rfl 5 (by decide) wq36 rfl dX11_init_83 ?_
  refine lv_aload_n hx hb dX11_init_86 rfl (lv_at hl 0 rfl) ?_
  refine x_get E iX11 hP 0 rfl rfl 6 (by decide) wq44 rfl dX11_init_87 ?_
  refine lv_aload_n hx hb dX11_init_90 rfl (lv_at hl 0 rfl) ?_
  refine x_get E iX11 hP 0 rfl rfl 8 (by decide) wq70 rfl dX11_init_91 ?_
  refine x_Iv (rest := [.ref q8, .ref h0]) (ws' := fun u9 => [(h0, .inr (11, [.ref q1, v0_1, v0_2, v0_3, v0_4, .ref q2, .ref q4, .ref q5, .ref q7, v0_9, v0_10, v0_11, v0_12, v0_13, v0_14, v0_15])), (q1, .inl (cyI, 400, .inl (fun _ => 0))), (q2, .inr (0, [.ref (u3.1 0), .ref (u3.1 1), .ref (u3.1 2), .ref (u3.1 3), .ref (u3.1 4), .ref (u3.1 5), .ref (u3.1 6), .ref (u3.1 7), .ref (u3.1 8), .ref (u3.1 9), .ref (u3.1 10), .ref (u3.1 11), .int 3, .int 3])), ((u3.1 0), .inl (cyI, 512, .inl (u3.2 0))), ((u3.1 1), .inl (cyI, 512, .inl (u3.2 1))), ((u3.1 2), .inl (cyI, 512, .inl (u3.2 2))), ((u3.1 3), .inl (cyI, 512, .inl (u3.2 3))), ((u3.1 4), .inl (cyI, 512, .inl (u3.2 4))), ((u3.1 5), .inl (cyI, 512, .inl (u3.2 5))), ((u3.1 6), .inl (cyI, 512, .inl (u3.2 6))), ((u3.1 7), .inl (cyI, 512, .inl (u3.2 7))), ((u3.1 8), .inl (cyI, 512, .inl (u3.2 8))), ((u3.1 9), .inl (cyI, 512, .inl (u3.2 9))), ((u3.1 10), .inl (cyI, 512, .inl (fun _ => 0))), ((u3.1 11), .inl (cyI, 512, .inl (u3.2 10))), (q4, .inr (7, [.ref q2])), (q5, .inr (9, [.ref q2, .ref (u6.1 0), .ref (u6.1 1), .ref (u6.1 2), .ref (u6.1 3), .ref (u6.1 4), .ref (u6.1 5), .ref (u6.1 6), .ref (u6.1 7), .int 0, .int 0, .int 0, .int 0, .int 0, .int 0])), ((u6.1 0), .inl (cyI, 10, .inl (fun _ => 0))), ((u6.1 1), .inl (cyI, 10, .inl (fun _ => 0))), ((u6.1 2), .inl (cyI, 10, .inl (fun _ => 0))), ((u6.1 3), .inl (cyI, 10, .inl (fun _ => 0))), ((u6.1 4), .inl (cyI, 10, .inl (fun _ => 0))), ((u6.1 5), .inl (cyI, 60, .inl (fun _ => 0))), ((u6.1 6), .inl (cyI, 60, .inl (fun _ => 0))), ((u6.1 7), .inl (cyI, 60, .inl (fun _ => 0))), (q7, .inr (5, [.ref q2, .ref q4, .ref q5])), (q8, .inr (3, [.ref q2, .ref q4, .ref q7, .ref (u9.1 0), .ref (u9.1 1), .int 0, .ref (u9.1 2), .int 0])), ((u9.1 0), .inl (cyI, 10, .inl (fun _ => 0))), ((u9.1 1), .inl (cyI, 10, .inl (fun _ => 0))), ((u9.1 2), .inl (cyI, 16, .inl (fun _ => 0)))]) (wr := [(h0, .inr (11, [.ref q1, v0_1, v0_2, v0_3, v0_4, .ref q2, .ref q4, .ref q5, .ref q7, v0_9, v0_10, v0_11, v0_12, v0_13, v0_14, v0_15])), (q1, .inl (cyI, 400, .inl (fun _ => 0))), (q2, .inr (0, [.ref (u3.1 0), .ref (u3.1 1), .ref (u3.1 2), .ref (u3.1 3), .ref (u3.1 4), .ref (u3.1 5), .ref (u3.1 6), .ref (u3.1 7), .ref (u3.1 8), .ref (u3.1 9), .ref (u3.1 10), .ref (u3.1 11), .int 3, .int 3])), ((u3.1 0), .inl (cyI, 512, .inl (u3.2 0))), ((u3.1 1), .inl (cyI, 512, .inl (u3.2 1))), ((u3.1 2), .inl (cyI, 512, .inl (u3.2 2))), ((u3.1 3), .inl (cyI, 512, .inl (u3.2 3))), ((u3.1 4), .inl (cyI, 512, .inl (u3.2 4))), ((u3.1 5), .inl (cyI, 512, .inl (u3.2 5))), ((u3.1 6), .inl (cyI, 512, .inl (u3.2 6))), ((u3.1 7), .inl (cyI, 512, .inl (u3.2 7))), ((u3.1 8), .inl (cyI, 512, .inl (u3.2 8))), ((u3.1 9), .inl (cyI, 512, .inl (u3.2 9))), ((u3.1 10), .inl (cyI, 512, .inl (fun _ => 0))), ((u3.1 11), .inl (cyI, 512, .inl (u3.2 10))), (q4, .inr (7, [.ref q2])), (q5, .inr (9, [.ref q2, .ref (u6.1 0), .ref (u6.1 1), .ref (u6.1 2), .ref (u6.1 3), .ref (u6.1 4), .ref (u6.1 5), .ref (u6.1 6), .ref (u6.1 7), .int 0, .int 0, .int 0, .int 0, .int 0, .int 0])), ((u6.1 0), .inl (cyI, 10, .inl (fun _ => 0))), ((u6.1 1), .inl (cyI, 10, .inl (fun _ => 0))), ((u6.1 2), .inl (cyI, 10, .inl (fun _ => 0))), ((u6.1 3), .inl (cyI, 10, .inl (fun _ => 0))), ((u6.1 4), .inl (cyI, 10, .inl (fun _ => 0))), ((u6.1 5), .inl (cyI, 60, .inl (fun _ => 0))), ((u6.1 6), .inl (cyI, 60, .inl (fun _ => 0))), ((u6.1 7), .inl (cyI, 60, .inl (fun _ => 0))), (q7, .inr (5, [.ref q2, .ref q4, .ref q5]))]) E (mX3_init l D cyI cyJ Z q8 q2 q4 q7 (.null) (.null) (.null) (.null) (.null) (.int 0) (.null) (.int 0)) kX3_init wq81 wq82 rfl ⟨rfl, rfl, Nat.le_of_ble_eq_true rfl, Nat.le_of_ble_eq_true rfl⟩ hP hD hS hA [26] [0, 1, 2, 3, 4, 5, 6, 7, 8, 9, 10, 11, 12, 13, 14, 15, 16, 17, 18, 19, 20, 21, 22, 23, 24, 25] rfl rfl (by decide) (fun _ => rfl) hl.1 rfl (Nat.le_of_ble_eq_true rfl) dX11_init_94 ⟨rfl, rfl⟩ ⟨Nat.le_of_ble_eq_true rfl, Nat.le_of_ble_eq_true rfl⟩ (fun u9 H locs hP hD hS => ?_)
  refine x_putF (ws' := [(h0, .inr (11, [.ref q1, v0_1, v0_2, v0_3, v0_4, .ref q2, .ref q4, .ref q5, .ref q7, .ref q8, v0_10, v0_11, v0_12, v0_13, v0_14, v0_15])), (q1, .inl (cyI, 400, .inl (fun _ => 0))), (q2, .inr (0, [.ref (u3.1 0), .ref (u3.1 1), .ref (u3.1 2), .ref (u3.1 3), .ref (u3.1 4), .ref (u3.1 5), .ref (u3.1 6), .ref (u3.1 7), .ref (u3.1 8), .ref (u3.1 9), .ref (u3.1 10), .ref (u3.1 11), .int 3, .int 3])), ((u3.1 0), .inl (cyI, 512, .inl (u3.2 0))), ((u3.1 1), .inl (cyI, 512, .inl (u3.2 1))), ((u3.1 2), .inl (cyI, 512, .inl (u3.2 2))), ((u3.1 3), .inl (cyI, 512, .inl (u3.2 3))), ((u3.1 4), .inl (cyI, 512, .inl (u3.2 4))), ((u3.1 5), .inl (cyI, 512, .inl (u3.2 5))), ((u3.1 6), .inl (cyI, 512, .inl (u3.2 6))), ((u3.1 7), .inl (cyI, 512, .inl (u3.2 7))), ((u3.1 8), .inl (cyI, 512, .inl (u3.2 8))), ((u3.1 9), .inl (cyI, 512, .inl (u3.2 9))), ((u3.1 10), .inl (cyI, 512, .inl (fun _ => 0))), ((u3.1 11), .inl (cyI, 512, .inl (u3.2 10))), (q4, .inr (7, [.ref q2])), (q5, .inr (9, [.ref q2, .ref (u6.1 0), .ref (u6.1 1), .ref (u6.1 2), .ref (u6.1 3), .ref (u6.1 4), .ref (u6.1 5), .ref (u6.1 6), .ref (u6.1 7), .int 0, .int 0, .int 0, .int 0, .int 0, .int 0])), ((u6.1 0), .inl (cyI, 10, .inl (fun _ => 0))), ((u6.1 1), .inl (cyI, 10, .inl (fun _ => 0))), ((u6.1 2), .inl (cyI, 10, .inl (fun _ => 0))), ((u6.1 3), .inl (cyI, 10, .inl (fun _ => 0))), ((u6.1 4), .inl (cyI, 10, .inl (fun _ => 0))), ((u6.1 5), .inl (cyI, 60, .inl (fun _ => 0))), ((u6.1 6), .inl (cyI, 60, .inl (fun _ => 0))), ((u6.1 7), .inl (cyI, 60, .inl (fun _ => 0))), (q7, .inr (5, [.ref q2, .ref q4, .ref q5])), (q8, .inr (3, [.ref q2, .ref q4, .ref q7, .ref (u9.1 0), .ref (u9.1 1), .int 0, .ref (u9.1 2), .int 0])), ((u9.1 0), .inl (cyI, 10, .inl (fun _ => 0))), ((u9.1 1), .inl (cyI, 10, .inl (fun _ => 0))), ((u9.1 2), .inl (cyI, 16, .inl (fun _ => 0)))]) E iX11 tyX11 tyX11_ok nmX11 hP hD hS hnm 0 rfl rfl 9 (by decide) wq83 rfl rfl rfl rfl rfl rfl dX11_init_97 (fun H locs hP hD hS => ?_)
  refine lv_aload_n hx hb dX11_init_100 rfl (lv_at hl 0 rfl) ?_
  refine x_new (wg := fun q10 => [(h0, .inr (11, [.ref q1, v0_1, v0_2, v0_3, v0_4, .ref q2, .ref q4, .ref q5, .ref q7, .ref q8, v0_10, v0_11, v0_12, v0_13, v0_14, v0_15])), (q1, .inl (cyI, 400, .inl (fun _ => 0))), (q2, .inr (0, [.ref (u3.1 0), .ref (u3.1 1), .ref (u3.1 2), .ref (u3.1 3), .ref (u3.1 4), .ref (u3.1 5), .ref (u3.1 6), .ref (u3.1 7), .ref (u3.1 8), .ref (u3.1 9), .ref (u3.1 10), .ref (u3.1 11), .int 3, .int 3])), ((u3.1 0), .inl (cyI, 512, .inl (u3.2 0))), ((u3.1 1), .inl (cyI, 512, .inl (u3.2 1))), ((u3.1 2), .inl (cyI, 512, .inl (u3.2 2))), ((u3.1 3), .inl (cyI, 512, .inl (u3.2 3))), ((u3.1 4), .inl (cyI, 512, .inl (u3.2 4))), ((u3.1 5), .inl (cyI, 512, .inl (u3.2 5))), ((u3.1 6), .inl (cyI, 512, .inl (u3.2 6))), ((u3.1 7), .inl (cyI, 512, .inl (u3.2 7))), ((u3.1 8), .inl (cyI, 512, .inl (u3.2 8))), ((u3.1 9), .inl (cyI, 512, .inl (u3.2 9))), ((u3.1 10), .inl (cyI, 512, .inl (fun _ => 0))), ((u3.1 11), .inl (cyI, 512, .inl (u3.2 10))), (q4, .inr (7, [.ref q2])), (q5, .inr (9, [.ref q2, .ref (u6.1 0), .ref (u6.1 1), .ref (u6.1 2), .ref (u6.1 3), .ref (u6.1 4), .ref (u6.1 5), .ref (u6.1 6), .ref (u6.1 7), .int 0, .int 0, .int 0, .int 0, .int 0, .int 0])), ((u6.1 0), .inl (cyI, 10, .inl (fun _ => 0))), ((u6.1 1), .inl (cyI, 10, .inl (fun _ => 0))), ((u6.1 2), .inl (cyI, 10, .inl (fun _ => 0))), ((u6.1 3), .inl (cyI, 10, .inl (fun _ => 0))), ((u6.1 4), .inl (cyI, 10, .inl (fun _ => 0))), ((u6.1 5), .inl (cyI, 60, .inl (fun _ => 0))), ((u6.1 6), .inl (cyI, 60, .inl (fun _ => 0))), ((u6.1 7), .inl (cyI, 60, .inl (fun _ => 0))), (q7, .inr (5, [.ref q2, .ref q4, .ref q5])), (q8, .inr (3, [.ref q2, .ref q4, .ref q7, .ref (u9.1 0), .ref (u9.1 1), .int 0, .ref (u9.1 2), .int 0])), ((u9.1 0), .inl (cyI, 10, .inl (fun _ => 0))), ((u9.1 1), .inl (cyI, 10, .inl (fun _ => 0))), ((u9.1 2), .inl (cyI, 16, .inl (fun _ => 0))), (q10, .inr (8, [.null, .null, .null, .null, .null, .int 0, .int 0, .int 0, .int 0, .int 0, .int 0, .int 0]))]) E iX8 tyX8 tyX8_ok wq84 wq85 wq86 hP hD hS hA rfl [.null, .null, .null, .null, .null, .int 0, .int 0, .int 0, .int 0, .int 0, .int 0, .int 0] (by decide +kernel) ⟨rfl, rfl⟩ ⟨Nat.le_of_ble_eq_true rfl, Nat.le_of_ble_eq_true rfl⟩ (fun _ => rfl) dX11_init_101 (fun q10 H hP hD hS => ?_)
  refine lv_dup hx hb dX11_init_104 rfl ?_
  refine lv_aload_n hx hb dX11_init_105 rfl (lv_at hl 0 rfl) ?_
  refine x_get E iX11 hP 0 rfl rfl 0 (by decide) wq4 rfl dX11_init_106 ?_
  refine x_Iv (rest := [.ref q10, .ref h0]) (ws' := fun u11 => [(h0, .inr (11, [.ref q1, v0_1, v0_2, v0_3, v0_4, .ref q2, .ref q4, .ref q5, .ref q7, .ref q8, v0_10, v0_11, v0_12, v0_13, v0_14, v0_15])), (q1, .inl (cyI, 400, .inl (fun _ => 0))), (q2, .inr (0, [.ref (u3.1 0), .ref (u3.1 1), .ref (u3.1 2), .ref (u3.1 3), .ref (u3.1 4), .ref (u3.1 5), .ref (u3.1 6), .ref (u3.1 7), .ref (u3.1 8), .ref (u3.1 9), .ref (u3.1 10), .ref (u3.1 11), .int 3, .int 3])), ((u3.1 0), .inl (cyI, 512, .inl (u3.2 0))), ((u3.1 1), .inl (cyI, 512, .inl (u3.2 1))), ((u3.1 2), .inl (cyI, 512, .inl (u3.2 2))), ((u3.1 3), .inl (cyI, 512, .inl (u3.2 3))), ((u3.1 4), .inl (cyI, 512, .inl (u3.2 4))), ((u3.1 5), .inl (cyI, 512, .inl (u3.2 5))), ((u3.1 6), .inl (cyI, 512, .inl (u3.2 6))), ((u3.1 7), .inl (cyI, 512, .inl (u3.2 7))), ((u3.1 8), .inl (cyI, 512, .inl (u3.2 8))), ((u3.1 9), .inl (cyI, 512, .inl (u3.2 9))), ((u3.1 10), .inl (cyI, 512, .inl (fun _ => 0))), ((u3.1 11), .inl (cyI, 512, .inl (u3.2 10))), (q4, .inr (7, [.ref q2])), (q5, .inr (9, [.ref q2, .ref (u6.1 0), .ref (u6.1 1), .ref (u6.1 2), .ref (u6.1 3), .ref (u6.1 4), .ref (u6.1 5), .ref (u6.1 6), .ref (u6.1 7), .int 0, .int 0, .int 0, .int 0, .int 0, .int 0])), ((u6.1 0), .inl (cyI, 10, .inl (fun _ => 0))), ((u6.1 1), .inl (cyI, 10, .inl (fun _ => 0))), ((u6.1 2), .inl (cyI, 10, .inl (fun _ => 0))), ((u6.1 3), .inl (cyI, 10, .inl (fun _ => 0))), ((u6.1 4), .inl (cyI, 10, .inl (fun _ => 0))), ((u6.1 5), .inl (cyI, 60, .inl (fun _ => 0))), ((u6.1 6), .inl (cyI, 60, .inl (fun _ => 0))), ((u6.1 7), .inl (cyI, 60, .inl (fun _ => 0))), (q7, .inr (5, [.ref q2, .ref q4, .ref q5])), (q8, .inr (3, [.ref q2, .ref q4, .ref q7, .ref (u9.1 0), .ref (u9.1 1), .int 0, .ref (u9.1 2), .int 0])), ((u9.1 0), .inl (cyI, 10, .inl (fun _ => 0))), ((u9.1 1), .inl (cyI, 10, .inl (fun _ => 0))), ((u9.1 2), .inl (cyI, 16, .inl (fun _ => 0))), (q10, .inr (8, [.ref q1, .ref (u11.1 0), .ref (u11.1 1), .ref (u11.1 2), .ref (u11.1 3), .int 0, .int 0, .int 0, .int 0, .int 0, .int 0, .int 0])), ((u11.1 0), .inl (cyI, 25, .inl (u11.2 0))), ((u11.1 1), .inl (cyI, 401, .inl (fun _ => 0))), ((u11.1 2), .inl (cyI, 401, .inl (fun _ => 0))), ((u11.1 3), .inl (cyI, 401, .inl (fun _ => 0)))]) (wr := [(h0, .inr (11, [.ref q1, v0_1, v0_2, v0_3, v0_4, .ref q2, .ref q4, .ref q5, .ref q7, .ref q8, v0_10, v0_11, v0_12, v0_13, v0_14, v0_15])), (q1, .inl (cyI, 400, .inl (fun _ => 0))), (q2, .inr (0, [.ref (u3.1 0), .ref (u3.1 1), .ref (u3.1 2), .ref (u3.1 3), .ref (u3.1 4), .ref (u3.1 5), .ref (u3.1 6), .ref (u3.1 7), .ref (u3.1 8), .ref (u3.1 9), .ref (u3.1 10), .ref (u3.1 11), .int 3, .int 3])), ((u3.1 0), .inl (cyI, 512, .inl (u3.2 0))), ((u3.1 1), .inl (cyI, 512, .inl (u3.2 1))), ((u3.1 2), .inl (cyI, 512, .inl (u3.2 2))), ((u3.1 3), .inl (cyI, 512, .inl (u3.2 3))), ((u3.1 4), .inl (cyI, 512, .inl (u3.2 4))), ((u3.1 5), .inl (cyI, 512, .inl (u3.2 5))), ((u3.1 6), .inl (cyI, 512, .inl (u3.2 6))), ((u3.1 7), .inl (cyI, 512, .inl (u3.2 7))), ((u3.1 8), .inl (cyI, 512, .inl (u3.2 8))), ((u3.1 9), .inl (cyI, 512, .inl (u3.2 9))), ((u3.1 10), .inl (cyI, 512, .inl (fun _ => 0))), ((u3.1 11), .inl (cyI, 512, .inl (u3.2 10))), (q4, .inr (7, [.ref q2])), (q5, .inr (9, [.ref q2, .ref (u6.1 0), .ref (u6.1 1), .ref (u6.1 2), .ref (u6.1 3), .ref (u6.1 4), .ref (u6.1 5), .ref (u6.1 6), .ref (u6.1 7), .int 0, .int 0, .int 0, .int 0, .int 0, .int 0])), ((u6.1 0), .inl (cyI, 10, .inl (fun _ => 0))), ((u6.1 1), .inl (cyI, 10, .inl (fun _ => 0))), ((u6.1 2), .inl (cyI, 10, .inl (fun _ => 0))), ((u6.1 3), .inl (cyI, 10, .inl (fun _ => 0))), ((u6.1 4), .inl (cyI, 10, .inl (fun _ => 0))), ((u6.1 5), .inl (cyI, 60, .inl (fun _ => 0))), ((u6.1 6), .inl (cyI, 60, .inl (fun _ => 0))), ((u6.1 7), .inl (cyI, 60, .inl (fun _ => 0))), (q7, .inr (5, [.ref q2, .ref q4, .ref q5])), (q8, .inr (3, [.ref q2, .ref q4, .ref q7, .ref (u9.1 0), .ref (u9.1 1), .int 0, .ref (u9.1 2), .int 0])), ((u9.1 0), .inl (cyI, 10, .inl (fun _ => 0))), ((u9.1 1), .inl (cyI, 10, .inl (fun _ => 0))), ((u9.1 2), .inl (cyI, 16, .inl (fun _ => 0)))]) E (mX8_init l D cyI cyJ Z q10 q1 (.null) (.null) (.null) (.null) (.null) (.int 0) (.int 0) (.int 0) (.int 0) (.int 0) (.int 0) (.int 0)) kX8_init wq93 wq94 rfl ⟨rfl, rfl, Nat.le_of_ble_eq_true rfl, Nat.le_of_ble_eq_true rfl⟩ hP hD hS hA [30] [0, 1, 2, 3, 4, 5, 6, 7, 8, 9, 10, 11, 12, 13, 14, 15, 16, 17, 18, 19, 20, 21, 22, 23, 24, 25, 26, 27, 28, 29] rfl rfl (by decide) (fun _ => rfl) hl.1 rfl (Nat.le_of_ble_eq_true rfl) dX11_init_109 ⟨rfl, rfl⟩ ⟨Nat.le_of_ble_eq_true rfl, Nat.le_of_ble_eq_true rfl⟩ (fun u11 H locs hP hD hS => ?_)
  refine x_putF (ws' := [(h0, .inr (11, [.ref q1, v0_1, v0_2, v0_3, v0_4, .ref q2, .ref q4, .ref q5, .ref q7, .ref q8, .ref q10, v0_11, v0_12, v0_13, v0_14, v0_15])), (q1, .inl (cyI, 400, .inl (fun _ => 0))), (q2, .inr (0, [.ref (u3.1 0), .ref (u3.1 1), .ref (u3.1 2), .ref (u3.1 3), .ref (u3.1 4), .ref (u3.1 5), .ref (u3.1 6), .ref (u3.1 7), .ref (u3.1 8), .ref (u3.1 9), .ref (u3.1 10), .ref (u3.1 11), .int 3, .int 3])), ((u3.1 0), .inl (cyI, 512, .inl (u3.2 0))), ((u3.1 1), .inl (cyI, 512, .inl (u3.2 1))), ((u3.1 2), .inl (cyI, 512, .inl (u3.2 2))), ((u3.1 3), .inl (cyI, 512, .inl (u3.2 3))), ((u3.1 4), .inl (cyI, 512, .inl (u3.2 4))), ((u3.1 5), .inl (cyI, 512, .inl (u3.2 5))), ((u3.1 6), .inl (cyI, 512, .inl (u3.2 6))), ((u3.1 7), .inl (cyI, 512, .inl (u3.2 7))), ((u3.1 8), .inl (cyI, 512, .inl (u3.2 8))), ((u3.1 9), .inl (cyI, 512, .inl (u3.2 9))), ((u3.1 10), .inl (cyI, 512, .inl (fun _ => 0))), ((u3.1 11), .inl (cyI, 512, .inl (u3.2 10))), (q4, .inr (7, [.ref q2])), (q5, .inr (9, [.ref q2, .ref (u6.1 0), .ref (u6.1 1), .ref (u6.1 2), .ref (u6.1 3), .ref (u6.1 4), .ref (u6.1 5), .ref (u6.1 6), .ref (u6.1 7), .int 0, .int 0, .int 0, .int 0, .int 0, .int 0])), ((u6.1 0), .inl (cyI, 10, .inl (fun _ => 0))), ((u6.1 1), .inl (cyI, 10, .inl (fun _ => 0))), ((u6.1 2), .inl (cyI, 10, .inl (fun _ => 0))), ((u6.1 3), .inl (cyI, 10, .inl (fun _ => 0))), ((u6.1 4), .inl (cyI, 10, .inl (fun _ => 0))), ((u6.1 5), .inl (cyI, 60, .inl (fun _ => 0))), ((u6.1 6), .inl (cyI, 60, .inl (fun _ => 0))), ((u6.1 7), .inl (cyI, 60, .inl (fun _ => 0))), (q7, .inr (5, [.ref q2, .ref q4, .ref q5])), (q8, .inr (3, [.ref q2, .ref q4, .ref q7, .ref (u9.1 0), .ref (u9.1 1), .int 0, .ref (u9.1 2), .int 0])), ((u9.1 0), .inl (cyI, 10, .inl (fun _ => 0))), ((u9.1 1), .inl (cyI, 10, .inl (fun _ => 0))), ((u9.1 2), .inl (cyI, 16, .inl (fun _ => 0))), (q10, .inr (8, [.ref q1, .ref (u11.1 0), .ref (u11.1 1), .ref (u11.1 2), .ref (u11.1 3), .int 0, .int 0, .int 0, .int 0, .int 0, .int 0, .int 0])), ((u11.1 0), .inl (cyI, 25, .inl (u11.2 0))), ((u11.1 1), .inl (cyI, 401, .inl (fun _ => 0))), ((u11.1 2), .inl (cyI, 401, .inl (fun _ => 0))), ((u11.1 3), .inl (cyI, 401, .inl (fun _ => 0)))]) E iX11 tyX11 tyX11_ok nmX11 hP hD hS hnm 0 rfl rfl 10 (by decide) wq95 rfl rfl rfl rfl rfl rfl dX11_init_112 (fun H locs hP hD hS => ?_)
  refine lv_aload_n hx hb dX11_init_115 rfl (lv_at hl 0 rfl) ?_
  refine x_new (wg := fun q12 => [(h0, .inr (11, [.ref q1, v0_1, v0_2, v0_3, v0_4, .ref q2, .ref q4, .ref q5, .ref q7, .ref q8, .ref q10, v0_11, v0_12, v0_13, v0_14, v0_15])), (q1, .inl (cyI, 400, .inl (fun _ => 0))), (q2, .inr (0, [.ref (u3.1 0), .ref (u3.1 1), .ref (u3.1 2), .ref (u3.1 3), .ref (u3.1 4), .ref (u3.1 5), .ref (u3.1 6), .ref (u3.1 7), .ref (u3.1 8), .ref (u3.1 9), .ref (u3.1 10), .ref (u3.1 11), .int 3, .int 3])), ((u3.1 0), .inl (cyI, 512, .inl (u3.2 0))), ((u3.1 1), .inl (cyI, 512, .inl (u3.2 1))), ((u3.1 2), .inl (cyI, 512, .inl (u3.2 2))), ((u3.1 3), .inl (cyI, 512, .inl (u3.2 3))), ((u3.1 4), .inl (cyI, 512, .inl (u3.2 4))), ((u3.1 5), .inl (cyI, 512, .inl (u3.2 5))), ((u3.1 6), .inl (cyI, 512, .inl (u3.2 6))), ((u3.1 7), .inl (cyI, 512, .inl (u3.2 7))), ((u3.1 8), .inl (cyI, 512, .inl (u3.2 8))), ((u3.1 9), .inl (cyI, 512, .inl (u3.2 9))), ((u3.1 10), .inl (cyI, 512, .inl (fun _ => 0))), ((u3.1 11), .inl (cyI, 512, .inl (u3.2 10))), (q4, .inr (7, [.ref q2])), (q5, .inr (9, [.ref q2, .ref (u6.1 0), .ref (u6.1 1), .ref (u6.1 2), .ref (u6.1 3), .ref (u6.1 4), .ref (u6.1 5), .ref (u6.1 6), .ref (u6.1 7), .int 0, .int 0, .int 0, .int 0, .int 0, .int 0])), ((u6.1 0), .inl (cyI, 10, .inl (fun _ => 0))), ((u6.1 1), .inl (cyI, 10, .inl (fun _ => 0))), ((u6.1 2), .inl (cyI, 10, .inl (fun _ => 0))), ((u6.1 3), .inl (cyI, 10, .inl (fun _ => 0))), ((u6.1 4), .inl (cyI, 10, .inl (fun _ => 0))), ((u6.1 5), .inl (cyI, 60, .inl (fun _ => 0))), ((u6.1 6), .inl (cyI, 60, .inl (fun _ => 0))), ((u6.1 7), .inl (cyI, 60, .inl (fun _ => 0))), (q7, .inr (5, [.ref q2, .ref q4, .ref q5])), (q8, .inr (3, [.ref q2, .ref q4, .ref q7, .ref (u9.1 0), .ref (u9.1 1), .int 0, .ref (u9.1 2), .int 0])), ((u9.1 0), .inl (cyI, 10, .inl (fun _ => 0))), ((u9.1 1), .inl (cyI, 10, .inl (fun _ => 0))), ((u9.1 2), .inl (cyI, 16, .inl (fun _ => 0))), (q10, .inr (8, [.ref q1, .ref (u11.1 0), .ref (u11.1 1), .ref (u11.1 2), .ref (u11.1 3), .int 0, .int 0, .int 0, .int 0, .int 0, .int 0, .int 0])), ((u11.1 0), .inl (cyI, 25, .inl (u11.2 0))), ((u11.1 1), .inl (cyI, 401, .inl (fun _ => 0))), ((u11.1 2), .inl (cyI, 401, .inl (fun _ => 0))), ((u11.1 3), .inl (cyI, 401, .inl (fun _ => 0))), (q12, .inr (6, [.null, .null, .null, .null, .null, .null, .int 0, .null, .int 0]))]) E iX6 tyX6 tyX6_ok wq96 wq97 wq98 hP hD hS hA rfl [.null, .null, .null, .null, .null, .null, .int 0, .null, .int 0] (by decide +kernel) ⟨rfl, rfl⟩ ⟨Nat.le_of_ble_eq_true rfl, Nat.le_of_ble_eq_true rfl⟩ (fun _ => rfl) dX11_init_116 (fun q12 H hP hD hS => ?_)
  refine lv_dup hx hb dX11_init_119 rfl ?_
  refine lv_aload_n hx hb dX11_init_120 rfl (lv_at hl 0 rfl) ?_
  refine x_get E iX11 hP 0 rfl rfl 10 (by decide) wq95 rfl dX11_init_121 ?_
  refine lv_aload_n hx hb dX11_init_124 rfl (lv_at hl 0 rfl) ?_
  refine x_get E iX11 hP 0 rfl rfl 5 (by decide) wq36 rfl dX11_init_125 ?_
  refine lv_aload_n hx hb dX11_init_128 rfl (lv_at hl 0 rfl) ?_
  refine x_get E iX11 hP 0 rfl rfl 6 (by decide) wq44 rfl dX11_init_129 ?_
  refine lv_aload_n hx hb dX11_init_132 rfl (lv_at hl 0 rfl) ?_
  refine x_get E iX11 hP 0 rfl rfl 7 (by decide) wq60 rfl dX11_init_133 ?_
  refine x_Iv (rest := [.ref q12, .ref h0]) (ws' := fun u13 => [(h0, .inr (11, [.ref q1, v0_1, v0_2, v0_3, v0_4, .ref q2, .ref q4, .ref q5, .ref q7, .ref q8, .ref q10, v0_11, v0_12, v0_13, v0_14, v0_15])), (q1, .inl (cyI, 400, .inl (fun _ => 0))), (q2, .inr (0, [.ref (u3.1 0), .ref (u3.1 1), .ref (u3.1 2), .ref (u3.1 3), .ref (u3.1 4), .ref (u3.1 5), .ref (u3.1 6), .ref (u3.1 7), .ref (u3.1 8), .ref (u3.1 9), .ref (u3.1 10), .ref (u3.1 11), .int 3, .int 3])), ((u3.1 0), .inl (cyI, 512, .inl (u3.2 0))), ((u3.1 1), .inl (cyI, 512, .inl (u3.2 1))), ((u3.1 2), .inl (cyI, 512, .inl (u3.2 2))), ((u3.1 3), .inl (cyI, 512, .inl (u3.2 3))), ((u3.1 4), .inl (cyI, 512, .inl (u3.2 4))), ((u3.1 5), .inl (cyI, 512, .inl (u3.2 5))), ((u3.1 6), .inl (cyI, 512, .inl (u3.2 6))), ((u3.1 7), .inl (cyI, 512, .inl (u3.2 7))), ((u3.1 8), .inl (cyI, 512, .inl (u3.2 8))), ((u3.1 9), .inl (cyI, 512, .inl (u3.2 9))), ((u3.1 10), .inl (cyI, 512, .inl (fun _ => 0))), ((u3.1 11), .inl (cyI, 512, .inl (u3.2 10))), (q4, .inr (7, [.ref q2])), (q5, .inr (9, [.ref q2, .ref (u6.1 0), .ref (u6.1 1), .ref (u6.1 2), .ref (u6.1 3), .ref (u6.1 4), .ref (u6.1 5), .ref (u6.1 6), .ref (u6.1 7), .int 0, .int 0, .int 0, .int 0, .int 0, .int 0])), ((u6.1 0), .inl (cyI, 10, .inl (fun _ => 0))), ((u6.1 1), .inl (cyI, 10, .inl (fun _ => 0))), ((u6.1 2), .inl (cyI, 10, .inl (fun _ => 0))), ((u6.1 3), .inl (cyI, 10, .inl (fun _ => 0))), ((u6.1 4), .inl (cyI, 10, .inl (fun _ => 0))), ((u6.1 5), .inl (cyI, 60, .inl (fun _ => 0))), ((u6.1 6), .inl (cyI, 60, .inl (fun _ => 0))), ((u6.1 7), .inl (cyI, 60, .inl (fun _ => 0))), (q7, .inr (5, [.ref q2, .ref q4, .ref q5])), (q8, .inr (3, [.ref q2, .ref q4, .ref q7, .ref (u9.1 0), .ref (u9.1 1), .int 0, .ref (u9.1 2), .int 0])), ((u9.1 0), .inl (cyI, 10, .inl (fun _ => 0))), ((u9.1 1), .inl (cyI, 10, .inl (fun _ => 0))), ((u9.1 2), .inl (cyI, 16, .inl (fun _ => 0))), (q10, .inr (8, [.ref q1, .ref (u11.1 0), .ref (u11.1 1), .ref (u11.1 2), .ref (u11.1 3), .int 0, .int 0, .int 0, .int 0, .int 0, .int 0, .int 0])), ((u11.1 0), .inl (cyI, 25, .inl (u11.2 0))), ((u11.1 1), .inl (cyI, 401, .inl (fun _ => 0))), ((u11.1 2), .inl (cyI, 401, .inl (fun _ => 0))), ((u11.1 3), .inl (cyI, 401, .inl (fun _ => 0))), (q12, .inr (6, [.ref q10, .ref q2, .ref q4, .ref q5, .ref (u13.1 0), .ref (u13.1 1), .int 0, .ref (u13.1 2), .int 0])), ((u13.1 0), .inl (cyI, 12, .inl (fun _ => 0))), ((u13.1 1), .inl (cyI, 12, .inl (fun _ => 0))), ((u13.1 2), .inl (cyI, 400, .inl (fun _ => 0)))]) (wr := [(h0, .inr (11, [.ref q1, v0_1, v0_2, v0_3, v0_4, .ref q2, .ref q4, .ref q5, .ref q7, .ref q8, .ref q10, v0_11, v0_12, v0_13, v0_14, v0_15])), (q1, .inl (cyI, 400, .inl (fun _ => 0))), (q2, .inr (0, [.ref (u3.1 0), .ref (u3.1 1), .ref (u3.1 2), .ref (u3.1 3), .ref (u3.1 4), .ref (u3.1 5), .ref (u3.1 6), .ref (u3.1 7), .ref (u3.1 8), .ref (u3.1 9), .ref (u3.1 10), .ref (u3.1 11), .int 3, .int 3])), ((u3.1 0), .inl (cyI, 512, .inl (u3.2 0))), ((u3.1 1), .inl (cyI, 512, .inl (u3.2 1))), ((u3.1 2), .inl (cyI, 512, .inl (u3.2 2))), ((u3.1 3), .inl (cyI, 512, .inl (u3.2 3))), ((u3.1 4), .inl (cyI, 512, .inl (u3.2 4))), ((u3.1 5), .inl (cyI, 512, .inl (u3.2 5))), ((u3.1 6), .inl (cyI, 512, .inl (u3.2 6))), ((u3.1 7), .inl (cyI, 512, .inl (u3.2 7))), ((u3.1 8), .inl (cyI, 512, .inl (u3.2 8))), ((u3.1 9), .inl (cyI, 512, .inl (u3.2 9))), ((u3.1 10), .inl (cyI, 512, .inl (fun _ => 0))), ((u3.1 11), .inl (cyI, 512, .inl (u3.2 10))), (q4, .inr (7, [.ref q2])), (q5, .inr (9, [.ref q2, .ref (u6.1 0), .ref (u6.1 1), .ref (u6.1 2), .ref (u6.1 3), .ref (u6.1 4), .ref (u6.1 5), .ref (u6.1 6), .ref (u6.1 7), .int 0, .int 0, .int 0, .int 0, .int 0, .int 0])), ((u6.1 0), .inl (cyI, 10, .inl (fun _ => 0))), ((u6.1 1), .inl (cyI, 10, .inl (fun _ => 0))), ((u6.1 2), .inl (cyI, 10, .inl (fun _ => 0))), ((u6.1 3), .inl (cyI, 10, .inl (fun _ => 0))), ((u6.1 4), .inl (cyI, 10, .inl (fun _ => 0))), ((u6.1 5), .inl (cyI, 60, .inl (fun _ => 0))), ((u6.1 6), .inl (cyI, 60, .inl (fun _ => 0))), ((u6.1 7), .inl (cyI, 60, .inl (fun _ => 0))), (q7, .inr (5, [.ref q2, .ref q4, .ref q5])), (q8, .inr (3, [.ref q2, .ref q4, .ref q7, .ref (u9.1 0), .ref (u9.1 1), .int 0, .ref (u9.1 2), .int 0])), ((u9.1 0), .inl (cyI, 10, .inl (fun _ => 0))), ((u9.1 1), .inl (cyI, 10, .inl (fun _ => 0))), ((u9.1 2), .inl (cyI, 16, .inl (fun _ => 0))), (q10, .inr (8, [.ref q1, .ref (u11.1 0), .ref (u11.1 1), .ref (u11.1 2), .ref (u11.1 3), .int 0, .int 0, .int 0, .int 0, .int 0, .int 0, .int 0])), ((u11.1 0), .inl (cyI, 25, .inl (u11.2 0))), ((u11.1 1), .inl (cyI, 401, .inl (fun _ => 0))), ((u11.1 2), .inl (cyI, 401, .inl (fun _ => 0))), ((u11.1 3), .inl (cyI, 401, .inl (fun _ => 0)))]) E (mX6_init l D cyI cyJ Z q12 q10 q2 q4 q5 (.null) (.null) (.null) (.null) (.null) (.null) (.int 0) (.null) (.int 0)) kX6_init wq107 wq108 rfl ⟨rfl, rfl, Nat.le_of_ble_eq_true rfl, Nat.le_of_ble_eq_true rfl⟩ hP hD hS hA [35] [0, 1, 2, 3, 4, 5, 6, 7, 8, 9, 10, 11, 12, 13, 14, 15, 16, 17, 18, 19, 20, 21, 22, 23, 24, 25, 26, 27, 28, 29, 30, 31, 32, 33, 34] rfl rfl (by decide) (fun _ => rfl) hl.1 rfl (Nat.le_of_ble_eq_true rfl) dX11_init_136 ⟨rfl, rfl⟩ ⟨Nat.le_of_ble_eq_true rfl, Nat.le_of_ble_eq_true rfl⟩ (fun u13 H locs hP hD hS => ?_)
  refine x_putF (ws' := [(h0, .inr (11, [.ref q1, v0_1, v0_2, v0_3, v0_4, .ref q2, .ref q4, .ref q5, .ref q7, .ref q8, .ref q10, .ref q12, v0_12, v0_13, v0_14, v0_15])), (q1, .inl (cyI, 400, .inl (fun _ => 0))), (q2, .inr (0, [.ref (u3.1 0), .ref (u3.1 1), .ref (u3.1 2), .ref (u3.1 3), .ref (u3.1 4), .ref (u3.1 5), .ref (u3.1 6), .ref (u3.1 7), .ref (u3.1 8), .ref (u3.1 9), .ref (u3.1 10), .ref (u3.1 11), .int 3, .int 3])), ((u3.1 0), .inl (cyI, 512, .inl (u3.2 0))), ((u3.1 1), .inl (cyI, 512, .inl (u3.2 1))), ((u3.1 2), .inl (cyI, 512, .inl (u3.2 2))), ((u3.1 3), .inl (cyI, 512, .inl (u3.2 3))), ((u3.1 4), .inl (cyI, 512, .inl (u3.2 4))), ((u3.1 5), .inl (cyI, 512, .inl (u3.2 5))), ((u3.1 6), .inl (cyI, 512, .inl (u3.2 6))), ((u3.1 7), .inl (cyI, 512, .inl (u3.2 7))), ((u3.1 8), .inl (cyI, 512, .inl (u3.2 8))), ((u3.1 9), .inl (cyI, 512, .inl (u3.2 9))), ((u3.1 10), .inl (cyI, 512, .inl (fun _ => 0))), ((u3.1 11), .inl (cyI, 512, .inl (u3.2 10))), (q4, .inr (7, [.ref q2])), (q5, .inr (9, [.ref q2, .ref (u6.1 0), .ref (u6.1 1), .ref (u6.1 2), .ref (u6.1 3), .ref (u6.1 4), .ref (u6.1 5), .ref (u6.1 6), .ref (u6.1 7), .int 0, .int 0, .int 0, .int 0, .int 0, .int 0])), ((u6.1 0), .inl (cyI, 10, .inl (fun _ => 0))), ((u6.1 1), .inl (cyI, 10, .inl (fun _ => 0))), ((u6.1 2), .inl (cyI, 10, .inl (fun _ => 0))), ((u6.1 3), .inl (cyI, 10, .inl (fun _ => 0))), ((u6.1 4), .inl (cyI, 10, .inl (fun _ => 0))), ((u6.1 5), .inl (cyI, 60, .inl (fun _ => 0))), ((u6.1 6), .inl (cyI, 60, .inl (fun _ => 0))), ((u6.1 7), .inl (cyI, 60, .inl (fun _ => 0))), (q7, .inr (5, [.ref q2, .ref q4, .ref q5])), (q8, .inr (3, [.ref q2, .ref q4, .ref q7, .ref (u9.1 0), .ref (u9.1 1), .int 0, .ref (u9.1 2), .int 0])), ((u9.1 0), .inl (cyI, 10, .inl (fun _ => 0))), ((u9.1 1), .inl (cyI, 10, .inl (fun _ => 0))), ((u9.1 2), .inl (cyI, 16, .inl (fun _ => 0))), (q10, .inr (8, [.ref q1, .ref (u11.1 0), .ref (u11.1 1), .ref (u11.1 2), .ref (u11.1 3), .int 0, .int 0, .int 0, .int 0, .int 0, .int 0, .int 0])), ((u11.1 0), .inl (cyI, 25, .inl (u11.2 0))), ((u11.1 1), .inl (cyI, 401, .inl (fun _ => 0))), ((u11.1 2), .inl (cyI, 401, .inl (fun _ => 0))), ((u11.1 3), .inl (cyI, 401, .inl (fun _ => 0))), (q12, .inr (6, [.ref q10, .ref q2, .ref q4, .ref q5, .ref (u13.1 0), .ref (u13.1 1), .int 0, .ref (u13.1 2), .int 0])), ((u13.1 0), .inl (cyI, 12, .inl (fun _ => 0))), ((u13.1 1), .inl (cyI, 12, .inl (fun _ => 0))), ((u13.1 2), .inl (cyI, 400, .inl (fun _ => 0)))]) E iX11 tyX11 tyX11_ok nmX11 hP hD hS hnm 0 rfl rfl 11 (by decide) wq109 rfl rfl rfl rfl rfl rfl dX11_init_139 (fun H locs hP hD hS => ?_)
  refine lv_aload_n hx hb dX11_init_142 rfl (lv_at hl 0 rfl) ?_
  refine x_new (wg := fun q14 => [(h0, .inr (11, [.ref q1, v0_1, v0_2, v0_3, v0_4, .ref q2, .ref q4, .ref q5, .ref q7, .ref q8, .ref q10, .ref q12, v0_12, v0_13, v0_14, v0_15])), (q1, .inl (cyI, 400, .inl (fun _ => 0))), (q2, .inr (0, [.ref (u3.1 0), .ref (u3.1 1), .ref (u3.1 2), .ref (u3.1 3), .ref (u3.1 4), .ref (u3.1 5), .ref (u3.1 6), .ref (u3.1 7), .ref (u3.1 8), .ref (u3.1 9), .ref (u3.1 10), .ref (u3.1 11), .int 3, .int 3])), ((u3.1 0), .inl (cyI, 512, .inl (u3.2 0))), ((u3.1 1), .inl (cyI, 512, .inl (u3.2 1))), ((u3.1 2), .inl (cyI, 512, .inl (u3.2 2))), ((u3.1 3), .inl (cyI, 512, .inl (u3.2 3))), ((u3.1 4), .inl (cyI, 512, .inl (u3.2 4))), ((u3.1 5), .inl (cyI, 512, .inl (u3.2 5))), ((u3.1 6), .inl (cyI, 512, .inl (u3.2 6))), ((u3.1 7), .inl (cyI, 512, .inl (u3.2 7))), ((u3.1 8), .inl (cyI, 512, .inl (u3.2 8))), ((u3.1 9), .inl (cyI, 512, .inl (u3.2 9))), ((u3.1 10), .inl (cyI, 512, .inl (fun _ => 0))), ((u3.1 11), .inl (cyI, 512, .inl (u3.2 10))), (q4, .inr (7, [.ref q2])), (q5, .inr (9, [.ref q2, .ref (u6.1 0), .ref (u6.1 1), .ref (u6.1 2), .ref (u6.1 3), .ref (u6.1 4), .ref (u6.1 5), .ref (u6.1 6), .ref (u6.1 7), .int 0, .int 0, .int 0, .int 0, .int 0, .int 0])), ((u6.1 0), .inl (cyI, 10, .inl (fun _ => 0))), ((u6.1 1), .inl (cyI, 10, .inl (fun _ => 0))), ((u6.1 2), .inl (cyI, 10, .inl (fun _ => 0))), ((u6.1 3), .inl (cyI, 10, .inl (fun _ => 0))), ((u6.1 4), .inl (cyI, 10, .inl (fun _ => 0))), ((u6.1 5), .inl (cyI, 60, .inl (fun _ => 0))), ((u6.1 6), .inl (cyI, 60, .inl (fun _ => 0))), ((u6.1 7), .inl (cyI, 60, .inl (fun _ => 0))), (q7, .inr (5, [.ref q2, .ref q4, .ref q5])), (q8, .inr (3, [.ref q2, .ref q4, .ref q7, .ref (u9.1 0), .ref (u9.1 1), .int 0, .ref (u9.1 2), .int 0])), ((u9.1 0), .inl (cyI, 10, .inl (fun _ => 0))), ((u9.1 1), .inl (cyI, 10, .inl (fun _ => 0))), ((u9.1 2), .inl (cyI, 16, .inl (fun _ => 0))), (q10, .inr (8, [.ref q1, .ref (u11.1 0), .ref (u11.1 1), .ref (u11.1 2), .ref (u11.1 3), .int 0, .int 0, .int 0, .int 0, .int 0, .int 0, .int 0])), ((u11.1 0), .inl (cyI, 25, .inl (u11.2 0))), ((u11.1 1), .inl (cyI, 401, .inl (fun _ => 0))), ((u11.1 2), .inl (cyI, 401, .inl (fun _ => 0))), ((u11.1 3), .inl (cyI, 401, .inl (fun _ => 0))), (q12, .inr (6, [.ref q10, .ref q2, .ref q4, .ref q5, .ref (u13.1 0), .ref (u13.1 1), .int 0, .ref (u13.1 2), .int 0])), ((u13.1 0), .inl (cyI, 12, .inl (fun _ => 0))), ((u13.1 1), .inl (cyI, 12, .inl (fun _ => 0))), ((u13.1 2), .inl (cyI, 400, .inl (fun _ => 0))), (q14, .inr (4, [.null, .null, .null, .null, .null, .null]))]) E iX4 tyX4 tyX4_ok wq110 wq111 wq112 hP hD hS hA rfl [.null, .null, .null, .null, .null, .null] (by decide +kernel) ⟨rfl, rfl⟩ ⟨Nat.le_of_ble_eq_true rfl, Nat.le_of_ble_eq_true rfl⟩ (fun _ => rfl) dX11_init_143 (fun q14 H hP hD hS => ?_)
  refine lv_dup hx hb dX11_init_146 rfl ?_
  refine lv_aload_n hx hb dX11_init_147 rfl (lv_at hl 0 rfl) ?_
  refine x_get E iX11 hP 0 rfl rfl 10 (by decide) wq95 rfl dX11_init_148 ?_
  refine lv_aload_n hx hb dX11_init_151 rfl (lv_at hl 0 rfl) ?_
  refine x_get E iX11 hP 0 rfl rfl 11 (by decide) wq109 rfl dX11_init_152 ?_
  refine lv_aload_n hx hb dX11_init_155 rfl (lv_at hl 0 rfl) ?_
  refine x_get E iX11 hP 0 rfl rfl 5 (by decide) wq36 rfl dX11_init_156 ?_
  refine lv_aload_n hx hb dX11_init_159 rfl (lv_at hl 0 rfl) ?_
  refine x_get E iX11 hP 0 rfl rfl 6 (by decide) wq44 rfl dX11_init_160 ?_
  refine lv_aload_n hx hb dX11_init_163 rfl (lv_at hl 0 rfl) ?_
  refine x_get E iX11 hP 0 rfl rfl 7 (by decide) wq60 rfl dX11_init_164 ?_
  refine lv_aload_n hx hb dX11_init_167 rfl (lv_at hl 0 rfl) ?_
  refine x_get E iX11 hP 0 rfl rfl 9 (by decide) wq83 rfl dX11_init_168 ?_
  refine x_Iv (rest := [.ref q14, .ref h0]) (ws' := fun _ => [(h0, .inr (11, [.ref q1, v0_1, v0_2, v0_3, v0_4, .ref q2, .ref q4, .ref q5, .ref q7, .ref q8, .ref q10, .ref q12, v0_12, v0_13, v0_14, v0_15])), (q1, .inl (cyI, 400, .inl (fun _ => 0))), (q2, .inr (0, [.ref (u3.1 0), .ref (u3.1 1), .ref (u3.1 2), .ref (u3.1 3), .ref (u3.1 4), .ref (u3.1 5), .ref (u3.1 6), .ref (u3.1 7), .ref (u3.1 8), .ref (u3.1 9), .ref (u3.1 10), .ref (u3.1 11), .int 3, .int 3])), ((u3.1 0), .inl (cyI, 512, .inl (u3.2 0))), ((u3.1 1), .inl (cyI, 512, .inl (u3.2 1))), ((u3.1 2), .inl (cyI, 512, .inl (u3.2 2))), ((u3.1 3), .inl (cyI, 512, .inl (u3.2 3))), ((u3.1 4), .inl (cyI, 512, .inl (u3.2 4))), ((u3.1 5), .inl (cyI, 512, .inl (u3.2 5))), ((u3.1 6), .inl (cyI, 512, .inl (u3.2 6))), ((u3.1 7), .inl (cyI, 512, .inl (u3.2 7))), ((u3.1 8), .inl (cyI, 512, .inl (u3.2 8))), ((u3.1 9), .inl (cyI, 512, .inl (u3.2 9))), ((u3.1 10), .inl (cyI, 512, .inl (fun _ => 0))), ((u3.1 11), .inl (cyI, 512, .inl (u3.2 10))), (q4, .inr (7, [.ref q2])), (q5, .inr (9, [.ref q2, .ref (u6.1 0), .ref (u6.1 1), .ref (u6.1 2), .ref (u6.1 3), .ref (u6.1 4), .ref (u6.1 5), .ref (u6.1 6), .ref (u6.1 7), .int 0, .int 0, .int 0, .int 0, .int 0, .int 0])), ((u6.1 0), .inl (cyI, 10, .inl (fun _ => 0))), ((u6.1 1), .inl (cyI, 10, .inl (fun _ => 0))), ((u6.1 2), .inl (cyI, 10, .inl (fun _ => 0))), ((u6.1 3), .inl (cyI, 10, .inl (fun _ => 0))), ((u6.1 4), .inl (cyI, 10, .inl (fun _ => 0))), ((u6.1 5), .inl (cyI, 60, .inl (fun _ => 0))), ((u6.1 6), .inl (cyI, 60, .inl (fun _ => 0))), ((u6.1 7), .inl (cyI, 60, .inl (fun _ => 0))), (q7, .inr (5, [.ref q2, .ref q4, .ref q5])), (q8, .inr (3, [.ref q2, .ref q4, .ref q7, .ref (u9.1 0), .ref (u9.1 1), .int 0, .ref (u9.1 2), .int 0])), ((u9.1 0), .inl (cyI, 10, .inl (fun _ => 0))), ((u9.1 1), .inl (cyI, 10, .inl (fun _ => 0))), ((u9.1 2), .inl (cyI, 16, .inl (fun _ => 0))), (q10, .inr (8, [.ref q1, .ref (u11.1 0), .ref (u11.1 1), .ref (u11.1 2), .ref (u11.1 3), .int 0, .int 0, .int 0, .int 0, .int 0, .int 0, .int 0])), ((u11.1 0), .inl (cyI, 25, .inl (u11.2 0))), ((u11.1 1), .inl (cyI, 401, .inl (fun _ => 0))), ((u11.1 2), .inl (cyI, 401, .inl (fun _ => 0))), ((u11.1 3), .inl (cyI, 401, .inl (fun _ => 0))), (q12, .inr (6, [.ref q10, .ref q2, .ref q4, .ref q5, .ref (u13.1 0), .ref (u13.1 1), .int 0, .ref (u13.1 2), .int 0])), ((u13.1 0), .inl (cyI, 12, .inl (fun _ => 0))), ((u13.1 1), .inl (cyI, 12, .inl (fun _ => 0))), ((u13.1 2), .inl (cyI, 400, .inl (fun _ => 0))), (q14, .inr (4, [.ref q10, .ref q12, .ref q2, .ref q4, .ref q5, .ref q8]))]) (wr := [(h0, .inr (11, [.ref q1, v0_1, v0_2, v0_3, v0_4, .ref q2, .ref q4, .ref q5, .ref q7, .ref q8, .ref q10, .ref q12, v0_12, v0_13, v0_14, v0_15])), (q1, .inl (cyI, 400, .inl (fun _ => 0))), (q2, .inr (0, [.ref (u3.1 0), .ref (u3.1 1), .ref (u3.1 2), .ref (u3.1 3), .ref (u3.1 4), .ref (u3.1 5), .ref (u3.1 6), .ref (u3.1 7), .ref (u3.1 8), .ref (u3.1 9), .ref (u3.1 10), .ref (u3.1 11), .int 3, .int 3])), ((u3.1 0), .inl (cyI, 512, .inl (u3.2 0))), ((u3.1 1), .inl (cyI, 512, .inl (u3.2 1))), ((u3.1 2), .inl (cyI, 512, .inl (u3.2 2))), ((u3.1 3), .inl (cyI, 512, .inl (u3.2 3))), ((u3.1 4), .inl (cyI, 512, .inl (u3.2 4))), ((u3.1 5), .inl (cyI, 512, .inl (u3.2 5))), ((u3.1 6), .inl (cyI, 512, .inl (u3.2 6))), ((u3.1 7), .inl (cyI, 512, .inl (u3.2 7))), ((u3.1 8), .inl (cyI, 512, .inl (u3.2 8))), ((u3.1 9), .inl (cyI, 512, .inl (u3.2 9))), ((u3.1 10), .inl (cyI, 512, .inl (fun _ => 0))), ((u3.1 11), .inl (cyI, 512, .inl (u3.2 10))), (q4, .inr (7, [.ref q2])), (q5, .inr (9, [.ref q2, .ref (u6.1 0), .ref (u6.1 1), .ref (u6.1 2), .ref (u6.1 3), .ref (u6.1 4), .ref (u6.1 5), .ref (u6.1 6), .ref (u6.1 7), .int 0, .int 0, .int 0, .int 0, .int 0, .int 0])), ((u6.1 0), .inl (cyI, 10, .inl (fun _ => 0))), ((u6.1 1), .inl (cyI, 10, .inl (fun _ => 0))), ((u6.1 2), .inl (cyI, 10, .inl (fun _ => 0))), ((u6.1 3), .inl (cyI, 10, .inl (fun _ => 0))), ((u6.1 4), .inl (cyI, 10, .inl (fun _ => 0))), ((u6.1 5), .inl (cyI, 60, .inl (fun _ => 0))), ((u6.1 6), .inl (cyI, 60, .inl (fun _ => 0))), ((u6.1 7), .inl (cyI, 60, .inl (fun _ => 0))), (q7, .inr (5, [.ref q2, .ref q4, .ref q5])), (q8, .inr (3, [.ref q2, .ref q4, .ref q7, .ref (u9.1 0), .ref (u9.1 1), .int 0, .ref (u9.1 2), .int 0])), ((u9.1 0), .inl (cyI, 10, .inl (fun _ => 0))), ((u9.1 1), .inl (cyI, 10, .inl (fun _ => 0))), ((u9.1 2), .inl (cyI, 16, .inl (fun _ => 0))), (q10, .inr (8, [.ref q1, .ref (u11.1 0), .ref (u11.1 1), .ref (u11.1 2), .ref (u11.1 3), .int 0, .int 0, .int 0, .int 0, .int 0, .int 0, .int 0])), ((u11.1 0), .inl (cyI, 25, .inl (u11.2 0))), ((u11.1 1), .inl (cyI, 401, .inl (fun _ => 0))), ((u11.1 2), .inl (cyI, 401, .inl (fun _ => 0))), ((u11.1 3), .inl (cyI, 401, .inl (fun _ => 0))), (q12, .inr (6, [.ref q10, .ref q2, .ref q4, .ref q5, .ref (u13.1 0), .ref (u13.1 1), .int 0, .ref (u13.1 2), .int 0])), ((u13.1 0), .inl (cyI, 12, .inl (fun _ => 0))), ((u13.1 1), .inl (cyI, 12, .inl (fun _ => 0))), ((u13.1 2), .inl (cyI, 400, .inl (fun _ => 0)))]) E (mX4_init l D cyI cyJ Z q14 q10 q12 q2 q4 q5 q8 (.null) (.null) (.null) (.null) (.null) (.null)) kX4_init wq120 wq121 rfl ⟨rfl, rfl, Nat.le_of_ble_eq_true rfl, Nat.le_of_ble_eq_true rfl⟩ hP hD hS hA [39] [0, 1, 2, 3, 4, 5, 6, 7, 8, 9, 10, 11, 12, 13, 14, 15, 16, 17, 18, 19, 20, 21, 22, 23, 24, 25, 26, 27, 28, 29, 30, 31, 32, 33, 34, 35, 36, 37, 38] rfl rfl (by decide) (fun _ => rfl) hl.1 rfl (Nat.le_of_ble_eq_true rfl) dX11_init_171 ⟨rfl, rfl⟩ ⟨Nat.le_of_ble_eq_true rfl, Nat.le_of_ble_eq_true rfl⟩ (fun _ H locs hP hD hS => ?_)
  refine x_putF (ws' := [(h0, .inr (11, [.ref q1, v0_1, v0_2, v0_3, v0_4, .ref q2, .ref q4, .ref q5, .ref q7, .ref q8, .ref q10, .ref q12, .ref q14, v0_13, v0_14, v0_15])), (q1, .inl (cyI, 400, .inl (fun _ => 0))), (q2, .inr (0, [.ref (u3.1 0), .ref (u3.1 1), .ref (u3.1 2), .ref (u3.1 3), .ref (u3.1 4), .ref (u3.1 5), .ref (u3.1 6), .ref (u3.1 7), .ref (u3.1 8), .ref (u3.1 9), .ref (u3.1 10), .ref (u3.1 11), .int 3, .int 3])), ((u3.1 0), .inl (cyI, 512, .inl (u3.2 0))), ((u3.1 1), .inl (cyI, 512, .inl (u3.2 1))), ((u3.1 2), .inl (cyI, 512, .inl (u3.2 2))), ((u3.1 3), .inl (cyI, 512, .inl (u3.2 3))), ((u3.1 4), .inl (cyI, 512, .inl (u3.2 4))), ((u3.1 5), .inl (cyI, 512, .inl (u3.2 5))), ((u3.1 6), .inl (cyI, 512, .inl (u3.2 6))), ((u3.1 7), .inl (cyI, 512, .inl (u3.2 7))), ((u3.1 8), .inl (cyI, 512, .inl (u3.2 8))), ((u3.1 9), .inl (cyI, 512, .inl (u3.2 9))), ((u3.1 10), .inl (cyI, 512, .inl (fun _ => 0))), ((u3.1 11), .inl (cyI, 512, .inl (u3.2 10))), (q4, .inr (7, [.ref q2])), (q5, .inr (9, [.ref q2, .ref (u6.1 0), .ref (u6.1 1), .ref (u6.1 2), .ref (u6.1 3), .ref (u6.1 4), .ref (u6.1 5), .ref (u6.1 6), .ref (u6.1 7), .int 0, .int 0, .int 0, .int 0, .int 0, .int 0])), ((u6.1 0), .inl (cyI, 10, .inl (fun _ => 0))), ((u6.1 1), .inl (cyI, 10, .inl (fun _ => 0))), ((u6.1 2), .inl (cyI, 10, .inl (fun _ => 0))), ((u6.1 3), .inl (cyI, 10, .inl (fun _ => 0))), ((u6.1 4), .inl (cyI, 10, .inl (fun _ => 0))), ((u6.1 5), .inl (cyI, 60, .inl (fun _ => 0))), ((u6.1 6), .inl (cyI, 60, .inl (fun _ => 0))), ((u6.1 7), .inl (cyI, 60, .inl (fun _ => 0))), (q7, .inr (5, [.ref q2, .ref q4, .ref q5])), (q8, .inr (3, [.ref q2, .ref q4, .ref q7, .ref (u9.1 0), .ref (u9.1 1), .int 0, .ref (u9.1 2), .int 0])), ((u9.1 0), .inl (cyI, 10, .inl (fun _ => 0))), ((u9.1 1), .inl (cyI, 10, .inl (fun _ => 0))), ((u9.1 2), .inl (cyI, 16, .inl (fun _ => 0))), (q10, .inr (8, [.ref q1, .ref (u11.1 0), .ref (u11.1 1), .ref (u11.1 2), .ref (u11.1 3), .int 0, .int 0, .int 0, .int 0, .int 0, .int 0, .int 0])), ((u11.1 0), .inl (cyI, 25, .inl (u11.2 0))), ((u11.1 1), .inl (cyI, 401, .inl (fun _ => 0))), ((u11.1 2), .inl (cyI, 401, .inl (fun _ => 0))), ((u11.1 3), .inl (cyI, 401, .inl (fun _ => 0))), (q12, .inr (6, [.ref q10, .ref q2, .ref q4, .ref q5, .ref (u13.1 0), .ref (u13.1 1), .int 0, .ref (u13.1 2), .int 0])), ((u13.1 0), .inl (cyI, 12, .inl (fun _ => 0))), ((u13.1 1), .inl (cyI, 12, .inl (fun _ => 0))), ((u13.1 2), .inl (cyI, 400, .inl (fun _ => 0))), (q14, .inr (4, [.ref q10, .ref q12, .ref q2, .ref q4, .ref q5, .ref q8]))]) E iX11 tyX11 tyX11_ok nmX11 hP hD hS hnm 0 rfl rfl 12 (by decide) wq122 rfl rfl rfl rfl rfl rfl dX11_init_174 (fun H locs hP hD hS => ?_)
  refine lv_aload_n hx hb dX11_init_177 rfl (lv_at hl 0 rfl) ?_
  refine x_new (wg := fun q15 => [(h0, .inr (11, [.ref q1, v0_1, v0_2, v0_3, v0_4, .ref q2, .ref q4, .ref q5, .ref q7, .ref q8, .ref q10, .ref q12, .ref q14, v0_13, v0_14, v0_15])), (q1, .inl (cyI, 400, .inl (fun _ => 0))), (q2, .inr (0, [.ref (u3.1 0), .ref (u3.1 1), .ref (u3.1 2), .ref (u3.1 3), .ref (u3.1 4), .ref (u3.1 5), .ref (u3.1 6), .ref (u3.1 7), .ref (u3.1 8), .ref (u3.1 9), .ref (u3.1 10), .ref (u3.1 11), .int 3, .int 3])), ((u3.1 0), .inl (cyI, 512, .inl (u3.2 0))), ((u3.1 1), .inl (cyI, 512, .inl (u3.2 1))), ((u3.1 2), .inl (cyI, 512, .inl (u3.2 2))), ((u3.1 3), .inl (cyI, 512, .inl (u3.2 3))), ((u3.1 4), .inl (cyI, 512, .inl (u3.2 4))), ((u3.1 5), .inl (cyI, 512, .inl (u3.2 5))), ((u3.1 6), .inl (cyI, 512, .inl (u3.2 6))), ((u3.1 7), .inl (cyI, 512, .inl (u3.2 7))), ((u3.1 8), .inl (cyI, 512, .inl (u3.2 8))), ((u3.1 9), .inl (cyI, 512, .inl (u3.2 9))), ((u3.1 10), .inl (cyI, 512, .inl (fun _ => 0))), ((u3.1 11), .inl (cyI, 512, .inl (u3.2 10))), (q4, .inr (7, [.ref q2])), (q5, .inr (9, [.ref q2, .ref (u6.1 0), .ref (u6.1 1), .ref (u6.1 2), .ref (u6.1 3), .ref (u6.1 4), .ref (u6.1 5), .ref (u6.1 6), .ref (u6.1 7), .int 0, .int 0, .int 0, .int 0, .int 0, .int 0])), ((u6.1 0), .inl (cyI, 10, .inl (fun _ => 0))), ((u6.1 1), .inl (cyI, 10, .inl (fun _ => 0))), ((u6.1 2), .inl (cyI, 10, .inl (fun _ => 0))), ((u6.1 3), .inl (cyI, 10, .inl (fun _ => 0))), ((u6.1 4), .inl (cyI, 10, .inl (fun _ => 0))), ((u6.1 5), .inl (cyI, 60, .inl (fun _ => 0))), ((u6.1 6), .inl (cyI, 60, .inl (fun _ => 0))), ((u6.1 7), .inl (cyI, 60, .inl (fun _ => 0))), (q7, .inr (5, [.ref q2, .ref q4, .ref q5])), (q8, .inr (3, [.ref q2, .ref q4, .ref q7, .ref (u9.1 0), .ref (u9.1 1), .int 0, .ref (u9.1 2), .int 0])), ((u9.1 0), .inl (cyI, 10, .inl (fun _ => 0))), ((u9.1 1), .inl (cyI, 10, .inl (fun _ => 0))), ((u9.1 2), .inl (cyI, 16, .inl (fun _ => 0))), (q10, .inr (8, [.ref q1, .ref (u11.1 0), .ref (u11.1 1), .ref (u11.1 2), .ref (u11.1 3), .int 0, .int 0, .int 0, .int 0, .int 0, .int 0, .int 0])), ((u11.1 0), .inl (cyI, 25, .inl (u11.2 0))), ((u11.1 1), .inl (cyI, 401, .inl (fun _ => 0))), ((u11.1 2), .inl (cyI, 401, .inl (fun _ => 0))), ((u11.1 3), .inl (cyI, 401, .inl (fun _ => 0))), (q12, .inr (6, [.ref q10, .ref q2, .ref q4, .ref q5, .ref (u13.1 0), .ref (u13.1 1), .int 0, .ref (u13.1 2), .int 0])), ((u13.1 0), .inl (cyI, 12, .inl (fun _ => 0))), ((u13.1 1), .inl (cyI, 12, .inl (fun _ => 0))), ((u13.1 2), .inl (cyI, 400, .inl (fun _ => 0))), (q14, .inr (4, [.ref q10, .ref q12, .ref q2, .ref q4, .ref q5, .ref q8])), (q15, .inr (1, [.null, .null, .null, .null, .null, .int 0]))]) E iX1 tyX1 tyX1_ok wq123 wq124 wq125 hP hD hS hA rfl [.null, .null, .null, .null, .null, .int 0] (by decide +kernel) ⟨rfl, rfl⟩ ⟨Nat.le_of_ble_eq_true rfl, Nat.le_of_ble_eq_true rfl⟩ (fun _ => rfl) dX11_init_178 (fun q15 H hP hD hS => ?_)
  refine lv_dup hx hb dX11_init_181 rfl ?_
  refine lv_aload_n hx hb dX11_init_182 rfl (lv_at hl 0 rfl) ?_
  refine x_get E iX11 hP 0 rfl rfl 10 (by decide) wq95 rfl dX11_init_183 ?_
  refine lv_aload_n hx hb dX11_init_186 rfl (lv_at hl 0 rfl) ?_
  refine x_get E iX11 hP 0 rfl rfl 7 (by decide) wq60 rfl dX11_init_187 ?_
  refine x_Iv (rest := [.ref q15, .ref h0]) (ws' := fun u16 => [(h0, .inr (11, [.ref q1, v0_1, v0_2, v0_3, v0_4, .ref q2, .ref q4, .ref q5, .ref q7, .ref q8, .ref q10, .ref q12, .ref q14, v0_13, v0_14, v0_15])), (q1, .inl (cyI, 400, .inl (fun _ => 0))), (q2, .inr (0, [.ref (u3.1 0), .ref (u3.1 1), .ref (u3.1 2), .ref (u3.1 3), .ref (u3.1 4), .ref (u3.1 5), .ref (u3.1 6), .ref (u3.1 7), .ref (u3.1 8), .ref (u3.1 9), .ref (u3.1 10), .ref (u3.1 11), .int 3, .int 3])), ((u3.1 0), .inl (cyI, 512, .inl (u3.2 0))), ((u3.1 1), .inl (cyI, 512, .inl (u3.2 1))), ((u3.1 2), .inl (cyI, 512, .inl (u3.2 2))), ((u3.1 3), .inl (cyI, 512, .inl (u3.2 3))), ((u3.1 4), .inl (cyI, 512, .inl (u3.2 4))), ((u3.1 5), .inl (cyI, 512, .inl (u3.2 5))), ((u3.1 6), .inl (cyI, 512, .inl (u3.2 6))), ((u3.1 7), .inl (cyI, 512, .inl (u3.2 7))), ((u3.1 8), .inl (cyI, 512, .inl (u3.2 8))), ((u3.1 9), .inl (cyI, 512, .inl (u3.2 9))), ((u3.1 10), .inl (cyI, 512, .inl (fun _ => 0))), ((u3.1 11), .inl (cyI, 512, .inl (u3.2 10))), (q4, .inr (7, [.ref q2])), (q5, .inr (9, [.ref q2, .ref (u6.1 0), .ref (u6.1 1), .ref (u6.1 2), .ref (u6.1 3), .ref (u6.1 4), .ref (u6.1 5), .ref (u6.1 6), .ref (u6.1 7), .int 0, .int 0, .int 0, .int 0, .int 0, .int 0])), ((u6.1 0), .inl (cyI, 10, .inl (fun _ => 0))), ((u6.1 1), .inl (cyI, 10, .inl (fun _ => 0))), ((u6.1 2), .inl (cyI, 10, .inl (fun _ => 0))), ((u6.1 3), .inl (cyI, 10, .inl (fun _ => 0))), ((u6.1 4), .inl (cyI, 10, .inl (fun _ => 0))), ((u6.1 5), .inl (cyI, 60, .inl (fun _ => 0))), ((u6.1 6), .inl (cyI, 60, .inl (fun _ => 0))), ((u6.1 7), .inl (cyI, 60, .inl (fun _ => 0))), (q7, .inr (5, [.ref q2, .ref q4, .ref q5])), (q8, .inr (3, [.ref q2, .ref q4, .ref q7, .ref (u9.1 0), .ref (u9.1 1), .int 0, .ref (u9.1 2), .int 0])), ((u9.1 0), .inl (cyI, 10, .inl (fun _ => 0))), ((u9.1 1), .inl (cyI, 10, .inl (fun _ => 0))), ((u9.1 2), .inl (cyI, 16, .inl (fun _ => 0))), (q10, .inr (8, [.ref q1, .ref (u11.1 0), .ref (u11.1 1), .ref (u11.1 2), .ref (u11.1 3), .int 0, .int 0, .int 0, .int 0, .int 0, .int 0, .int 0])), ((u11.1 0), .inl (cyI, 25, .inl (u11.2 0))), ((u11.1 1), .inl (cyI, 401, .inl (fun _ => 0))), ((u11.1 2), .inl (cyI, 401, .inl (fun _ => 0))), ((u11.1 3), .inl (cyI, 401, .inl (fun _ => 0))), (q12, .inr (6, [.ref q10, .ref q2, .ref q4, .ref q5, .ref (u13.1 0), .ref (u13.1 1), .int 0, .ref (u13.1 2), .int 0])), ((u13.1 0), .inl (cyI, 12, .inl (fun _ => 0))), ((u13.1 1), .inl (cyI, 12, .inl (fun _ => 0))), ((u13.1 2), .inl (cyI, 400, .inl (fun _ => 0))), (q14, .inr (4, [.ref q10, .ref q12, .ref q2, .ref q4, .ref q5, .ref q8])), (q15, .inr (1, [.ref q10, .ref q5, .ref (u16.1 0), .ref (u16.1 1), .ref (u16.1 2), .int 0])), ((u16.1 0), .inl (cyI, 400, .inl (fun _ => 0))), ((u16.1 1), .inl (cyI, 400, .inl (fun _ => 0))), ((u16.1 2), .inl (cyI, 400, .inl (fun _ => 0)))]) (wr := [(h0, .inr (11, [.ref q1, v0_1, v0_2, v0_3, v0_4, .ref q2, .ref q4, .ref q5, .ref q7, .ref q8, .ref q10, .ref q12, .ref q14, v0_13, v0_14, v0_15])), (q1, .inl (cyI, 400, .inl (fun _ => 0))), (q2, .inr (0, [.ref (u3.1 0), .ref (u3.1 1), .ref (u3.1 2), .ref (u3.1 3), .ref (u3.1 4), .ref (u3.1 5), .ref (u3.1 6), .ref (u3.1 7), .ref (u3.1 8), .ref (u3.1 9), .ref (u3.1 10), .ref (u3.1 11), .int 3, .int 3])), ((u3.1 0), .inl (cyI, 512, .inl (u3.2 0))), ((u3.1 1), .inl (cyI, 512, .inl (u3.2 1))), ((u3.1 2), .inl (cyI, 512, .inl (u3.2 2))), ((u3.1 3), .inl (cyI, 512, .inl (u3.2 3))), ((u3.1 4), .inl (cyI, 512, .inl (u3.2 4))), ((u3.1 5), .inl (cyI, 512, .inl (u3.2 5))), ((u3.1 6), .inl (cyI, 512, .inl (u3.2 6))), ((u3.1 7), .inl (cyI, 512, .inl (u3.2 7))), ((u3.1 8), .inl (cyI, 512, .inl (u3.2 8))), ((u3.1 9), .inl (cyI, 512, .inl (u3.2 9))), ((u3.1 10), .inl (cyI, 512, .inl (fun _ => 0))), ((u3.1 11), .inl (cyI, 512, .inl (u3.2 10))), (q4, .inr (7, [.ref q2])), (q5, .inr (9, [.ref q2, .ref (u6.1 0), .ref (u6.1 1), .ref (u6.1 2), .ref (u6.1 3), .ref (u6.1 4), .ref (u6.1 5), .ref (u6.1 6), .ref (u6.1 7), .int 0, .int 0, .int 0, .int 0, .int 0, .int 0])), ((u6.1 0), .inl (cyI, 10, .inl (fun _ => 0))), ((u6.1 1), .inl (cyI, 10, .inl (fun _ => 0))), ((u6.1 2), .inl (cyI, 10, .inl (fun _ => 0))), ((u6.1 3), .inl (cyI, 10, .inl (fun _ => 0))), ((u6.1 4), .inl (cyI, 10, .inl (fun _ => 0))), ((u6.1 5), .inl (cyI, 60, .inl (fun _ => 0))), ((u6.1 6), .inl (cyI, 60, .inl (fun _ => 0))), ((u6.1 7), .inl (cyI, 60, .inl (fun _ => 0))), (q7, .inr (5, [.ref q2, .ref q4, .ref q5])), (q8, .inr (3, [.ref q2, .ref q4, .ref q7, .ref (u9.1 0), .ref (u9.1 1), .int 0, .ref (u9.1 2), .int 0])), ((u9.1 0), .inl (cyI, 10, .inl (fun _ => 0))), ((u9.1 1), .inl (cyI, 10, .inl (fun _ => 0))), ((u9.1 2), .inl (cyI, 16, .inl (fun _ => 0))), (q10, .inr (8, [.ref q1, .ref (u11.1 0), .ref (u11.1 1), .ref (u11.1 2), .ref (u11.1 3), .int 0, .int 0, .int 0, .int 0, .int 0, .int 0, .int 0])), ((u11.1 0), .inl (cyI, 25, .inl (u11.2 0))), ((u11.1 1), .inl (cyI, 401, .inl (fun _ => 0))), ((u11.1 2), .inl (cyI, 401, .inl (fun _ => 0))), ((u11.1 3), .inl (cyI, 401, .inl (fun _ => 0))), (q12, .inr (6, [.ref q10, .ref q2, .ref q4, .ref q5, .ref (u13.1 0), .ref (u13.1 1), .int 0, .ref (u13.1 2), .int 0])), ((u13.1 0), .inl (cyI, 12, .inl (fun _ => 0))), ((u13.1 1), .inl (cyI, 12, .inl (fun _ => 0))), ((u13.1 2), .inl (cyI, 400, .inl (fun _ => 0))), (q14, .inr (4, [.ref q10, .ref q12, .ref q2, .ref q4, .ref q5, .ref q8]))]) E (mX1_init l D cyI cyJ Z q15 q10 q5 (.null) (.null) (.null) (.null) (.null) (.int 0)) kX1_init wq132 wq133 rfl ⟨rfl, rfl, Nat.le_of_ble_eq_true rfl, Nat.le_of_ble_eq_true rfl⟩ hP hD hS hA [40] [0, 1, 2, 3, 4, 5, 6, 7, 8, 9, 10, 11, 12, 13, 14, 15, 16, 17, 18, 19, 20, 21, 22, 23, 24, 25, 26, 27, 28, 29, 30, 31, 32, 33, 34, 35, 36, 37, 38, 39] rfl rfl (by decide) (fun _ => rfl) hl.1 rfl (Nat.le_of_ble_eq_true rfl) dX11_init_190 ⟨rfl, rfl⟩ ⟨Nat.le_of_ble_eq_true rfl, Nat.le_of_ble_eq_true rfl⟩ (fun u16 H locs hP hD hS => ?_)
  refine x_putF (ws' := [(h0, .inr (11, [.ref q1, v0_1, v0_2, v0_3, v0_4, .ref q2, .ref q4, .ref q5, .ref q7, .ref q8, .ref q10, .ref q12, .ref q14, .ref q15, v0_14, v0_15])), (q1, .inl (cyI, 400, .inl (fun _ => 0))), (q2, .inr (0, [.ref (u3.1 0), .ref (u3.1 1), .ref (u3.1 2), .ref (u3.1 3), .ref (u3.1 4), .ref (u3.1 5), .ref (u3.1 6), .ref (u3.1 7), .ref (u3.1 8), .ref (u3.1 9), .ref (u3.1 10), .ref (u3.1 11), .int 3, .int 3])), ((u3.1 0), .inl (cyI, 512, .inl (u3.2 0))), ((u3.1 1), .inl (cyI, 512, .inl (u3.2 1))), ((u3.1 2), .inl (cyI, 512, .inl (u3.2 2))), ((u3.1 3), .inl (cyI, 512, .inl (u3.2 3))), ((u3.1 4), .inl (cyI, 512, .inl (u3.2 4))), ((u3.1 5), .inl (cyI, 512, .inl (u3.2 5))), ((u3.1 6), .inl (cyI, 512, .inl (u3.2 6))), ((u3.1 7), .inl (cyI, 512, .inl (u3.2 7))), ((u3.1 8), .inl (cyI, 512, .inl (u3.2 8))), ((u3.1 9), .inl (cyI, 512, .inl (u3.2 9))), ((u3.1 10), .inl (cyI, 512, .inl (fun _ => 0))), ((u3.1 11), .inl (cyI, 512, .inl (u3.2 10))), (q4, .inr (7, [.ref q2])), (q5, .inr (9, [.ref q2, .ref (u6.1 0), .ref (u6.1 1), .ref (u6.1 2), .ref (u6.1 3), .ref (u6.1 4), .ref (u6.1 5), .ref (u6.1 6), .ref (u6.1 7), .int 0, .int 0, .int 0, .int 0, .int 0, .int 0])), ((u6.1 0), .inl (cyI, 10, .inl (fun _ => 0))), ((u6.1 1), .inl (cyI, 10, .inl (fun _ => 0))), ((u6.1 2), .inl (cyI, 10, .inl (fun _ => 0))), ((u6.1 3), .inl (cyI, 10, .inl (fun _ => 0))), ((u6.1 4), .inl (cyI, 10, .inl (fun _ => 0))), ((u6.1 5), .inl (cyI, 60, .inl (fun _ => 0))), ((u6.1 6), .inl (cyI, 60, .inl (fun _ => 0))), ((u6.1 7), .inl (cyI, 60, .inl (fun _ => 0))), (q7, .inr (5, [.ref q2, .ref q4, .ref q5])), (q8, .inr (3, [.ref q2, .ref q4, .ref q7, .ref (u9.1 0), .ref (u9.1 1), .int 0, .ref (u9.1 2), .int 0])), ((u9.1 0), .inl (cyI, 10, .inl (fun _ => 0))), ((u9.1 1), .inl (cyI, 10, .inl (fun _ => 0))), ((u9.1 2), .inl (cyI, 16, .inl (fun _ => 0))), (q10, .inr (8, [.ref q1, .ref (u11.1 0), .ref (u11.1 1), .ref (u11.1 2), .ref (u11.1 3), .int 0, .int 0, .int 0, .int 0, .int 0, .int 0, .int 0])), ((u11.1 0), .inl (cyI, 25, .inl (u11.2 0))), ((u11.1 1), .inl (cyI, 401, .inl (fun _ => 0))), ((u11.1 2), .inl (cyI, 401, .inl (fun _ => 0))), ((u11.1 3), .inl (cyI, 401, .inl (fun _ => 0))), (q12, .inr (6, [.ref q10, .ref q2, .ref q4, .ref q5, .ref (u13.1 0), .ref (u13.1 1), .int 0, .ref (u13.1 2), .int 0])), ((u13.1 0), .inl (cyI, 12, .inl (fun _ => 0))), ((u13.1 1), .inl (cyI, 12, .inl (fun _ => 0))), ((u13.1 2), .inl (cyI, 400, .inl (fun _ => 0))), (q14, .inr (4, [.ref q10, .ref q12, .ref q2, .ref q4, .ref q5, .ref q8])), (q15, .inr (1, [.ref q10, .ref q5, .ref (u16.1 0), .ref (u16.1 1), .ref (u16.1 2), .int 0])), ((u16.1 0), .inl (cyI, 400, .inl (fun _ => 0))), ((u16.1 1), .inl (cyI, 400, .inl (fun _ => 0))), ((u16.1 2), .inl (cyI, 400, .inl (fun _ => 0)))]) E iX11 tyX11 tyX11_ok nmX11 hP hD hS hnm 0 rfl rfl 13 (by decide) wq134 rfl rfl rfl rfl rfl rfl dX11_init_193 (fun H locs hP hD hS => ?_)
  refine lv_aload_n hx hb dX11_init_196 rfl (lv_at hl 0 rfl) ?_
  refine x_new (wg := fun q17 => [(h0, .inr (11, [.ref q1, v0_1, v0_2, v0_3, v0_4, .ref q2, .ref q4, .ref q5, .ref q7, .ref q8, .ref q10, .ref q12, .ref q14, .ref q15, v0_14, v0_15])), (q1, .inl (cyI, 400, .inl (fun _ => 0))), (q2, .inr (0, [.ref (u3.1 0), .ref (u3.1 1), .ref (u3.1 2), .ref (u3.1 3), .ref (u3.1 4), .ref (u3.1 5), .ref (u3.1 6), .ref (u3.1 7), .ref (u3.1 8), .ref (u3.1 9), .ref (u3.1 10), .ref (u3.1 11), .int 3, .int 3])), ((u3.1 0), .inl (cyI, 512, .inl (u3.2 0))), ((u3.1 1), .inl (cyI, 512, .inl (u3.2 1))), ((u3.1 2), .inl (cyI, 512, .inl (u3.2 2))), ((u3.1 3), .inl (cyI, 512, .inl (u3.2 3))), ((u3.1 4), .inl (cyI, 512, .inl (u3.2 4))), ((u3.1 5), .inl (cyI, 512, .inl (u3.2 5))), ((u3.1 6), .inl (cyI, 512, .inl (u3.2 6))), ((u3.1 7), .inl (cyI, 512, .inl (u3.2 7))), ((u3.1 8), .inl (cyI, 512, .inl (u3.2 8))), ((u3.1 9), .inl (cyI, 512, .inl (u3.2 9))), ((u3.1 10), .inl (cyI, 512, .inl (fun _ => 0))), ((u3.1 11), .inl (cyI, 512, .inl (u3.2 10))), (q4, .inr (7, [.ref q2])), (q5, .inr (9, [.ref q2, .ref (u6.1 0), .ref (u6.1 1), .ref (u6.1 2), .ref (u6.1 3), .ref (u6.1 4), .ref (u6.1 5), .ref (u6.1 6), .ref (u6.1 7), .int 0, .int 0, .int 0, .int 0, .int 0, .int 0])), ((u6.1 0), .inl (cyI, 10, .inl (fun _ => 0))), ((u6.1 1), .inl (cyI, 10, .inl (fun _ => 0))), ((u6.1 2), .inl (cyI, 10, .inl (fun _ => 0))), ((u6.1 3), .inl (cyI, 10, .inl (fun _ => 0))), ((u6.1 4), .inl (cyI, 10, .inl (fun _ => 0))), ((u6.1 5), .inl (cyI, 60, .inl (fun _ => 0))), ((u6.1 6), .inl (cyI, 60, .inl (fun _ => 0))), ((u6.1 7), .inl (cyI, 60, .inl (fun _ => 0))), (q7, .inr (5, [.ref q2, .ref q4, .ref q5])), (q8, .inr (3, [.ref q2, .ref q4, .ref q7, .ref (u9.1 0), .ref (u9.1 1), .int 0, .ref (u9.1 2), .int 0])), ((u9.1 0), .inl (cyI, 10, .inl (fun _ => 0))), ((u9.1 1), .inl (cyI, 10, .inl (fun _ => 0))), ((u9.1 2), .inl (cyI, 16, .inl (fun _ => 0))), (q10, .inr (8, [.ref q1, .ref (u11.1 0), .ref (u11.1 1), .ref (u11.1 2), .ref (u11.1 3), .int 0, .int 0, .int 0, .int 0, .int 0, .int 0, .int 0])), ((u11.1 0), .inl (cyI, 25, .inl (u11.2 0))), ((u11.1 1), .inl (cyI, 401, .inl (fun _ => 0))), ((u11.1 2), .inl (cyI, 401, .inl (fun _ => 0))), ((u11.1 3), .inl (cyI, 401, .inl (fun _ => 0))), (q12, .inr (6, [.ref q10, .ref q2, .ref q4, .ref q5, .ref (u13.1 0), .ref (u13.1 1), .int 0, .ref (u13.1 2), .int 0])), ((u13.1 0), .inl (cyI, 12, .inl (fun _ => 0))), ((u13.1 1), .inl (cyI, 12, .inl (fun _ => 0))), ((u13.1 2), .inl (cyI, 400, .inl (fun _ => 0))), (q14, .inr (4, [.ref q10, .ref q12, .ref q2, .ref q4, .ref q5, .ref q8])), (q15, .inr (1, [.ref q10, .ref q5, .ref (u16.1 0), .ref (u16.1 1), .ref (u16.1 2), .int 0])), ((u16.1 0), .inl (cyI, 400, .inl (fun _ => 0))), ((u16.1 1), .inl (cyI, 400, .inl (fun _ => 0))), ((u16.1 2), .inl (cyI, 400, .inl (fun _ => 0))), (q17, .inr (2, [.null, .null, .null, .null, .null, .null, .null, .null, .null, .int 0, .int 0, .null]))]) E iX2 tyX2 tyX2_ok wq135 wq136 wq137 hP hD hS hA rfl [.null, .null, .null, .null, .null, .null, .null, .null, .null, .int 0, .int 0, .null] (by decide +kernel) ⟨rfl, rfl⟩ ⟨Nat.le_of_ble_eq_true rfl, Nat.le_of_ble_eq_true rfl⟩ (fun _ => rfl) dX11_init_197 (fun q17 H hP hD hS => ?_)
  refine lv_dup hx hb dX11_init_200 rfl ?_
  refine lv_aload_n hx hb dX11_init_201 rfl (lv_at hl 0 rfl) ?_
  refine x_get E iX11 hP 0 rfl rfl 5 (by decide) wq36 rfl dX11_init_202 ?_
  refine lv_aload_n hx hb dX11_init_205 rfl (lv_at hl 0 rfl) ?_
  refine x_get E iX11 hP 0 rfl rfl 6 (by decide) wq44 rfl dX11_init_206 ?_
  refine lv_aload_n hx hb dX11_init_209 rfl (lv_at hl 0 rfl) ?_
  refine x_get E iX11 hP 0 rfl rfl 7 (by decide) wq60 rfl dX11_init_210 ?_
  refine lv_aload_n hx hb dX11_init_213 rfl (lv_at hl 0 rfl) ?_
  refine x_get E iX11 hP 0 rfl rfl 9 (by decide) wq83 rfl dX11_init_214 ?_
  refine lv_aload_n hx hb dX11_init_217 rfl (lv_at hl 0 rfl) ?_
  refine x_get E iX11 hP 0 rfl rfl 13 (by decide) wq134 rfl dX11_init_218 ?_
  refine x_Iv (rest := [.ref q17, .ref h0]) (ws' := fun u18 => [(h0, .inr (11, [.ref q1, v0_1, v0_2, v0_3, v0_4, .ref q2, .ref q4, .ref q5, .ref q7, .ref q8, .ref q10, .ref q12, .ref q14, .ref q15, v0_14, v0_15])), (q1, .inl (cyI, 400, .inl (fun _ => 0))), (q2, .inr (0, [.ref (u3.1 0), .ref (u3.1 1), .ref (u3.1 2), .ref (u3.1 3), .ref (u3.1 4), .ref (u3.1 5), .ref (u3.1 6), .ref (u3.1 7), .ref (u3.1 8), .ref (u3.1 9), .ref (u3.1 10), .ref (u3.1 11), .int 3, .int 3])), ((u3.1 0), .inl (cyI, 512, .inl (u3.2 0))), ((u3.1 1), .inl (cyI, 512, .inl (u3.2 1))), ((u3.1 2), .inl (cyI, 512, .inl (u3.2 2))), ((u3.1 3), .inl (cyI, 512, .inl (u3.2 3))), ((u3.1 4), .inl (cyI, 512, .inl (u3.2 4))), ((u3.1 5), .inl (cyI, 512, .inl (u3.2 5))), ((u3.1 6), .inl (cyI, 512, .inl (u3.2 6))), ((u3.1 7), .inl (cyI, 512, .inl (u3.2 7))), ((u3.1 8), .inl (cyI, 512, .inl (u3.2 8))), ((u3.1 9), .inl (cyI, 512, .inl (u3.2 9))), ((u3.1 10), .inl (cyI, 512, .inl (fun _ => 0))), ((u3.1 11), .inl (cyI, 512, .inl (u3.2 10))), (q4, .inr (7, [.ref q2])), (q5, .inr (9, [.ref q2, .ref (u6.1 0), .ref (u6.1 1), .ref (u6.1 2), .ref (u6.1 3), .ref (u6.1 4), .ref (u6.1 5), .ref (u6.1 6), .ref (u6.1 7), .int 0, .int 0, .int 0, .int 0, .int 0, .int 0])), ((u6.1 0), .inl (cyI, 10, .inl (fun _ => 0))), ((u6.1 1), .inl (cyI, 10, .inl (fun _ => 0))), ((u6.1 2), .inl (cyI, 10, .inl (fun _ => 0))), ((u6.1 3), .inl (cyI, 10, .inl (fun _ => 0))), ((u6.1 4), .inl (cyI, 10, .inl (fun _ => 0))), ((u6.1 5), .inl (cyI, 60, .inl (fun _ => 0))), ((u6.1 6), .inl (cyI, 60, .inl (fun _ => 0))), ((u6.1 7), .inl (cyI, 60, .inl (fun _ => 0))), (q7, .inr (5, [.ref q2, .ref q4, .ref q5])), (q8, .inr (3, [.ref q2, .ref q4, .ref q7, .ref (u9.1 0), .ref (u9.1 1), .int 0, .ref (u9.1 2), .int 0])), ((u9.1 0), .inl (cyI, 10, .inl (fun _ => 0))), ((u9.1 1), .inl (cyI, 10, .inl (fun _ => 0))), ((u9.1 2), .inl (cyI, 16, .inl (fun _ => 0))), (q10, .inr (8, [.ref q1, .ref (u11.1 0), .ref (u11.1 1), .ref (u11.1 2), .ref (u11.1 3), .int 0, .int 0, .int 0, .int 0, .int 0, .int 0, .int 0])), ((u11.1 0), .inl (cyI, 25, .inl (u11.2 0))), ((u11.1 1), .inl (cyI, 401, .inl (fun _ => 0))), ((u11.1 2), .inl (cyI, 401, .inl (fun _ => 0))), ((u11.1 3), .inl (cyI, 401, .inl (fun _ => 0))), (q12, .inr (6, [.ref q10, .ref q2, .ref q4, .ref q5, .ref (u13.1 0), .ref (u13.1 1), .int 0, .ref (u13.1 2), .int 0])), ((u13.1 0), .inl (cyI, 12, .inl (fun _ => 0))), ((u13.1 1), .inl (cyI, 12, .inl (fun _ => 0))), ((u13.1 2), .inl (cyI, 400, .inl (fun _ => 0))), (q14, .inr (4, [.ref q10, .ref q12, .ref q2, .ref q4, .ref q5, .ref q8])), (q15, .inr (1, [.ref q10, .ref q5, .ref (u16.1 0), .ref (u16.1 1), .ref (u16.1 2), .int 0])), ((u16.1 0), .inl (cyI, 400, .inl (fun _ => 0))), ((u16.1 1), .inl (cyI, 400, .inl (fun _ => 0))), ((u16.1 2), .inl (cyI, 400, .inl (fun _ => 0))), (q17, .inr (2, [.ref q2, .ref q4, .ref q5, .ref q8, .ref q15, .ref (u18.1 0), .ref (u18.1 1), .ref (u18.1 2), .ref (u18.1 3), .int 0, .int 0, .ref (u18.1 4)])), ((u18.1 0), .inl (cyI, 64, .inl (fun _ => 0))), ((u18.1 1), .inl (cyI, 64, .inl (fun _ => 0))), ((u18.1 2), .inl (cyI, 64, .inl (fun _ => 0))), ((u18.1 3), .inl (cyI, 64, .inl (fun _ => 0))), ((u18.1 4), .inl (cyI, 10, .inl (fun _ => 0)))]) (wr := [(h0, .inr (11, [.ref q1, v0_1, v0_2, v0_3, v0_4, .ref q2, .ref q4, .ref q5, .ref q7, .ref q8, .ref q10, .ref q12, .ref q14, .ref q15, v0_14, v0_15])), (q1, .inl (cyI, 400, .inl (fun _ => 0))), (q2, .inr (0, [.ref (u3.1 0), .ref (u3.1 1), .ref (u3.1 2), .ref (u3.1 3), .ref (u3.1 4), .ref (u3.1 5), .ref (u3.1 6), .ref (u3.1 7), .ref (u3.1 8), .ref (u3.1 9), .ref (u3.1 10), .ref (u3.1 11), .int 3, .int 3])), ((u3.1 0), .inl (cyI, 512, .inl (u3.2 0))), ((u3.1 1), .inl (cyI, 512, .inl (u3.2 1))), ((u3.1 2), .inl (cyI, 512, .inl (u3.2 2))), ((u3.1 3), .inl (cyI, 512, .inl (u3.2 3))), ((u3.1 4), .inl (cyI, 512, .inl (u3.2 4))), ((u3.1 5), .inl (cyI, 512, .inl (u3.2 5))), ((u3.1 6), .inl (cyI, 512, .inl (u3.2 6))), ((u3.1 7), .inl (cyI, 512, .inl (u3.2 7))), ((u3.1 8), .inl (cyI, 512, .inl (u3.2 8))), ((u3.1 9), .inl (cyI, 512, .inl (u3.2 9))), ((u3.1 10), .inl (cyI, 512, .inl (fun _ => 0))), ((u3.1 11), .inl (cyI, 512, .inl (u3.2 10))), (q4, .inr (7, [.ref q2])), (q5, .inr (9, [.ref q2, .ref (u6.1 0), .ref (u6.1 1), .ref (u6.1 2), .ref (u6.1 3), .ref (u6.1 4), .ref (u6.1 5), .ref (u6.1 6), .ref (u6.1 7), .int 0, .int 0, .int 0, .int 0, .int 0, .int 0])), ((u6.1 0), .inl (cyI, 10, .inl (fun _ => 0))), ((u6.1 1), .inl (cyI, 10, .inl (fun _ => 0))), ((u6.1 2), .inl (cyI, 10, .inl (fun _ => 0))), ((u6.1 3), .inl (cyI, 10, .inl (fun _ => 0))), ((u6.1 4), .inl (cyI, 10, .inl (fun _ => 0))), ((u6.1 5), .inl (cyI, 60, .inl (fun _ => 0))), ((u6.1 6), .inl (cyI, 60, .inl (fun _ => 0))), ((u6.1 7), .inl (cyI, 60, .inl (fun _ => 0))), (q7, .inr (5, [.ref q2, .ref q4, .ref q5])), (q8, .inr (3, [.ref q2, .ref q4, .ref q7, .ref (u9.1 0), .ref (u9.1 1), .int 0, .ref (u9.1 2), .int 0])), ((u9.1 0), .inl (cyI, 10, .inl (fun _ => 0))), ((u9.1 1), .inl (cyI, 10, .inl (fun _ => 0))), ((u9.1 2), .inl (cyI, 16, .inl (fun _ => 0))), (q10, .inr (8, [.ref q1, .ref (u11.1 0), .ref (u11.1 1), .ref (u11.1 2), .ref (u11.1 3), .int 0, .int 0, .int 0, .int 0, .int 0, .int 0, .int 0])), ((u11.1 0), .inl (cyI, 25, .inl (u11.2 0))), ((u11.1 1), .inl (cyI, 401, .inl (fun _ => 0))), ((u11.1 2), .inl (cyI, 401, .inl (fun _ => 0))), ((u11.1 3), .inl (cyI, 401, .inl (fun _ => 0))), (q12, .inr (6, [.ref q10, .ref q2, .ref q4, .ref q5, .ref (u13.1 0), .ref (u13.1 1), .int 0, .ref (u13.1 2), .int 0])), ((u13.1 0), .inl (cyI, 12, .inl (fun _ => 0))), ((u13.1 1), .inl (cyI, 12, .inl (fun _ => 0))), ((u13.1 2), .inl (cyI, 400, .inl (fun _ => 0))), (q14, .inr (4, [.ref q10, .ref q12, .ref q2, .ref q4, .ref q5, .ref q8])), (q15, .inr (1, [.ref q10, .ref q5, .ref (u16.1 0), .ref (u16.1 1), .ref (u16.1 2), .int 0])), ((u16.1 0), .inl (cyI, 400, .inl (fun _ => 0))), ((u16.1 1), .inl (cyI, 400, .inl (fun _ => 0))), ((u16.1 2), .inl (cyI, 400, .inl (fun _ => 0)))]) E (mX2_init l D cyI cyJ Z q17 q2 q4 q5 q8 q15 (.null) (.null) (.null) (.null) (.null) (.null) (.null) (.null) (.null) (.int 0) (.int 0) (.null)) kX2_init wq149 wq150 rfl ⟨rfl, rfl, Nat.le_of_ble_eq_true rfl, Nat.le_of_ble_eq_true rfl⟩ hP hD hS hA [44] [0, 1, 2, 3, 4, 5, 6, 7, 8, 9, 10, 11, 12, 13, 14, 15, 16, 17, 18, 19, 20, 21, 22, 23, 24, 25, 26, 27, 28, 29, 30, 31, 32, 33, 34, 35, 36, 37, 38, 39, 40, 41, 42, 43] rfl rfl (by decide) (fun _ => rfl) hl.1 rfl (Nat.le_of_ble_eq_true rfl) dX11_init_221 ⟨rfl, rfl⟩ ⟨Nat.le_of_ble_eq_true rfl, Nat.le_of_ble_eq_true rfl⟩ (fun u18 H locs hP hD hS => ?_)
  refine x_putF (ws' := [(h0, .inr (11, [.ref q1, v0_1, v0_2, v0_3, v0_4, .ref q2, .ref q4, .ref q5, .ref q7, .ref q8, .ref q10, .ref q12, .ref q14, .ref q15, .ref q17, v0_15])), (q1, .inl (cyI, 400, .inl (fun _ => 0))), (q2, .inr (0, [.ref (u3.1 0), .ref (u3.1 1), .ref (u3.1 2), .ref (u3.1 3), .ref (u3.1 4), .ref (u3.1 5), .ref (u3.1 6), .ref (u3.1 7), .ref (u3.1 8), .ref (u3.1 9), .ref (u3.1 10), .ref (u3.1 11), .int 3, .int 3])), ((u3.1 0), .inl (cyI, 512, .inl (u3.2 0))), ((u3.1 1), .inl (cyI, 512, .inl (u3.2 1))), ((u3.1 2), .inl (cyI, 512, .inl (u3.2 2))), ((u3.1 3), .inl (cyI, 512, .inl (u3.2 3))), ((u3.1 4), .inl (cyI, 512, .inl (u3.2 4))), ((u3.1 5), .inl (cyI, 512, .inl (u3.2 5))), ((u3.1 6), .inl (cyI, 512, .inl (u3.2 6))), ((u3.1 7), .inl (cyI, 512, .inl (u3.2 7))), ((u3.1 8), .inl (cyI, 512, .inl (u3.2 8))), ((u3.1 9), .inl (cyI, 512, .inl (u3.2 9))), ((u3.1 10), .inl (cyI, 512, .inl (fun _ => 0))), ((u3.1 11), .inl (cyI, 512, .inl (u3.2 10))), (q4, .inr (7, [.ref q2])), (q5, .inr (9, [.ref q2, .ref (u6.1 0), .ref (u6.1 1), .ref (u6.1 2), .ref (u6.1 3), .ref (u6.1 4), .ref (u6.1 5), .ref (u6.1 6), .ref (u6.1 7), .int 0, .int 0, .int 0, .int 0, .int 0, .int 0])), ((u6.1 0), .inl (cyI, 10, .inl (fun _ => 0))), ((u6.1 1), .inl (cyI, 10, .inl (fun _ => 0))), ((u6.1 2), .inl (cyI, 10, .inl (fun _ => 0))), ((u6.1 3), .inl (cyI, 10, .inl (fun _ => 0))), ((u6.1 4), .inl (cyI, 10, .inl (fun _ => 0))), ((u6.1 5), .inl (cyI, 60, .inl (fun _ => 0))), ((u6.1 6), .inl (cyI, 60, .inl (fun _ => 0))), ((u6.1 7), .inl (cyI, 60, .inl (fun _ => 0))), (q7, .inr (5, [.ref q2, .ref q4, .ref q5])), (q8, .inr (3, [.ref q2, .ref q4, .ref q7, .ref (u9.1 0), .ref (u9.1 1), .int 0, .ref (u9.1 2), .int 0])), ((u9.1 0), .inl (cyI, 10, .inl (fun _ => 0))), ((u9.1 1), .inl (cyI, 10, .inl (fun _ => 0))), ((u9.1 2), .inl (cyI, 16, .inl (fun _ => 0))), (q10, .inr (8, [.ref q1, .ref (u11.1 0), .ref (u11.1 1), .ref (u11.1 2), .ref (u11.1 3), .int 0, .int 0, .int 0, .int 0, .int 0, .int 0, .int 0])), ((u11.1 0), .inl (cyI, 25, .inl (u11.2 0))), ((u11.1 1), .inl (cyI, 401, .inl (fun _ => 0))), ((u11.1 2), .inl (cyI, 401, .inl (fun _ => 0))), ((u11.1 3), .inl (cyI, 401, .inl (fun _ => 0))), (q12, .inr (6, [.ref q10, .ref q2, .ref q4, .ref q5, .ref (u13.1 0), .ref (u13.1 1), .int 0, .ref (u13.1 2), .int 0])), ((u13.1 0), .inl (cyI, 12, .inl (fun _ => 0))), ((u13.1 1), .inl (cyI, 12, .inl (fun _ => 0))), ((u13.1 2), .inl (cyI, 400, .inl (fun _ => 0))), (q14, .inr (4, [.ref q10, .ref q12, .ref q2, .ref q4, .ref q5, .ref q8])), (q15, .inr (1, [.ref q10, .ref q5, .ref (u16.1 0), .ref (u16.1 1), .ref (u16.1 2), .int 0])), ((u16.1 0), .inl (cyI, 400, .inl (fun _ => 0))), ((u16.1 1), .inl (cyI, 400, .inl (fun _ => 0))), ((u16.1 2), .inl (cyI, 400, .inl (fun _ => 0))), (q17, .inr (2, [.ref q2, .ref q4, .ref q5, .ref q8, .ref q15, .ref (u18.1 0), .ref (u18.1 1), .ref (u18.1 2), .ref (u18.1 3), .int 0, .int 0, .ref (u18.1 4)])), ((u18.1 0), .inl (cyI, 64, .inl (fun _ => 0))), ((u18.1 1), .inl (cyI, 64, .inl (fun _ => 0))), ((u18.1 2), .inl (cyI, 64, .inl (fun _ => 0))), ((u18.1 3), .inl (cyI, 64, .inl (fun _ => 0))), ((u18.1 4), .inl (cyI, 10, .inl (fun _ => 0)))]) E iX11 tyX11 tyX11_ok nmX11 hP hD hS hnm 0 rfl rfl 14 (by decide) wq151 rfl rfl rfl rfl rfl rfl dX11_init_224 (fun H locs hP hD hS => ?_)
  refine lv_aload_n hx hb dX11_init_227 rfl (lv_at hl 0 rfl) ?_
  refine x_new (wg := fun q19 => [(h0, .inr (11, [.ref q1, v0_1, v0_2, v0_3, v0_4, .ref q2, .ref q4, .ref q5, .ref q7, .ref q8, .ref q10, .ref q12, .ref q14, .ref q15, .ref q17, v0_15])), (q1, .inl (cyI, 400, .inl (fun _ => 0))), (q2, .inr (0, [.ref (u3.1 0), .ref (u3.1 1), .ref (u3.1 2), .ref (u3.1 3), .ref (u3.1 4), .ref (u3.1 5), .ref (u3.1 6), .ref (u3.1 7), .ref (u3.1 8), .ref (u3.1 9), .ref (u3.1 10), .ref (u3.1 11), .int 3, .int 3])), ((u3.1 0), .inl (cyI, 512, .inl (u3.2 0))), ((u3.1 1), .inl (cyI, 512, .inl (u3.2 1))), ((u3.1 2), .inl (cyI, 512, .inl (u3.2 2))), ((u3.1 3), .inl (cyI, 512, .inl (u3.2 3))), ((u3.1 4), .inl (cyI, 512, .inl (u3.2 4))), ((u3.1 5), .inl (cyI, 512, .inl (u3.2 5))), ((u3.1 6), .inl (cyI, 512, .inl (u3.2 6))), ((u3.1 7), .inl (cyI, 512, .inl (u3.2 7))), ((u3.1 8), .inl (cyI, 512, .inl (u3.2 8))), ((u3.1 9), .inl (cyI, 512, .inl (u3.2 9))), ((u3.1 10), .inl (cyI, 512, .inl (fun _ => 0))), ((u3.1 11), .inl (cyI, 512, .inl (u3.2 10))), (q4, .inr (7, [.ref q2])), (q5, .inr (9, [.ref q2, .ref (u6.1 0), .ref (u6.1 1), .ref (u6.1 2), .ref (u6.1 3), .ref (u6.1 4), .ref (u6.1 5), .ref (u6.1 6), .ref (u6.1 7), .int 0, .int 0, .int 0, .int 0, .int 0, .int 0])), ((u6.1 0), .inl (cyI, 10, .inl (fun _ => 0))), ((u6.1 1), .inl (cyI, 10, .inl (fun _ => 0))), ((u6.1 2), .inl (cyI, 10, .inl (fun _ => 0))), ((u6.1 3), .inl (cyI, 10, .inl (fun _ => 0))), ((u6.1 4), .inl (cyI, 10, .inl (fun _ => 0))), ((u6.1 5), .inl (cyI, 60, .inl (fun _ => 0))), ((u6.1 6), .inl (cyI, 60, .inl (fun _ => 0))), ((u6.1 7), .inl (cyI, 60, .inl (fun _ => 0))), (q7, .inr (5, [.ref q2, .ref q4, .ref q5])), (q8, .inr (3, [.ref q2, .ref q4, .ref q7, .ref (u9.1 0), .ref (u9.1 1), .int 0, .ref (u9.1 2), .int 0])), ((u9.1 0), .inl (cyI, 10, .inl (fun _ => 0))), ((u9.1 1), .inl (cyI, 10, .inl (fun _ => 0))), ((u9.1 2), .inl (cyI, 16, .inl (fun _ => 0))), (q10, .inr (8, [.ref q1, .ref (u11.1 0), .ref (u11.1 1), .ref (u11.1 2), .ref (u11.1 3), .int 0, .int 0, .int 0, .int 0, .int 0, .int 0, .int 0])), ((u11.1 0), .inl (cyI, 25, .inl (u11.2 0))), ((u11.1 1), .inl (cyI, 401, .inl (fun _ => 0))), ((u11.1 2), .inl (cyI, 401, .inl (fun _ => 0))), ((u11.1 3), .inl (cyI, 401, .inl (fun _ => 0))), (q12, .inr (6, [.ref q10, .ref q2, .ref q4, .ref q5, .ref (u13.1 0), .ref (u13.1 1), .int 0, .ref (u13.1 2), .int 0])), ((u13.1 0), .inl (cyI, 12, .inl (fun _ => 0))), ((u13.1 1), .inl (cyI, 12, .inl (fun _ => 0))), ((u13.1 2), .inl (cyI, 400, .inl (fun _ => 0))), (q14, .inr (4, [.ref q10, .ref q12, .ref q2, .ref q4, .ref q5, .ref q8])), (q15, .inr (1, [.ref q10, .ref q5, .ref (u16.1 0), .ref (u16.1 1), .ref (u16.1 2), .int 0])), ((u16.1 0), .inl (cyI, 400, .inl (fun _ => 0))), ((u16.1 1), .inl (cyI, 400, .inl (fun _ => 0))), ((u16.1 2), .inl (cyI, 400, .inl (fun _ => 0))), (q17, .inr (2, [.ref q2, .ref q4, .ref q5, .ref q8, .ref q15, .ref (u18.1 0), .ref (u18.1 1), .ref (u18.1 2), .ref (u18.1 3), .int 0, .int 0, .ref (u18.1 4)])), ((u18.1 0), .inl (cyI, 64, .inl (fun _ => 0))), ((u18.1 1), .inl (cyI, 64, .inl (fun _ => 0))), ((u18.1 2), .inl (cyI, 64, .inl (fun _ => 0))), ((u18.1 3), .inl (cyI, 64, .inl (fun _ => 0))), ((u18.1 4), .inl (cyI, 10, .inl (fun _ => 0))), (q19, .inr (10, [.null, .null, .null, .int 0]))]) E iX10 tyX10 tyX10_ok wq152 wq153 wq154 hP hD hS hA rfl [.null, .null, .null, .int 0] (by decide +kernel) ⟨rfl, rfl⟩ ⟨Nat.le_of_ble_eq_true rfl, Nat.le_of_ble_eq_true rfl⟩ (fun _ => rfl) dX11_init_228 (fun q19 H hP hD hS => ?_)
  refine lv_dup hx hb dX11_init_231 rfl ?_
  refine lv_aload_n hx hb dX11_init_232 rfl (lv_at hl 0 rfl) ?_
  refine x_get E iX11 hP 0 rfl rfl 5 (by decide) wq36 rfl dX11_init_233 ?_
  refine lv_aload_n hx hb dX11_init_236 rfl (lv_at hl 0 rfl) ?_
  refine x_get E iX11 hP 0 rfl rfl 7 (by decide) wq60 rfl dX11_init_237 ?_
  refine x_Iv (rest := [.ref q19, .ref h0]) (ws' := fun u20 => [(h0, .inr (11, [.ref q1, v0_1, v0_2, v0_3, v0_4, .ref q2, .ref q4, .ref q5, .ref q7, .ref q8, .ref q10, .ref q12, .ref q14, .ref q15, .ref q17, v0_15])), (q1, .inl (cyI, 400, .inl (fun _ => 0))), (q2, .inr (0, [.ref (u3.1 0), .ref (u3.1 1), .ref (u3.1 2), .ref (u3.1 3), .ref (u3.1 4), .ref (u3.1 5), .ref (u3.1 6), .ref (u3.1 7), .ref (u3.1 8), .ref (u3.1 9), .ref (u3.1 10), .ref (u3.1 11), .int 3, .int 3])), ((u3.1 0), .inl (cyI, 512, .inl (u3.2 0))), ((u3.1 1), .inl (cyI, 512, .inl (u3.2 1))), ((u3.1 2), .inl (cyI, 512, .inl (u3.2 2))), ((u3.1 3), .inl (cyI, 512, .inl (u3.2 3))), ((u3.1 4), .inl (cyI, 512, .inl (u3.2 4))), ((u3.1 5), .inl (cyI, 512, .inl (u3.2 5))), ((u3.1 6), .inl (cyI, 512, .inl (u3.2 6))), ((u3.1 7), .inl (cyI, 512, .inl (u3.2 7))), ((u3.1 8), .inl (cyI, 512, .inl (u3.2 8))), ((u3.1 9), .inl (cyI, 512, .inl (u3.2 9))), ((u3.1 10), .inl (cyI, 512, .inl (fun _ => 0))), ((u3.1 11), .inl (cyI, 512, .inl (u3.2 10))), (q4, .inr (7, [.ref q2])), (q5, .inr (9, [.ref q2, .ref (u6.1 0), .ref (u6.1 1), .ref (u6.1 2), .ref (u6.1 3), .ref (u6.1 4), .ref (u6.1 5), .ref (u6.1 6), .ref (u6.1 7), .int 0, .int 0, .int 0, .int 0, .int 0, .int 0])), ((u6.1 0), .inl (cyI, 10, .inl (fun _ => 0))), ((u6.1 1), .inl (cyI, 10, .inl (fun _ => 0))), ((u6.1 2), .inl (cyI, 10, .inl (fun _ => 0))), ((u6.1 3), .inl (cyI, 10, .inl (fun _ => 0))), ((u6.1 4), .inl (cyI, 10, .inl (fun _ => 0))), ((u6.1 5), .inl (cyI, 60, .inl (fun _ => 0))), ((u6.1 6), .inl (cyI, 60, .inl (fun _ => 0))), ((u6.1 7), .inl (cyI, 60, .inl (fun _ => 0))), (q7, .inr (5, [.ref q2, .ref q4, .ref q5])), (q8, .inr (3, [.ref q2, .ref q4, .ref q7, .ref (u9.1 0), .ref (u9.1 1), .int 0, .ref (u9.1 2), .int 0])), ((u9.1 0), .inl (cyI, 10, .inl (fun _ => 0))), ((u9.1 1), .inl (cyI, 10, .inl (fun _ => 0))), ((u9.1 2), .inl (cyI, 16, .inl (fun _ => 0))), (q10, .inr (8, [.ref q1, .ref (u11.1 0), .ref (u11.1 1), .ref (u11.1 2), .ref (u11.1 3), .int 0, .int 0, .int 0, .int 0, .int 0, .int 0, .int 0])), ((u11.1 0), .inl (cyI, 25, .inl (u11.2 0))), ((u11.1 1), .inl (cyI, 401, .inl (fun _ => 0))), ((u11.1 2), .inl (cyI, 401, .inl (fun _ => 0))), ((u11.1 3), .inl (cyI, 401, .inl (fun _ => 0))), (q12, .inr (6, [.ref q10, .ref q2, .ref q4, .ref q5, .ref (u13.1 0), .ref (u13.1 1), .int 0, .ref (u13.1 2), .int 0])), ((u13.1 0), .inl (cyI, 12, .inl (fun _ => 0))), ((u13.1 1), .inl (cyI, 12, .inl (fun _ => 0))), ((u13.1 2), .inl (cyI, 400, .inl (fun _ => 0))), (q14, .inr (4, [.ref q10, .ref q12, .ref q2, .ref q4, .ref q5, .ref q8])), (q15, .inr (1, [.ref q10, .ref q5, .ref (u16.1 0), .ref (u16.1 1), .ref (u16.1 2), .int 0])), ((u16.1 0), .inl (cyI, 400, .inl (fun _ => 0))), ((u16.1 1), .inl (cyI, 400, .inl (fun _ => 0))), ((u16.1 2), .inl (cyI, 400, .inl (fun _ => 0))), (q17, .inr (2, [.ref q2, .ref q4, .ref q5, .ref q8, .ref q15, .ref (u18.1 0), .ref (u18.1 1), .ref (u18.1 2), .ref (u18.1 3), .int 0, .int 0, .ref (u18.1 4)])), ((u18.1 0), .inl (cyI, 64, .inl (fun _ => 0))), ((u18.1 1), .inl (cyI, 64, .inl (fun _ => 0))), ((u18.1 2), .inl (cyI, 64, .inl (fun _ => 0))), ((u18.1 3), .inl (cyI, 64, .inl (fun _ => 0))), ((u18.1 4), .inl (cyI, 10, .inl (fun _ => 0))), (q19, .inr (10, [.ref q2, .ref q5, .ref (u20.1 0), .int 0])), ((u20.1 0), .inl (cyI, 4608, .inl (fun _ => 0)))]) (wr := [(h0, .inr (11, [.ref q1, v0_1, v0_2, v0_3, v0_4, .ref q2, .ref q4, .ref q5, .ref q7, .ref q8, .ref q10, .ref q12, .ref q14, .ref q15, .ref q17, v0_15])), (q1, .inl (cyI, 400, .inl (fun _ => 0))), (q2, .inr (0, [.ref (u3.1 0), .ref (u3.1 1), .ref (u3.1 2), .ref (u3.1 3), .ref (u3.1 4), .ref (u3.1 5), .ref (u3.1 6), .ref (u3.1 7), .ref (u3.1 8), .ref (u3.1 9), .ref (u3.1 10), .ref (u3.1 11), .int 3, .int 3])), ((u3.1 0), .inl (cyI, 512, .inl (u3.2 0))), ((u3.1 1), .inl (cyI, 512, .inl (u3.2 1))), ((u3.1 2), .inl (cyI, 512, .inl (u3.2 2))), ((u3.1 3), .inl (cyI, 512, .inl (u3.2 3))), ((u3.1 4), .inl (cyI, 512, .inl (u3.2 4))), ((u3.1 5), .inl (cyI, 512, .inl (u3.2 5))), ((u3.1 6), .inl (cyI, 512, .inl (u3.2 6))), ((u3.1 7), .inl (cyI, 512, .inl (u3.2 7))), ((u3.1 8), .inl (cyI, 512, .inl (u3.2 8))), ((u3.1 9), .inl (cyI, 512, .inl (u3.2 9))), ((u3.1 10), .inl (cyI, 512, .inl (fun _ => 0))), ((u3.1 11), .inl (cyI, 512, .inl (u3.2 10))), (q4, .inr (7, [.ref q2])), (q5, .inr (9, [.ref q2, .ref (u6.1 0), .ref (u6.1 1), .ref (u6.1 2), .ref (u6.1 3), .ref (u6.1 4), .ref (u6.1 5), .ref (u6.1 6), .ref (u6.1 7), .int 0, .int 0, .int 0, .int 0, .int 0, .int 0])), ((u6.1 0), .inl (cyI, 10, .inl (fun _ => 0))), ((u6.1 1), .inl (cyI, 10, .inl (fun _ => 0))), ((u6.1 2), .inl (cyI, 10, .inl (fun _ => 0))), ((u6.1 3), .inl (cyI, 10, .inl (fun _ => 0))), ((u6.1 4), .inl (cyI, 10, .inl (fun _ => 0))), ((u6.1 5), .inl (cyI, 60, .inl (fun _ => 0))), ((u6.1 6), .inl (cyI, 60, .inl (fun _ => 0))), ((u6.1 7), .inl (cyI, 60, .inl (fun _ => 0))), (q7, .inr (5, [.ref q2, .ref q4, .ref q5])), (q8, .inr (3, [.ref q2, .ref q4, .ref q7, .ref (u9.1 0), .ref (u9.1 1), .int 0, .ref (u9.1 2), .int 0])), ((u9.1 0), .inl (cyI, 10, .inl (fun _ => 0))), ((u9.1 1), .inl (cyI, 10, .inl (fun _ => 0))), ((u9.1 2), .inl (cyI, 16, .inl (fun _ => 0))), (q10, .inr (8, [.ref q1, .ref (u11.1 0), .ref (u11.1 1), .ref (u11.1 2), .ref (u11.1 3), .int 0, .int 0, .int 0, .int 0, .int 0, .int 0, .int 0])), ((u11.1 0), .inl (cyI, 25, .inl (u11.2 0))), ((u11.1 1), .inl (cyI, 401, .inl (fun _ => 0))), ((u11.1 2), .inl (cyI, 401, .inl (fun _ => 0))), ((u11.1 3), .inl (cyI, 401, .inl (fun _ => 0))), (q12, .inr (6, [.ref q10, .ref q2, .ref q4, .ref q5, .ref (u13.1 0), .ref (u13.1 1), .int 0, .ref (u13.1 2), .int 0])), ((u13.1 0), .inl (cyI, 12, .inl (fun _ => 0))), ((u13.1 1), .inl (cyI, 12, .inl (fun _ => 0))), ((u13.1 2), .inl (cyI, 400, .inl (fun _ => 0))), (q14, .inr (4, [.ref q10, .ref q12, .ref q2, .ref q4, .ref q5, .ref q8])), (q15, .inr (1, [.ref q10, .ref q5, .ref (u16.1 0), .ref (u16.1 1), .ref (u16.1 2), .int 0])), ((u16.1 0), .inl (cyI, 400, .inl (fun _ => 0))), ((u16.1 1), .inl (cyI, 400, .inl (fun _ => 0))), ((u16.1 2), .inl (cyI, 400, .inl (fun _ => 0))), (q17, .inr (2, [.ref q2, .ref q4, .ref q5, .ref q8, .ref q15, .ref (u18.1 0), .ref (u18.1 1), .ref (u18.1 2), .ref (u18.1 3), .int 0, .int 0, .ref (u18.1 4)])), ((u18.1 0), .inl (cyI, 64, .inl (fun _ => 0))), ((u18.1 1), .inl (cyI, 64, .inl (fun _ => 0))), ((u18.1 2), .inl (cyI, 64, .inl (fun _ => 0))), ((u18.1 3), .inl (cyI, 64, .inl (fun _ => 0))), ((u18.1 4), .inl (cyI, 10, .inl (fun _ => 0)))]) E (mX10_init l D cyI cyJ Z q19 q2 q5 (.null) (.null) (.null) (.int 0)) kX10_init wq159 wq160 rfl ⟨rfl, rfl, Nat.le_of_ble_eq_true rfl, Nat.le_of_ble_eq_true rfl⟩ hP hD hS hA [50] [0, 1, 2, 3, 4, 5, 6, 7, 8, 9, 10, 11, 12, 13, 14, 15, 16, 17, 18, 19, 20, 21, 22, 23, 24, 25, 26, 27, 28, 29, 30, 31, 32, 33, 34, 35, 36, 37, 38, 39, 40, 41, 42, 43, 44, 45, 46, 47, 48, 49] rfl rfl (by decide) (fun _ => rfl) hl.1 rfl (Nat.le_of_ble_eq_true rfl) dX11_init_240 ⟨rfl, rfl⟩ ⟨Nat.le_of_ble_eq_true rfl, Nat.le_of_ble_eq_true rfl⟩ (fun u20 H locs hP hD hS => ?_)
  refine x_putF (ws' := [(h0, .inr (11, [.ref q1, v0_1, v0_2, v0_3, v0_4, .ref q2, .ref q4, .ref q5, .ref q7, .ref q8, .ref q10, .ref q12, .ref q14, .ref q15, .ref q17, .ref q19])), (q1, .inl (cyI, 400, .inl (fun _ => 0))), (q2, .inr (0, [.ref (u3.1 0), .ref (u3.1 1), .ref (u3.1 2), .ref (u3.1 3), .ref (u3.1 4), .ref (u3.1 5), .ref (u3.1 6), .ref (u3.1 7), .ref (u3.1 8), .ref (u3.1 9), .ref (u3.1 10), .ref (u3.1 11), .int 3, .int 3])), ((u3.1 0), .inl (cyI, 512, .inl (u3.2 0))), ((u3.1 1), .inl (cyI, 512, .inl (u3.2 1))), ((u3.1 2), .inl (cyI, 512, .inl (u3.2 2))), ((u3.1 3), .inl (cyI, 512, .inl (u3.2 3))), ((u3.1 4), .inl (cyI, 512, .inl (u3.2 4))), ((u3.1 5), .inl (cyI, 512, .inl (u3.2 5))), ((u3.1 6), .inl (cyI, 512, .inl (u3.2 6))), ((u3.1 7), .inl (cyI, 512, .inl (u3.2 7))), ((u3.1 8), .inl (cyI, 512, .inl (u3.2 8))), ((u3.1 9), .inl (cyI, 512, .inl (u3.2 9))), ((u3.1 10), .inl (cyI, 512, .inl (fun _ => 0))), ((u3.1 11), .inl (cyI, 512, .inl (u3.2 10))), (q4, .inr (7, [.ref q2])), (q5, .inr (9, [.ref q2, .ref (u6.1 0), .ref (u6.1 1), .ref (u6.1 2), .ref (u6.1 3), .ref (u6.1 4), .ref (u6.1 5), .ref (u6.1 6), .ref (u6.1 7), .int 0, .int 0, .int 0, .int 0, .int 0, .int 0])), ((u6.1 0), .inl (cyI, 10, .inl (fun _ => 0))), ((u6.1 1), .inl (cyI, 10, .inl (fun _ => 0))), ((u6.1 2), .inl (cyI, 10, .inl (fun _ => 0))), ((u6.1 3), .inl (cyI, 10, .inl (fun _ => 0))), ((u6.1 4), .inl (cyI, 10, .inl (fun _ => 0))), ((u6.1 5), .inl (cyI, 60, .inl (fun _ => 0))), ((u6.1 6), .inl (cyI, 60, .inl (fun _ => 0))), ((u6.1 7), .inl (cyI, 60, .inl (fun _ => 0))), (q7, .inr (5, [.ref q2, .ref q4, .ref q5])), (q8, .inr (3, [.ref q2, .ref q4, .ref q7, .ref (u9.1 0), .ref (u9.1 1), .int 0, .ref (u9.1 2), .int 0])), ((u9.1 0), .inl (cyI, 10, .inl (fun _ => 0))), ((u9.1 1), .inl (cyI, 10, .inl (fun _ => 0))), ((u9.1 2), .inl (cyI, 16, .inl (fun _ => 0))), (q10, .inr (8, [.ref q1, .ref (u11.1 0), .ref (u11.1 1), .ref (u11.1 2), .ref (u11.1 3), .int 0, .int 0, .int 0, .int 0, .int 0, .int 0, .int 0])), ((u11.1 0), .inl (cyI, 25, .inl (u11.2 0))), ((u11.1 1), .inl (cyI, 401, .inl (fun _ => 0))), ((u11.1 2), .inl (cyI, 401, .inl (fun _ => 0))), ((u11.1 3), .inl (cyI, 401, .inl (fun _ => 0))), (q12, .inr (6, [.ref q10, .ref q2, .ref q4, .ref q5, .ref (u13.1 0), .ref (u13.1 1), .int 0, .ref (u13.1 2), .int 0])), ((u13.1 0), .inl (cyI, 12, .inl (fun _ => 0))), ((u13.1 1), .inl (cyI, 12, .inl (fun _ => 0))), ((u13.1 2), .inl (cyI, 400, .inl (fun _ => 0))), (q14, .inr (4, [.ref q10, .ref q12, .ref q2, .ref q4, .ref q5, .ref q8])), (q15, .inr (1, [.ref q10, .ref q5, .ref (u16.1 0), .ref (u16.1 1), .ref (u16.1 2), .int 0])), ((u16.1 0), .inl (cyI, 400, .inl (fun _ => 0))), ((u16.1 1), .inl (cyI, 400, .inl (fun _ => 0))), ((u16.1 2), .inl (cyI, 400, .inl (fun _ => 0))), (q17, .inr (2, [.ref q2, .ref q4, .ref q5, .ref q8, .ref q15, .ref (u18.1 0), .ref (u18.1 1), .ref (u18.1 2), .ref (u18.1 3), .int 0, .int 0, .ref (u18.1 4)])), ((u18.1 0), .inl (cyI, 64, .inl (fun _ => 0))), ((u18.1 1), .inl (cyI, 64, .inl (fun _ => 0))), ((u18.1 2), .inl (cyI, 64, .inl (fun _ => 0))), ((u18.1 3), .inl (cyI, 64, .inl (fun _ => 0))), ((u18.1 4), .inl (cyI, 10, .inl (fun _ => 0))), (q19, .inr (10, [.ref q2, .ref q5, .ref (u20.1 0), .int 0])), ((u20.1 0), .inl (cyI, 4608, .inl (fun _ => 0)))]) E iX11 tyX11 tyX11_ok nmX11 hP hD hS hnm 0 rfl rfl 15 (by decide) wq161 rfl rfl rfl rfl rfl rfl dX11_init_243 (fun H locs hP hD hS => ?_)
  exact x_vret E hr hlk hP hD hS (fun k => [q1, q2, (u3.1 0), (u3.1 1), (u3.1 2), (u3.1 3), (u3.1 4), (u3.1 5), (u3.1 6), (u3.1 7), (u3.1 8), (u3.1 9), (u3.1 10), (u3.1 11), q4, q5, (u6.1 0), (u6.1 1), (u6.1 2), (u6.1 3), (u6.1 4), (u6.1 5), (u6.1 6), (u6.1 7), q7, q8, (u9.1 0), (u9.1 1), (u9.1 2), q10, (u11.1 0), (u11.1 1), (u11.1 2), (u11.1 3), q12, (u13.1 0), (u13.1 1), (u13.1 2), q14, q15, (u16.1 0), (u16.1 1), (u16.1 2), q17, (u18.1 0), (u18.1 1), (u18.1 2), (u18.1 3), (u18.1 4), q19, (u20.1 0)].getD k 0, fun k => [(u3.2 0), (u3.2 1), (u3.2 2), (u3.2 3), (u3.2 4), (u3.2 5), (u3.2 6), (u3.2 7), (u3.2 8), (u3.2 9), (u3.2 10), (u11.2 0)].getD k (fun _ => 0)) [0, 1, 2, 3, 4, 5, 6, 7, 8, 9, 10, 11, 12, 13, 14, 15, 16, 17, 18, 19, 20, 21, 22, 23, 24, 25, 26, 27, 28, 29, 30, 31, 32, 33, 34, 35, 36, 37, 38, 39, 40, 41, 42, 43, 44, 45, 46, 47, 48, 49, 50, 51] (by decide) rfl dX11_init_246

set_option maxHeartbeats 4000000 in
set_option maxRecDepth 100000 in
theorem mX12_init (l : Launch) (D : va_G) (cyI cyJ : ClassId) (Z : xZ) (h0 : Nat) (v0_0 : Value) (v0_1 : Value) (v0_2 : Value) (v0_3 : Value) (v0_4 : Value) (v0_5 : Value) (v0_6 : Value) (v0_7 : Value) (v0_8 : Value) (v0_9 : Value) (v0_10 : Value) (v0_11 : Value) (v0_12 : Value) (v0_13 : Value) (v0_14 : Value) (v0_15 : Value) (v0_16 : Value) (v0_17 : Value) (v0_18 : Value) (v0_19 : Value) (v0_20 : Value) (v0_21 : Value) (v0_22 : Value) (v0_23 : Value) (v0_24 : Value) (v0_25 : Value) (v0_26 : Value) (v0_27 : Value) (v0_28 : Value) (v0_29 : Value) (v0_30 : Value) (v0_31 : Value) (v0_32 : Value) (v0_33 : Value) (v0_34 : Value) (v0_35 : Value) (v0_36 : Value) (v0_37 : Value) (v0_38 : Value) (v0_39 : Value) (v0_40 : Value) (v0_41 : Value) (v0_42 : Value) (v0_43 : Value) (v0_44 : Value) (v0_45 : Value) (v0_46 : Value) (v0_47 : Value) (v0_48 : Value) (v0_49 : Value) (v0_50 : Value) (v0_51 : Value) (v0_52 : Value) (v0_53 : Value) (v0_54 : Value) (v0_55 : Value) (v0_56 : Value) (v0_57 : Value) (v0_58 : Value) (v0_59 : Value) (v0_60 : Value) (v0_61 : Value) (v0_62 : Value) (v0_63 : Value) (v0_64 : Value) : MetV l yX12_init (Cond.code yX12_init cX12_init 1 none) { frames := 1, cells := 28, slots := 557549, locals := 12 } D cyI cyJ Z [.ref h0] [(h0, .inr (12, [v0_0, v0_1, v0_2, v0_3, v0_4, v0_5, v0_6, v0_7, v0_8, v0_9, v0_10, v0_11, v0_12, v0_13, v0_14, v0_15, v0_16, v0_17, v0_18, v0_19, v0_20, v0_21, v0_22, v0_23, v0_24, v0_25, v0_26, v0_27, v0_28, v0_29, v0_30, v0_31, v0_32, v0_33, v0_34, v0_35, v0_36, v0_37, v0_38, v0_39, v0_40, v0_41, v0_42, v0_43, v0_44, v0_45, v0_46, v0_47, v0_48, v0_49, v0_50, v0_51, v0_52, v0_53, v0_54, v0_55, v0_56, v0_57, v0_58, v0_59, v0_60, v0_61, v0_62, v0_63, v0_64]))] (fun u : ((Nat → Nat) × (Nat → Nat → Int32)) => ([(h0, .inr (12, [v0_0, v0_1, .int (-1), .ref (u.1 0), v0_4, v0_5, v0_6, v0_7, v0_8, v0_9, v0_10, v0_11, v0_12, v0_13, .ref (u.1 1), .ref (u.1 2), .ref (u.1 3), .ref (u.1 4), .int 2, v0_19, .ref (u.1 5), .ref (u.1 6), .ref (u.1 7), .ref (u.1 8), .ref (u.1 9), .ref (u.1 10), v0_26, v0_27, v0_28, v0_29, .ref (u.1 11), .ref (u.1 12), .ref (u.1 13), v0_33, v0_34, v0_35, .ref (u.1 14), .ref (u.1 15), .ref (u.1 16), .ref (u.1 17), .ref (u.1 18), .int 60, v0_42, .ref (u.1 19), v0_44, v0_45, .ref (u.1 20), .ref (u.1 21), v0_48, .ref (u.1 22), .ref (u.1 23), v0_51, v0_52, v0_53, v0_54, .ref (u.1 24), .ref (u.1 25), .ref (u.1 26), v0_58, .ref (u.1 27), v0_60, v0_61, v0_62, v0_63, v0_64])), ((u.1 0), .inl (cyI, 400, .inl (fun _ => 0))), ((u.1 1), .inl (cyI, 60000, .inl (fun _ => 0))), ((u.1 2), .inl (cyI, 60000, .inl (fun _ => 0))), ((u.1 3), .inl (cyI, 60000, .inl (fun _ => 0))), ((u.1 4), .inl (cyI, 4096, .inl (fun _ => 0))), ((u.1 5), .inl (cyJ, 10, .inr (.inl (fun _ => 0)))), ((u.1 6), .inl (cyJ, 10, .inr (.inl (fun _ => 0)))), ((u.1 7), .inl (cyJ, 60, .inr (.inl (fun _ => 0)))), ((u.1 8), .inl (cyI, 120, .inl (fun _ => 0))), ((u.1 9), .inl (cyI, 10, .inl (fun _ => 0))), ((u.1 10), .inl (cyI, 10, .inl (fun _ => 0))), ((u.1 11), .inl (cyI, 900, .inl (fun _ => 0))), ((u.1 12), .inl (cyI, 120, .inl (fun _ => 0))), ((u.1 13), .inl (cyJ, 120, .inr (.inl (fun _ => 0)))), ((u.1 14), .inl (cyI, 330720, .inl (fun _ => 0))), ((u.1 15), .inl (cyI, 2880, .inl (fun _ => 0))), ((u.1 16), .inl (cyI, 300, .inl (fun _ => 0))), ((u.1 17), .inl (cyI, 320, .inl (fun _ => 0))), ((u.1 18), .inl (cyI, 60, .inl (fun _ => 0))), ((u.1 19), .inl (cyI, 120, .inl (fun _ => 0))), ((u.1 20), .inl (cyI, 36000, .inl (fun _ => 0))), ((u.1 21), .inl (cyI, 3, .inl (fun _ => 0))), ((u.1 22), .inl (cyI, 10, .inl (fun _ => 0))), ((u.1 23), .inl (cyI, 10, .inl (fun _ => 0))), ((u.1 24), .inl (cyI, 420, .inl (fun _ => 0))), ((u.1 25), .inl (cyI, 420, .inl (fun _ => 0))), ((u.1 26), .inl (cyI, 420, .inl (fun _ => 0))), ((u.1 27), .inl (cyI, 10, .inl (fun _ => 0)))] : va_W)) 28 557549 := by
  refine met_v (by decide) rfl ?_
  intro p e s m below meth c A ls E hr hlk hnm hP hD hA hl
  have hS : va_S A s.heap s.heap [] := va_S.rf
  have hx := E.1.1
  have hb := E.1.2.1
  have hl : lv_has ls 1 [(0, .ref h0)] := hl
  refine lv_aload_n hx hb dX12_init_0 rfl (lv_at hl 0 rfl) ?_
  refine x_obj E wq162 wq1 wq2 hl.1 dX12_init_1 (Nat.le_of_ble_eq_true rfl) (Nat.le_of_ble_eq_true rfl) ?_
  refine lv_aload_n hx hb dX12_init_4 rfl (lv_at hl 0 rfl) ?_
  refine lv_iconst (v := (-1)) hx hb dX12_init_5 (by decide) ?_
  refine x_put (ws' := [(h0, .inr (12, [v0_0, v0_1, .int (-1), v0_3, v0_4, v0_5, v0_6, v0_7, v0_8, v0_9, v0_10, v0_11, v0_12, v0_13, v0_14, v0_15, v0_16, v0_17, v0_18, v0_19, v0_20, v0_21, v0_22, v0_23, v0_24, v0_25, v0_26, v0_27, v0_28, v0_29, v0_30, v0_31, v0_32, v0_33, v0_34, v0_35, v0_36, v0_37, v0_38, v0_39, v0_40, v0_41, v0_42, v0_43, v0_44, v0_45, v0_46, v0_47, v0_48, v0_49, v0_50, v0_51, v0_52, v0_53, v0_54, v0_55, v0_56, v0_57, v0_58, v0_59, v0_60, v0_61, v0_62, v0_63, v0_64]))]) E iX12 tyX12 tyX12_ok nmX12 hP hD hS 0 rfl rfl 2 (by decide) wq163 rfl rfl rfl rfl rfl dX12_init_6 (fun H locs hP hD hS => ?_)
  refine lv_aload_n hx hb dX12_init_9 rfl (lv_at hl 0 rfl) ?_
  refine lv_sipush (v := 400) hx hb dX12_init_10 (by decide) ?_
  refine x_newI (wg := fun q1 => [(h0, .inr (12, [v0_0, v0_1, .int (-1), v0_3, v0_4, v0_5, v0_6, v0_7, v0_8, v0_9, v0_10, v0_11, v0_12, v0_13, v0_14, v0_15, v0_16, v0_17, v0_18, v0_19, v0_20, v0_21, v0_22, v0_23, v0_24, v0_25, v0_26, v0_27, v0_28, v0_29, v0_30, v0_31, v0_32, v0_33, v0_34, v0_35, v0_36, v0_37, v0_38, v0_39, v0_40, v0_41, v0_42, v0_43, v0_44, v0_45, v0_46, v0_47, v0_48, v0_49, v0_50, v0_51, v0_52, v0_53, v0_54, v0_55, v0_56, v0_57, v0_58, v0_59, v0_60, v0_61, v0_62, v0_63, v0_64])), (q1, .inl (cyI, 400, .inl (fun _ => 0)))]) E wq3 hP hD hS hA 400 (by decide) (by decide) rfl ⟨rfl, rfl⟩ ⟨Nat.le_of_ble_eq_true rfl, Nat.le_of_ble_eq_true rfl⟩ (fun _ => rfl) dX12_init_13 (fun q1 H hP hD hS => ?_)
  refine x_putF (ws' := [(h0, .inr (12, [v0_0, v0_1, .int (-1), .ref q1, v0_4, v0_5, v0_6, v0_7, v0_8, v0_9, v0_10, v0_11, v0_12, v0_13, v0_14, v0_15, v0_16, v0_17, v0_18, v0_19, v0_20, v0_21, v0_22, v0_23, v0_24, v0_25, v0_26, v0_27, v0_28, v0_29, v0_30, v0_31, v0_32, v0_33, v0_34, v0_35, v0_36, v0_37, v0_38, v0_39, v0_40, v0_41, v0_42, v0_43, v0_44, v0_45, v0_46, v0_47, v0_48, v0_49, v0_50, v0_51, v0_52, v0_53, v0_54, v0_55, v0_56, v0_57, v0_58, v0_59, v0_60, v0_61, v0_62, v0_63, v0_64])), (q1, .inl (cyI, 400, .inl (fun _ => 0)))]) E iX12 tyX12 tyX12_ok nmX12 hP hD hS hnm 0 rfl rfl 3 (by decide) wq164 rfl rfl rfl rfl rfl rfl dX12_init_15 (fun H locs hP hD hS => ?_)
  refine lv_aload_n hx hb dX12_init_18 rfl (lv_at hl 0 rfl) ?_
  refine x_ldc E wq165 dX12_init_19 ?_
  refine x_newI (wg := fun q2 => [(h0, .inr (12, [v0_0, v0_1, .int (-1), .ref q1, v0_4, v0_5, v0_6, v0_7, v0_8, v0_9, v0_10, v0_11, v0_12, v0_13, v0_14, v0_15, v0_16, v0_17, v0_18, v0_19, v0_20, v0_21, v0_22, v0_23, v0_24, v0_25, v0_26, v0_27, v0_28, v0_29, v0_30, v0_31, v0_32, v0_33, v0_34, v0_35, v0_36, v0_37, v0_38, v0_39, v0_40, v0_41, v0_42, v0_43, v0_44, v0_45, v0_46, v0_47, v0_48, v0_49, v0_50, v0_51, v0_52, v0_53, v0_54, v0_55, v0_56, v0_57, v0_58, v0_59, v0_60, v0_61, v0_62, v0_63, v0_64])), (q1, .inl (cyI, 400, .inl (fun _ => 0))), (q2, .inl (cyI, 60000, .inl (fun _ => 0)))]) E wq3 hP hD hS hA 60000 (by decide) (by decide) rfl ⟨rfl, rfl⟩ ⟨Nat.le_of_ble_eq_true rfl, Nat.le_of_ble_eq_true rfl⟩ (fun _ => rfl) dX12_init_21 (fun q2 H hP hD hS => ?_)
  refine x_putF (ws' := [(h0, .inr (12, [v0_0, v0_1, .int (-1), .ref q1, v0_4, v0_5, v0_6, v0_7, v0_8, v0_9, v0_10, v0_11, v0_12, v0_13, .ref q2, v0_15, v0_16, v0_17, v0_18, v0_19, v0_20, v0_21, v0_22, v0_23, v0_24, v0_25, v0_26, v0_27, v0_28, v0_29, v0_30, v0_31, v0_32, v0_33, v0_34, v0_35, v0_36, v0_37, v0_38, v0_39, v0_40, v0_41, v0_42, v0_43, v0_44, v0_45, v0_46, v0_47, v0_48, v0_49, v0_50, v0_51, v0_52, v0_53, v0_54, v0_55, v0_56, v0_57, v0_58, v0_59, v0_60, v0_61, v0_62, v0_63, v0_64])), (q1, .inl (cyI, 400, .inl (fun _ => 0))), (q2, .inl (cyI, 60000, .inl (fun _ => 0)))]) E iX12 tyX12 tyX12_ok nmX12 hP hD hS hnm 0 rfl rfl 14 (by decide) wq166 rfl rfl rfl rfl rfl rfl dX12_init_23 (fun H locs hP hD hS => ?_)
  refine lv_aload_n hx hb dX12_init_26 rfl (lv_at hl 0 rfl) ?_
  refine x_ldc E wq165 dX12_init_27 ?_
  refine x_newI (wg := fun q3 => [(h0, .inr (12, [v0_0, v0_1, .int (-1), .ref q1, v0_4, v0_5, v0_6, v0_7, v0_8, v0_9, v0_10, v0_11, v0_12, v0_13, .ref q2, v0_15, v0_16, v0_17, v0_18, v0_19, v0_20, v0_21, v0_22, v0_23, v0_24, v0_25, v0_26, v0_27, v0_28, v0_29, v0_30, v0_31, v0_32, v0_33, v0_34, v0_35, v0_36, v0_37, v0_38, v0_39, v0_40, v0_41, v0_42, v0_43, v0_44, v0_45, v0_46, v0_47, v0_48, v0_49, v0_50, v0_51, v0_52, v0_53, v0_54, v0_55, v0_56, v0_57, v0_58, v0_59, v0_60, v0_61, v0_62, v0_63, v0_64])), (q1, .inl (cyI, 400, .inl (fun _ => 0))), (q2, .inl (cyI, 60000, .inl (fun _ => 0))), (q3, .inl (cyI, 60000, .inl (fun _ => 0)))]) E wq3 hP hD hS hA 60000 (by decide) (by decide) rfl ⟨rfl, rfl⟩ ⟨Nat.le_of_ble_eq_true rfl, Nat.le_of_ble_eq_true rfl⟩ (fun _ => rfl) dX12_init_29 (fun q3 H hP hD hS => ?_)
  refine x_putF (ws' := [(h0, .inr (12, [v0_0, v0_1, .int (-1), .ref q1, v0_4, v0_5, v0_6, v0_7, v0_8, v0_9, v0_10, v0_11, v0_12, v0_13, .ref q2, .ref q3, v0_16, v0_17, v0_18, v0_19, v0_20, v0_21, v0_22, v0_23, v0_24, v0_25, v0_26, v0_27, v0_28, v0_29, v0_30, v0_31, v0_32, v0_33, v0_34, v0_35, v0_36, v0_37, v0_38, v0_39, v0_40, v0_41, v0_42, v0_43, v0_44, v0_45, v0_46, v0_47, v0_48, v0_49, v0_50, v0_51, v0_52, v0_53, v0_54, v0_55, v0_56, v0_57, v0_58, v0_59, v0_60, v0_61, v0_62, v0_63, v0_64])), (q1, .inl (cyI, 400, .inl (fun _ => 0))), (q2, .inl (cyI, 60000, .inl (fun _ => 0))), (q3, .inl (cyI, 60000, .inl (fun _ => 0)))]) E iX12 tyX12 tyX12_ok nmX12 hP hD hS hnm 0 rfl rfl 15 (by decide) wq167 rfl rfl rfl rfl rfl rfl dX12_init_31 (fun H locs hP hD hS => ?_)
  refine lv_aload_n hx hb dX12_init_34 rfl (lv_at hl 0 rfl) ?_
  refine x_ldc E wq165 dX12_init_35 ?_
  refine x_newI (wg := fun q4 => [(h0, .inr (12, [v0_0, v0_1, .int (-1), .ref q1, v0_4, v0_5, v0_6, v0_7, v0_8, v0_9, v0_10, v0_11, v0_12, v0_13, .ref q2, .ref q3, v0_16, v0_17, v0_18, v0_19, v0_20, v0_21, v0_22, v0_23, v0_24, v0_25, v0_26, v0_27, v0_28, v0_29, v0_30, v0_31, v0_32, v0_33, v0_34, v0_35, v0_36, v0_37, v0_38, v0_39, v0_40, v0_41, v0_42, v0_43, v0_44, v0_45, v0_46, v0_47, v0_48, v0_49, v0_50, v0_51, v0_52, v0_53, v0_54, v0_55, v0_56, v0_57, v0_58, v0_59, v0_60, v0_61, v0_62, v0_63, v0_64])), (q1, .inl (cyI, 400, .inl (fun _ => 0))), (q2, .inl (cyI, 60000, .inl (fun _ => 0))), (q3, .inl (cyI, 60000, .inl (fun _ => 0))), (q4, .inl (cyI, 60000, .inl (fun _ => 0)))]) E wq3 hP hD hS hA 60000 (by decide) (by decide) rfl ⟨rfl, rfl⟩ ⟨Nat.le_of_ble_eq_true rfl, Nat.le_of_ble_eq_true rfl⟩ (fun _ => rfl) dX12_init_37 (fun q4 H hP hD hS => ?_)
  refine x_putF (ws' := [(h0, .inr (12, [v0_0, v0_1, .int (-1), .ref q1, v0_4, v0_5, v0_6, v0_7, v0_8, v0_9, v0_10, v0_11, v0_12, v0_13, .ref q2, .ref q3, .ref q4, v0_17, v0_18, v0_19, v0_20, v0_21, v0_22, v0_23, v0_24, v0_25, v0_26, v0_27, v0_28, v0_29, v0_30, v0_31, v0_32, v0_33, v0_34, v0_35, v0_36, v0_37, v0_38, v0_39, v0_40, v0_41, v0_42, v0_43, v0_44, v0_45, v0_46, v0_47, v0_48, v0_49, v0_50, v0_51, v0_52, v0_53, v0_54, v0_55, v0_56, v0_57, v0_58, v0_59, v0_60, v0_61, v0_62, v0_63, v0_64])), (q1, .inl (cyI, 400, .inl (fun _ => 0))), (q2, .inl (cyI, 60000, .inl (fun _ => 0))), (q3, .inl (cyI, 60000, .inl (fun _ => 0))), (q4, .inl (cyI, 60000, .inl (fun _ => 0)))]) E iX12 tyX12 tyX12_ok nmX12 hP hD hS hnm 0 rfl rfl 16 (by decide) wq168 rfl rfl rfl rfl rfl rfl dX12_init_39 (fun H locs hP hD hS => ?_)
  refine lv_aload_n hx hb dX12_init_42 rfl (lv_at hl 0 rfl) ?_
  refine lv_sipush (v := 4096) hx hb dX12_init_43 (by decide) ?_
  refine x_newI (wg := fun q5 => [(h0, .inr (12, [v0_0, v0_1, .int (-1), .ref q1, v0_4, v0_5, v0_6, v0_7, v0_8, v0_9, v0_10, v0_11, v0_12, v0_13, .ref q2, .ref q3, .ref q4, v0_17, v0_18, v0_19, v0_20, v0_21, v0_22, v0_23, v0_24, v0_25, v0_26, v0_27, v0_28, v0_29, v0_30, v0_31, v0_32, v0_33, v0_34, v0_35, v0_36, v0_37, v0_38, v0_39, v0_40, v0_41, v0_42, v0_43, v0_44, v0_45, v0_46, v0_47, v0_48, v0_49, v0_50, v0_51, v0_52, v0_53, v0_54, v0_55, v0_56, v0_57, v0_58, v0_59, v0_60, v0_61, v0_62, v0_63, v0_64])), (q1, .inl (cyI, 400, .inl (fun _ => 0))), (q2, .inl (cyI, 60000, .inl (fun _ => 0))), (q3, .inl (cyI, 60000, .inl (fun _ => 0))), (q4, .inl (cyI, 60000, .inl (fun _ => 0))), (q5, .inl (cyI, 4096, .inl (fun _ => 0)))]) E wq3 hP hD hS hA 4096 (by decide) (by decide) rfl ⟨rfl, rfl⟩ ⟨Nat.le_of_ble_eq_true rfl, Nat.le_of_ble_eq_true rfl⟩ (fun _ => rfl) dX12_init_46 (fun q5 H hP hD hS => ?_)
  refine x_putF (ws' := [(h0, .inr (12, [v0_0, v0_1, .int (-1), .ref q1, v0_4, v0_5, v0_6, v0_7, v0_8, v0_9, v0_10, v0_11, v0_12, v0_13, .ref q2, .ref q3, .ref q4, .ref q5, v0_18, v0_19, v0_20, v0_21, v0_22, v0_23, v0_24, v0_25, v0_26, v0_27, v0_28, v0_29, v0_30, v0_31, v0_32, v0_33, v0_34, v0_35, v0_36, v0_37, v0_38, v0_39, v0_40, v0_41, v0_42, v0_43, v0_44, v0_45, v0_46, v0_47, v0_48, v0_49, v0_50, v0_51, v0_52, v0_53, v0_54, v0_55, v0_56, v0_57, v0_58, v0_59, v0_60, v0_61, v0_62, v0_63, v0_64])), (q1, .inl (cyI, 400, .inl (fun _ => 0))), (q2, .inl (cyI, 60000, .inl (fun _ => 0))), (q3, .inl (cyI, 60000, .inl (fun _ => 0))), (q4, .inl (cyI, 60000, .inl (fun _ => 0))), (q5, .inl (cyI, 4096, .inl (fun _ => 0)))]) E iX12 tyX12 tyX12_ok nmX12 hP hD hS hnm 0 rfl rfl 17 (by decide) wq169 rfl rfl rfl rfl rfl rfl dX12_init_48 (fun H locs hP hD hS => ?_)
  refine lv_aload_n hx hb dX12_init_51 rfl (lv_at hl 0 rfl) ?_
  refine lv_iconst (v := 2) hx hb dX12_init_52 (by decide) ?_
  refine x_put (ws' := [(h0, .inr (12, [v0_0, v0_1, .int (-1), .ref q1, v0_4, v0_5, v0_6, v0_7, v0_8, v0_9, v0_10, v0_11, v0_12, v0_13, .ref q2, .ref q3, .ref q4, .ref q5, .int 2, v0_19, v0_20, v0_21, v0_22, v0_23, v0_24, v0_25, v0_26, v0_27, v0_28, v0_29, v0_30, v0_31, v0_32, v0_33, v0_34, v0_35, v0_36, v0_37, v0_38, v0_39, v0_40, v0_41, v0_42, v0_43, v0_44, v0_45, v0_46, v0_47, v0_48, v0_49, v0_50, v0_51, v0_52, v0_53, v0_54, v0_55, v0_56, v0_57, v0_58, v0_59, v0_60, v0_61, v0_62, v0_63, v0_64])), (q1, .inl (cyI, 400, .inl (fun _ => 0))), (q2, .inl (cyI, 60000, .inl (fun _ => 0))), (q3, .inl (cyI, 60000, .inl (fun _ => 0))), (q4, .inl (cyI, 60000, .inl (fun _ => 0))), (q5, .inl (cyI, 4096, .inl (fun _ => 0)))]) E iX12 tyX12 tyX12_ok nmX12 hP hD hS 0 rfl rfl 18 (by decide) wq170 rfl rfl rfl rfl rfl dX12_init_53 (fun H locs hP hD hS => ?_)
  refine lv_aload_n hx hb dX12_init_56 rfl (lv_at hl 0 rfl) ?_
  refine lv_bipush (v := 10) hx hb dX12_init_57 (by decide) ?_
  refine x_newJ (wg := fun q6 => [(h0, .inr (12, [v0_0, v0_1, .int (-1), .ref q1, v0_4, v0_5, v0_6, v0_7, v0_8, v0_9, v0_10, v0_11, v0_12, v0_13, .ref q2, .ref q3, .ref q4, .ref q5, .int 2, v0_19, v0_20, v0_21, v0_22, v0_23, v0_24, v0_25, v0_26, v0_27, v0_28, v0_29, v0_30, v0_31, v0_32, v0_33, v0_34, v0_35, v0_36, v0_37, v0_38, v0_39, v0_40, v0_41, v0_42, v0_43, v0_44, v0_45, v0_46, v0_47, v0_48, v0_49, v0_50, v0_51, v0_52, v0_53, v0_54, v0_55, v0_56, v0_57, v0_58, v0_59, v0_60, v0_61, v0_62, v0_63, v0_64])), (q1, .inl (cyI, 400, .inl (fun _ => 0))), (q2, .inl (cyI, 60000, .inl (fun _ => 0))), (q3, .inl (cyI, 60000, .inl (fun _ => 0))), (q4, .inl (cyI, 60000, .inl (fun _ => 0))), (q5, .inl (cyI, 4096, .inl (fun _ => 0))), (q6, .inl (cyJ, 10, .inr (.inl (fun _ => 0))))]) E wq171 hP hD hS hA 10 (by decide) (by decide) rfl ⟨rfl, rfl⟩ ⟨Nat.le_of_ble_eq_true rfl, Nat.le_of_ble_eq_true rfl⟩ (fun _ => rfl) dX12_init_59 (fun q6 H hP hD hS => ?_)
  refine x_putF (ws' := [(h0, .inr (12, [v0_0, v0_1, .int (-1), .ref q1, v0_4, v0_5, v0_6, v0_7, v0_8, v0_9, v0_10, v0_11, v0_12, v0_13, .ref q2, .ref q3, .ref q4, .ref q5, .int 2, v0_19, .ref q6, v0_21, v0_22, v0_23, v0_24, v0_25, v0_26, v0_27, v0_28, v0_29, v0_30, v0_31, v0_32, v0_33, v0_34, v0_35, v0_36, v0_37, v0_38, v0_39, v0_40, v0_41, v0_42, v0_43, v0_44, v0_45, v0_46, v0_47, v0_48, v0_49, v0_50, v0_51, v0_52, v0_53, v0_54, v0_55, v0_56, v0_57, v0_58, v0_59, v0_60, v0_61, v0_62, v0_63, v0_64])), (q1, .inl (cyI, 400, .inl (fun _ => 0))), (q2, .inl (cyI, 60000, .inl (fun _ => 0))), (q3, .inl (cyI, 60000, .inl (fun _ => 0))), (q4, .inl (cyI, 60000, .inl (fun _ => 0))), (q5, .inl (cyI, 4096, .inl (fun _ => 0))), (q6, .inl (cyJ, 10, .inr (.inl (fun _ => 0))))]) E iX12 tyX12 tyX12_ok nmX12 hP hD hS hnm 0 rfl rfl 20 (by decide) wq172 rfl rfl rfl rfl rfl rfl dX12_init_61 (fun H locs hP hD hS => ?_)
  refine lv_aload_n hx hb dX12_init_64 rfl (lv_at hl 0 rfl) ?_
  refine lv_bipush (v := 10) hx hb dX12_init_65 (by decide) ?_
  refine x_newJ (wg := fun q7 => [(h0, .inr (12, [v0_0, v0_1, .int (-1), .ref q1, v0_4, v0_5, v0_6, v0_7, v0_8, v0_9, v0_10, v0_11, v0_12, v0_13, .ref q2, .ref q3, .ref q4, .ref q5, .int 2, v0_19, .ref q6, v0_21, v0_22, v0_23, v0_24, v0_25, v0_26, v0_27, v0_28, v0_29, v0_30, v0_31, v0_32, v0_33, v0_34, v0_35, v0_36, v0_37, v0_38, v0_39, v0_40, v0_41, v0_42, v0_43, v0_44, v0_45, v0_46, v0_47, v0_48, v0_49, v0_50, v0_51, v0_52, v0_53, v0_54, v0_55, v0_56, v0_57, v0_58, v0_59, v0_60, v0_61, v0_62, v0_63, v0_64])), (q1, .inl (cyI, 400, .inl (fun _ => 0))), (q2, .inl (cyI, 60000, .inl (fun _ => 0))), (q3, .inl (cyI, 60000, .inl (fun _ => 0))), (q4, .inl (cyI, 60000, .inl (fun _ => 0))), (q5, .inl (cyI, 4096, .inl (fun _ => 0))), (q6, .inl (cyJ, 10, .inr (.inl (fun _ => 0)))), (q7, .inl (cyJ, 10, .inr (.inl (fun _ => 0))))]) E wq171 hP hD hS hA 10 (by decide) (by decide) rfl ⟨rfl, rfl⟩ ⟨Nat.le_of_ble_eq_true rfl, Nat.le_of_ble_eq_true rfl⟩ (fun _ => rfl) dX12_init_67 (fun q7 H hP hD hS => ?_)
  refine x_putF (ws' := [(h0, .inr (12, [v0_0, v0_1, .int (-1), .ref q1, v0_4, v0_5, v0_6, v0_7, v0_8, v0_9, v0_10, v0_11, v0_12, v0_13, .ref q2, .ref q3, .ref q4, .ref q5, .int 2, v0_19, .ref q6, .ref q7, v0_22, v0_23, v0_24, v0_25, v0_26, v0_27, v0_28, v0_29, v0_30, v0_31, v0_32, v0_33, v0_34, v0_35, v0_36, v0_37, v0_38, v0_39, v0_40, v0_41, v0_42, v0_43, v0_44, v0_45, v0_46, v0_47, v0_48, v0_49, v0_50, v0_51, v0_52, v0_53, v0_54, v0_55, v0_56, v0_57, v0_58, v0_59, v0_60, v0_61, v0_62, v0_63, v0_64])), (q1, .inl (cyI, 400, .inl (fun _ => 0))), (q2, .inl (cyI, 60000, .inl (fun _ => 0))), (q3, .inl (cyI, 60000, .inl (fun _ => 0))), (q4, .inl (cyI, 60000, .inl (fun _ => 0))), (q5, .inl (cyI, 4096, .inl (fun _ => 0))), (q6, .inl (cyJ, 10, .inr (.inl (fun _ => 0)))), (q7, .inl (cyJ, 10, .inr (.inl (fun _ => 0))))]) E iX12 tyX12 tyX12_ok nmX12 hP hD hS hnm 0 rfl rfl 21 (by decide) wq173 rfl rfl rfl rfl rfl rfl dX12_init_69 (fun H locs hP hD hS => ?_)
  refine lv_aload_n hx hb dX12_init_72 rfl (lv_at hl 0 rfl) ?_
  refine lv_bipush (v := 60) hx hb dX12_init_73 (by decide) ?_
  refine x_newJ (wg := fun q8 => [(h0, .inr (12, [v0_0, v0_1, .int (-1), .ref q1, v0_4, v0_5, v0_6, v0_7, v0_8, v0_9, v0_10, v0_11, v0_12, v0_13, .ref q2, .ref q3, .ref q4, .ref q5, .int 2, v0_19, .ref q6, .ref q7, v0_22, v0_23, v0_24, v0_25, v0_26, v0_27, v0_28, v0_29, v0_30, v0_31, v0_32, v0_33, v0_34, v0_35, v0_36, v0_37, v0_38, v0_39, v0_40, v0_41, v0_42, v0_43, v0_44, v0_45, v0_46, v0_47, v0_48, v0_49, v0_50, v0_51, v0_52, v0_53, v0_54, v0_55, v0_56, v0_57, v0_58, v0_59, v0_60, v0_61, v0_62, v0_63, v0_64])), (q1, .inl (cyI, 400, .inl (fun _ => 0))), (q2, .inl (cyI, 60000, .inl (fun _ => 0))), (q3, .inl (cyI, 60000, .inl (fun _ => 0))), (q4, .inl (cyI, 60000, .inl (fun _ => 0))), (q5, .inl (cyI, 4096, .inl (fun _ => 0))), (q6, .inl (cyJ, 10, .inr (.inl (fun _ => 0)))), (q7, .inl (cyJ, 10, .inr (.inl (fun _ => 0)))), (q8, .inl (cyJ, 60, .inr (.inl (fun _ => 0))))]) E wq171 hP hD hS hA 60 (by decide) (by decide) rfl ⟨rfl, rfl⟩ ⟨Nat.le_of_ble_eq_true rfl, Nat.le_of_ble_eq_true rfl⟩ (fun _ => rfl) dX12_init_75 (fun q8 H hP hD hS => ?_)
  refine x_putF (ws' := [(h0, .inr (12, [v0_0, v0_1, .int (-1), .ref q1, v0_4, v0_5, v0_6, v0_7, v0_8, v0_9, v0_10, v0_11, v0_12, v0_13, .ref q2, .ref q3, .ref q4, .ref q5, .int 2, v0_19, .ref q6, .ref q7, .ref q8, v0_23, v0_24, v0_25, v0_26, v0_27, v0_28, v0_29, v0_30, v0_31, v0_32, v0_33, v0_34, v0_35, v0_36, v0_37, v0_38, v0_39, v0_40, v0_41, v0_42, v0_43, v0_44, v0_45, v0_46, v0_47, v0_48, v0_49, v0_50, v0_51, v0_52, v0_53, v0_54, v0_55, v0_56, v0_57, v0_58, v0_59, v0_60, v0_61, v0_62, v0_63, v0_64])), (q1, .inl (cyI, 400, .inl (fun _ => 0))), (q2, .inl (cyI, 60000, .inl (fun _ => 0))), (q3, .inl (cyI, 60000, .inl (fun _ => 0))), (q4, .inl (cyI, 60000, .inl (fun _ => 0))), (q5, .inl (cyI, 4096, .inl (fun _ => 0))), (q6, .inl (cyJ, 10, .inr (.inl (fun _ => 0)))), (q7, .inl (cyJ, 10, .inr (.inl (fun _ => 0)))), (q8, .inl (cyJ, 60, .inr (.inl (fun _ => 0))))]) E iX12 tyX12 tyX12_ok nmX12 hP hD hS hnm 0 rfl rfl 22 (by decide) wq174 rfl rfl rfl rfl rfl rfl dX12_init_77 (fun H locs hP hD hS => ?_)
  refine lv_aload_n hx hb dX12_init_80 rfl (lv_at hl 0 rfl) ?_
  refine lv_bipush (v := 120) hx hb dX12_init_81 (by decide) ?_
  refine x_newI (wg := fun q9 => [(h0, .inr (12, [v0_0, v0_1, .int (-1), .ref q1, v0_4, v0_5, v0_6, v0_7, v0_8, v0_9, v0_10, v0_11, v0_12, v0_13, .ref q2, .ref q3, .ref q4, .ref q5, .int 2, v0_19, .ref q6, .ref q7, .ref q8, v0_23, v0_24, v0_25, v0_26, v0_27, v0_28, v0_29, v0_30, v0_31, v0_32, v0_33, v0_34, v0_35, v0_36, v0_37, v0_38, v0_39, v0_40, v0_41, v0_42, v0_43, v0_44, v0_45, v0_46, v0_47, v0_48, v0_49, v0_50, v0_51, v0_52, v0_53, v0_54, v0_55, v0_56, v0_57, v0_58, v0_59, v0_60, v0_61, v0_62, v0_63, v0_64])), (q1, .inl (cyI, 400, .inl (fun _ => 0))), (q2, .inl (cyI, 60000, .inl (fun _ => 0))), (q3, .inl (cyI, 60000, .inl (fun _ => 0))), (q4, .inl (cyI, 60000, .inl (fun _ => 0))), (q5, .inl (cyI, 4096, .inl (fun _ => 0))), (q6, .inl (cyJ, 10, .inr (.inl (fun _ => 0)))), (q7, .inl (cyJ, 10, .inr (.inl (fun _ => 0)))), (q8, .inl (cyJ, 60, .inr (.inl (fun _ => 0)))), (q9, .inl (cyI, 120, .inl (fun _ => 0)))]) E wq3 hP hD hS hA 120 (by decide) (by decide) rfl ⟨rfl, rfl⟩ ⟨Nat.le_of_ble_eq_true rfl, Nat.le_of_ble_eq_true rfl⟩ (fun _ => rfl) dX12_init_83 (fun q9 H hP hD hS => ?_)
  refine x_putF (ws' := [(h0, .inr (12, [v0_0, v0_1, .int (-1), .ref q1, v0_4, v0_5, v0_6, v0_7, v0_8, v0_9, v0_10, v0_11, v0_12, v0_13, .ref q2, .ref q3, .ref q4, .ref q5, .int 2, v0_19, .ref q6, .ref q7, .ref q8, .ref q9, v0_24, v0_25, v0_26, v0_27, v0_28, v0_29, v0_30, v0_31, v0_32, v0_33, v0_34, v0_35, v0_36, v0_37, v0_38, v0_39, v0_40, v0_41, v0_42, v0_43, v0_44, v0_45, v0_46, v0_47, v0_48, v0_49, v0_50, v0_51, v0_52, v0_53, v0_54, v0_55, v0_56, v0_57, v0_58, v0_59, v0_60, v0_61, v0_62, v0_63, v0_64])), (q1, .inl (cyI, 400, .inl (fun _ => 0))), (q2, .inl (cyI, 60000, .inl (fun _ => 0))), (q3, .inl (cyI, 60000, .inl (fun _ => 0))), (q4, .inl (cyI, 60000, .inl (fun _ => 0))), (q5, .inl (cyI, 4096, .inl (fun _ => 0))), (q6, .inl (cyJ, 10, .inr (.inl (fun _ => 0)))), (q7, .inl (cyJ, 10, .inr (.inl (fun _ => 0)))), (q8, .inl (cyJ, 60, .inr (.inl (fun _ => 0)))), (q9, .inl (cyI, 120, .inl (fun _ => 0)))]) E iX12 tyX12 tyX12_ok nmX12 hP hD hS hnm 0 rfl rfl 23 (by decide) wq175 rfl rfl rfl rfl rfl rfl dX12_init_85 (fun H locs hP hD hS => ?_)
  refine lv_aload_n hx hb dX12_init_88 rfl (lv_at hl 0 rfl) ?_
  refine lv_bipush (v := 10) hx hb dX12_init_89 (by decide) ?_
  refine x_newI (wg := fun q10 => [(h0, .inr (12, [v0_0, v0_1, .int (-1), .ref q1, v0_4, v0_5, v0_6, v0_7, v0_8, v0_9, v0_10, v0_11, v0_12, v0_13, .ref q2, .ref q3, .ref q4, .ref q5, .int 2, v0_19, .ref q6, .ref q7, .ref q8, .ref q9, v0_24, v0_25, v0_26, v0_27, v0_28, v0_29, v0_30, v0_31, v0_32, v0_33, v0_34, v0_35, v0_36, v0_37, v0_38, v0_39, v0_40, v0_41, v0_42, v0_43, v0_44, v0_45, v0_46, v0_47, v0_48, v0_49, v0_50, v0_51, v0_52, v0_53, v0_54, v0_55, v0_56, v0_57, v0_58, v0_59, v0_60, v0_61, v0_62, v0_63, v0_64])), (q1, .inl (cyI, 400, .inl (fun _ => 0))), (q2, .inl (cyI, 60000, .inl (fun _ => 0))), (q3, .inl (cyI, 60000, .inl (fun _ => 0))), (q4, .inl (cyI, 60000, .inl (fun _ => 0))), (q5, .inl (cyI, 4096, .inl (fun _ => 0))), (q6, .inl (cyJ, 10, .inr (.inl (fun _ => 0)))), (q7, .inl (cyJ, 10, .inr (.inl (fun _ => 0)))), (q8, .inl (cyJ, 60, .inr (.inl (fun _ => 0)))), (q9, .inl (cyI, 120, .inl (fun _ => 0))), (q10, .inl (cyI, 10, .inl (fun _ => 0)))]) E wq3 hP hD hS hA 10 (by decide) (by decide) rfl ⟨rfl, rfl⟩ ⟨Nat.le_of_ble_eq_true rfl, Nat.le_of_ble_eq_true rfl⟩ (fun _ => rfl) dX12_init_91 (fun q10 H hP hD hS => ?_)
  refine x_putF (ws' := [(h0, .inr (12, [v0_0, v0_1, .int (-1), .ref q1, v0_4, v0_5, v0_6, v0_7, v0_8, v0_9, v0_10, v0_11, v0_12, v0_13, .ref q2, .ref q3, .ref q4, .ref q5, .int 2, v0_19, .ref q6, .ref q7, .ref q8, .ref q9, .ref q10, v0_25, v0_26, v0_27, v0_28, v0_29, v0_30, v0_31, v0_32, v0_33, v0_34, v0_35, v0_36, v0_37, v0_38, v0_39, v0_40, v0_41, v0_42, v0_43, v0_44, v0_45, v0_46, v0_47, v0_48, v0_49, v0_50, v0_51, v0_52, v0_53, v0_54, v0_55, v0_56, v0_57, v0_58, v0_59, v0_60, v0_61, v0_62, v0_63, v0_64])), (q1, .inl (cyI, 400, .inl (fun _ => 0))), (q2, .inl (cyI, 60000, .inl (fun _ => 0))), (q3, .inl (cyI, 60000, .inl (fun _ => 0))), (q4, .inl (cyI, 60000, .inl (fun _ => 0))), (q5, .inl (cyI, 4096, .inl (fun _ => 0))), (q6, .inl (cyJ, 10, .inr (.inl (fun _ => 0)))), (q7, .inl (cyJ, 10, .inr (.inl (fun _ => 0)))), (q8, .inl (cyJ, 60, .inr (.inl (fun _ => 0)))), (q9, .inl (cyI, 120, .inl (fun _ => 0))), (q10, .inl (cyI, 10, .inl (fun _ => 0)))]) E iX12 tyX12 tyX12_ok nmX12 hP hD hS hnm 0 rfl rfl 24 (by decide) wq176 rfl rfl rfl rfl rfl rfl dX12_init_93 (fun H locs hP hD hS => ?_)
  refine lv_aload_n hx hb dX12_init_96 rfl (lv_at hl 0 rfl) ?_
  refine lv_bipush (v := 10) hx hb dX12_init_97 (by decide) ?_
  refine x_newI (wg := fun q11 => [(h0, .inr (12, [v0_0, v0_1, .int (-1), .ref q1, v0_4, v0_5, v0_6, v0_7, v0_8, v0_9, v0_10, v0_11, v0_12, v0_13, .ref q2, .ref q3, .ref q4, .ref q5, .int 2, v0_19, .ref q6, .ref q7, .ref q8, .ref q9, .ref q10, v0_25, v0_26, v0_27, v0_28, v0_29, v0_30, v0_31, v0_32, v0_33, v0_34, v0_35, v0_36, v0_37, v0_38, v0_39, v0_40, v0_41, v0_42, v0_43, v0_44, v0_45, v0_46, v0_47, v0_48, v0_49, v0_50, v0_51, v0_52, v0_53, v0_54, v0_55, v0_56, v0_57, v0_58, v0_59, v0_60, v0_61, v0_62, v0_63, v0_64])), (q1, .inl (cyI, 400, .inl (fun _ => 0))), (q2, .inl (cyI, 60000, .inl (fun _ => 0))), (q3, .inl (cyI, 60000, .inl (fun _ => 0))), (q4, .inl (cyI, 60000, .inl (fun _ => 0))), (q5, .inl (cyI, 4096, .inl (fun _ => 0))), (q6, .inl (cyJ, 10, .inr (.inl (fun _ => 0)))), (q7, .inl (cyJ, 10, .inr (.inl (fun _ => 0)))), (q8, .inl (cyJ, 60, .inr (.inl (fun _ => 0)))), (q9, .inl (cyI, 120, .inl (fun _ => 0))), (q10, .inl (cyI, 10, .inl (fun _ => 0))), (q11, .inl (cyI, 10, .inl (fun _ => 0)))]) E wq3 hP hD hS hA 10 (by decide) (by decide) rfl ⟨rfl, rfl⟩ ⟨Nat.le_of_ble_eq_true rfl, Nat.le_of_ble_eq_true rfl⟩ (fun _ => rfl) dX12_init_99 (fun q11 H hP hD hS => ?_)
  refine x_putF (ws' := [(h0, .inr (12, [v0_0, v0_1, .int (-1), .ref q1, v0_4, v0_5, v0_6, v0_7, v0_8, v0_9, v0_10, v0_11, v0_12, v0_13, .ref q2, .ref q3, .ref q4, .ref q5, .int 2, v0_19, .ref q6, .ref q7, .ref q8, .ref q9, .ref q10, .ref q11, v0_26, v0_27, v0_28, v0_29, v0_30, v0_31, v0_32, v0_33, v0_34, v0_35, v0_36, v0_37, v0_38, v0_39, v0_40, v0_41, v0_42, v0_43, v0_44, v0_45, v0_46, v0_47, v0_48, v0_49, v0_50, v0_51, v0_52, v0_53, v0_54, v0_55, v0_56, v0_57, v0_58, v0_59, v0_60, v0_61, v0_62, v0_63, v0_64])), (q1, .inl (cyI, 400, .inl (fun _ => 0))), (q2, .inl (cyI, 60000, .inl (fun _ => 0))), (q3, .inl (cyI, 60000, .inl (fun _ => 0))), (q4, .inl (cyI, 60000, .inl (fun _ => 0))), (q5, .inl (cyI, 4096, .inl (fun _ => 0))), (q6, .inl (cyJ, 10, .inr (.inl (fun _ => 0)))), (q7, .inl (cyJ, 10, .inr (.inl (fun _ => 0)))), (q8, .inl (cyJ, 60, .inr (.inl (fun _ => 0)))), (q9, .inl (cyI, 120, .inl (fun _ => 0))), (q10, .inl (cyI, 10, .inl (fun _ => 0))), (q11, .inl (cyI, 10, .inl (fun _ => 0)))]) E iX12 tyX12 tyX12_ok nmX12 hP hD hS hnm 0 rfl rfl 25 (by decide) wq177 rfl rfl rfl rfl rfl rfl dX12_init_101 (fun H locs hP hD hS => ?_)
  refine lv_aload_n hx hb dX12_init_104 rfl (lv_at hl 0 rfl) ?_
  refine lv_sipush (v := 900) hx hb dX12_init_105 (by decide) ?_
  refine x_newI (wg := fun q12 => [(h0, .inr (12, [v0_0, v0_1, .int (-1), .ref q1, v0_4, v0_5, v0_6, v0_7, v0_8, v0_9, v0_10, v0_11, v0_12, v0_13, .ref q2, .ref q3, .ref q4, .ref q5, .int 2, v0_19, .ref q6, .ref q7, .ref q8, .ref q9, .ref q10, .ref q11, v0_26, v0_27, v0_28, v0_29, v0_30, v0_31, v0_32, v0_33, v0_34, v0_35, v0_36, v0_37, v0_38, v0_39, v0_40, v0_41, v0_42, v0_43, v0_44, v0_45, v0_46, v0_47, v0_48, v0_49, v0_50, v0_51, v0_52, v0_53, v0_54, v0_55, v0_56, v0_57, v0_58, v0_59, v0_60, v0_61, v0_62, v0_63, v0_64])), (q1, .inl (cyI, 400, .inl (fun _ => 0))), (q2, .inl (cyI, 60000, .inl (fun _ => 0))), (q3, .inl (cyI, 60000, .inl (fun _ => 0))), (q4, .inl (cyI, 60000, .inl (fun _ => 0))), (q5, .inl (cyI, 4096, .inl (fun _ => 0))), (q6, .inl (cyJ, 10, .inr (.inl (fun _ => 0)))), (q7, .inl (cyJ, 10, .inr (.inl (fun _ => 0)))), (q8, .inl (cyJ, 60, .inr (.inl (fun _ => 0)))), (q9, .inl (cyI, 120, .inl (fun _ => 0))), (q10, .inl (cyI, 10, .inl (fun _ => 0))), (q11, .inl (cyI, 10, .inl (fun _ => 0))), (q12, .inl (cyI, 900, .inl (fun _ => 0)))]) E wq3 hP hD hS hA 900 (by decide) (by decide) rfl ⟨rfl, rfl⟩ ⟨Nat.le_of_ble_eq_true rfl, Nat.le_of_ble_eq_true rfl⟩ (fun _ => rfl) dX12_init_108 (fun q12 H hP hD hS => ?_)
  refine x_putF (ws' := [(h0, .inr (12, [v0_0, v0_1, .int (-1), .ref q1, v0_4, v0_5, v0_6, v0_7, v0_8, v0_9, v0_10, v0_11, v0_12, v0_13, .ref q2, .ref q3, .ref q4, .ref q5, .int 2, v0_19, .ref q6, .ref q7, .ref q8, .ref q9, .ref q10, .ref q11, v0_26, v0_27, v0_28, v0_29, .ref q12, v0_31, v0_32, v0_33, v0_34, v0_35, v0_36, v0_37, v0_38, v0_39, v0_40, v0_41, v0_42, v0_43, v0_44, v0_45, v0_46, v0_47, v0_48, v0_49, v0_50, v0_51, v0_52, v0_53, v0_54, v0_55, v0_56, v0_57, v0_58, v0_59, v0_60, v0_61, v0_62, v0_63, v0_64])), (q1, .inl (cyI, 400, .inl (fun _ => 0))), (q2, .inl (cyI, 60000, .inl (fun _ => 0))), (q3, .inl (cyI, 60000, .inl (fun _ => 0))), (q4, .inl (cyI, 60000, .inl (fun _ => 0))), (q5, .inl (cyI, 4096, .inl (fun _ => 0))), (q6, .inl (cyJ, 10, .inr (.inl (fun _ => 0)))), (q7, .inl (cyJ, 10, .inr (.inl (fun _ => 0)))), (q8, .inl (cyJ, 60, .inr (.inl (fun _ => 0)))), (q9, .inl (cyI, 120, .inl (fun _ => 0))), (q10, .inl (cyI, 10, .inl (fun _ => 0))), (q11, .inl (cyI, 10, .inl (fun _ => 0))), (q12, .inl (cyI, 900, .inl (fun _ => 0)))]) E iX12 tyX12 tyX12_ok nmX12 hP hD hS hnm 0 rfl rfl 30 (by decide) wq178 rfl rfl rfl rfl rfl rfl dX12_init_110 (fun H locs hP hD hS => ?_)
  refine lv_aload_n hx hb dX12_init_113 rfl (lv_at hl 0 rfl) ?_
  refine lv_bipush (v := 120) hx hb dX12_init_114 (by decide) ?_
  refine x_newI (wg := fun q13 => [(h0, .inr (12, [v0_0, v0_1, .int (-1), .ref q1, v0_4, v0_5, v0_6, v0_7, v0_8, v0_9, v0_10, v0_11, v0_12, v0_13, .ref q2, .ref q3, .ref q4, .ref q5, .int 2, v0_19, .ref q6, .ref q7, .ref q8, .ref q9, .ref q10, .ref q11, v0_26, v0_27, v0_28, v0_29, .ref q12, v0_31, v0_32, v0_33, v0_34, v0_35, v0_36, v0_37, v0_38, v0_39, v0_40, v0_41, v0_42, v0_43, v0_44, v0_45, v0_46, v0_47, v0_48, v0_49, v0_50, v0_51, v0_52, v0_53, v0_54, v0_55, v0_56, v0_57, v0_58, v0_59, v0_60, v0_61, v0_62, v0_63, v0_64])), (q1, .inl (cyI, 400, .inl (fun _ => 0))), (q2, .inl (cyI, 60000, .inl (fun _ => 0))), (q3, .inl (cyI, 60000, .inl (fun _ => 0))), (q4, .inl (cyI, 60000, .inl (fun _ => 0))), (q5, .inl (cyI, 4096, .inl (fun _ => 0))), (q6, .inl (cyJ, 10, .inr (.inl (fun _ => 0)))), (q7, .inl (cyJ, 10, .inr (.inl (fun _ => 0)))), (q8, .inl (cyJ, 60, .inr (.inl (fun _ => 0)))), (q9, .inl (cyI, 120, .inl (fun _ => 0))), (q10, .inl (cyI, 10, .inl (fun _ => 0))), (q11, .inl (cyI, 10, .inl (fun _ => 0))), (q12, .inl (cyI, 900, .inl (fun _ => 0))), (q13, .inl (cyI, 120, .inl (fun _ => 0)))]) E wq3 hP hD hS hA 120 (by decide) (by decide) rfl ⟨rfl, rfl⟩ ⟨Nat.le_of_ble_eq_true rfl, Nat.le_of_ble_eq_true rfl⟩ (fun _ => rfl) dX12_init_116 (fun q13 H hP hD hS => ?_)
  refine x_putF (ws' := [(h0, .inr (12, [v0_0, v0_1, .int (-1), .ref q1, v0_4, v0_5, v0_6, v0_7, v0_8, v0_9, v0_10, v0_11, v0_12, v0_13, .ref q2, .ref q3, .ref q4, .ref q5, .int 2, v0_19, .ref q6, .ref q7, .ref q8, .ref q9, .ref q10, .ref q11, v0_26, v0_27, v0_28, v0_29, .ref q12, .ref q13, v0_32, v0_33, v0_34, v0_35, v0_36, v0_37, v0_38, v0_39, v0_40, v0_41, v0_42, v0_43, v0_44, v0_45, v0_46, v0_47, v0_48, v0_49, v0_50, v0_51, v0_52, v0_53, v0_54, v0_55, v0_56, v0_57, v0_58, v0_59, v0_60, v0_61, v0_62, v0_63, v0_64])), (q1, .inl (cyI, 400, .inl (fun _ => 0))), (q2, .inl (cyI, 60000, .inl (fun _ => 0))), (q3, .inl (cyI, 60000, .inl (fun _ => 0))), (q4, .inl (cyI, 60000, .inl (fun _ => 0))), (q5, .inl (cyI, 4096, .inl (fun _ => 0))), (q6, .inl (cyJ, 10, .inr (.inl (fun _ => 0)))), (q7, .inl (cyJ, 10, .inr (.inl (fun _ => 0)))), (q8, .inl (cyJ, 60, .inr (.inl (fun _ => 0)))), (q9, .inl (cyI, 120, .inl (fun _ => 0))), (q10, .inl (cyI, 10, .inl (fun _ => 0))), (q11, .inl (cyI, 10, .inl (fun _ => 0))), (q12, .inl (cyI, 900, .inl (fun _ => 0))), (q13, .inl (cyI, 120, .inl (fun _ => 0)))]) E iX12 tyX12 tyX12_ok nmX12 hP hD hS hnm 0 rfl rfl 31 (by decide) wq179 rfl rfl rfl rfl rfl rfl dX12_init_118 (fun H locs hP hD hS => ?_)
  refine lv_aload_n hx hb dX12_init_121 rfl (lv_at hl 0 rfl) ?_
  refine lv_bipush (v := 120) hx hb dX12_init_122 (by decide) ?_
  refine x_newJ (wg := fun q14 => [(h0, .inr (12, [v0_0, v0_1, .int (-1), .ref q1, v0_4, v0_5, v0_6, v0_7, v0_8, v0_9, v0_10, v0_11, v0_12, v0_13, .ref q2, .ref q3, .ref q4, .ref q5, .int 2, v0_19, .ref q6, .ref q7, .ref q8, .ref q9, .ref q10, .ref q11, v0_26, v0_27, v0_28, v0_29, .ref q12, .ref q13, v0_32, v0_33, v0_34, v0_35, v0_36, v0_37, v0_38, v0_39, v0_40, v0_41, v0_42, v0_43, v0_44, v0_45, v0_46, v0_47, v0_48, v0_49, v0_50, v0_51, v0_52, v0_53, v0_54, v0_55, v0_56, v0_57, v0_58, v0_59, v0_60, v0_61, v0_62, v0_63, v0_64])), (q1, .inl (cyI, 400, .inl (fun _ => 0))), (q2, .inl (cyI, 60000, .inl (fun _ => 0))), (q3, .inl (cyI, 60000, .inl (fun _ => 0))), (q4, .inl (cyI, 60000, .inl (fun _ => 0))), (q5, .inl (cyI, 4096, .inl (fun _ => 0))), (q6, .inl (cyJ, 10, .inr (.inl (fun _ => 0)))), (q7, .inl (cyJ, 10, .inr (.inl (fun _ => 0)))), (q8, .inl (cyJ, 60, .inr (.inl (fun _ => 0)))), (q9, .inl (cyI, 120, .inl (fun _ => 0))), (q10, .inl (cyI, 10, .inl (fun _ => 0))), (q11, .inl (cyI, 10, .inl (fun _ => 0))), (q12, .inl (cyI, 900, .inl (fun _ => 0))), (q13, .inl (cyI, 120, .inl (fun _ => 0))), (q14, .inl (cyJ, 120, .inr (.inl (fun _ => 0))))]) E wq171 hP hD hS hA 120 (by decide) (by decide) rfl ⟨rfl, rfl⟩ ⟨Nat.le_of_ble_eq_true rfl, Nat.le_of_ble_eq_true rfl⟩ (fun _ => rfl) dX12_init_124 (fun q14 H hP hD hS => ?_)
  refine x_putF (ws' := [(h0, .inr (12, [v0_0, v0_1, .int (-1), .ref q1, v0_4, v0_5, v0_6, v0_7, v0_8, v0_9, v0_10, v0_11, v0_12, v0_13, .ref q2, .ref q3, .ref q4, .ref q5, .int 2, v0_19, .ref q6, .ref q7, .ref q8, .ref q9, .ref q10, .ref q11, v0_26, v0_27, v0_28, v0_29, .ref q12, .ref q13, .ref q14, v0_33, v0_34, v0_35, v0_36, v0_37, v0_38, v0_39, v0_40, v0_41, v0_42, v0_43, v0_44, v0_45, v0_46, v0_47, v0_48, v0_49, v0_50, v0_51, v0_52, v0_53, v0_54, v0_55, v0_56, v0_57, v0_58, v0_59, v0_60, v0_61, v0_62, v0_63, v0_64])), (q1, .inl (cyI, 400, .inl (fun _ => 0))), (q2, .inl (cyI, 60000, .inl (fun _ => 0))), (q3, .inl (cyI, 60000, .inl (fun _ => 0))), (q4, .inl (cyI, 60000, .inl (fun _ => 0))), (q5, .inl (cyI, 4096, .inl (fun _ => 0))), (q6, .inl (cyJ, 10, .inr (.inl (fun _ => 0)))), (q7, .inl (cyJ, 10, .inr (.inl (fun _ => 0)))), (q8, .inl (cyJ, 60, .inr (.inl (fun _ => 0)))), (q9, .inl (cyI, 120, .inl (fun _ => 0))), (q10, .inl (cyI, 10, .inl (fun _ => 0))), (q11, .inl (cyI, 10, .inl (fun _ => 0))), (q12, .inl (cyI, 900, .inl (fun _ => 0))), (q13, .inl (cyI, 120, .inl (fun _ => 0))), (q14, .inl (cyJ, 120, .inr (.inl (fun _ => 0))))]) E iX12 tyX12 tyX12_ok nmX12 hP hD hS hnm 0 rfl rfl 32 (by decide) wq180 rfl rfl rfl rfl rfl rfl dX12_init_126 (fun H locs hP hD hS => ?_)
  refine lv_aload_n hx hb dX12_init_129 rfl (lv_at hl 0 rfl) ?_
  refine x_ldc E wq181 dX12_init_130 ?_
  refine x_newI (wg := fun q15 => [(h0, .inr (12, [v0_0, v0_1, .int (-1), .ref q1, v0_4, v0_5, v0_6, v0_7, v0_8, v0_9, v0_10, v0_11, v0_12, v0_13, .ref q2, .ref q3, .ref q4, .ref q5, .int 2, v0_19, .ref q6, .ref q7, .ref q8, .ref q9, .ref q10, .ref q11, v0_26, v0_27, v0_28, v0_29, .ref q12, .ref q13, .ref q14, v0_33, v0_34, v0_35, v0_36, v0_37, v0_38, v0_39, v0_40, v0_41, v0_42, v0_43, v0_44, v0_45, v0_46, v0_47, v0_48, v0_49, v0_50, v0_51, v0_52, v0_53, v0_54, v0_55, v0_56, v0_57, v0_58, v0_59, v0_60, v0_61, v0_62, v0_63, v0_64])), (q1, .inl (cyI, 400, .inl (fun _ => 0))), (q2, .inl (cyI, 60000, .inl (fun _ => 0))), (q3, .inl (cyI, 60000, .inl (fun _ => 0))), (q4, .inl (cyI, 60000, .inl (fun _ => 0))), (q5, .inl (cyI, 4096, .inl (fun _ => 0))), (q6, .inl (cyJ, 10, .inr (.inl (fun _ => 0)))), (q7, .inl (cyJ, 10, .inr (.inl (fun _ => 0)))), (q8, .inl (cyJ, 60, .inr (.inl (fun _ => 0)))), (q9, .inl (cyI, 120, .inl (fun _ => 0))), (q10, .inl (cyI, 10, .inl (fun _ => 0))), (q11, .inl (cyI, 10, .inl (fun _ => 0))), (q12, .inl (cyI, 900, .inl (fun _ => 0))), (q13, .inl (cyI, 120, .inl (fun _ => 0))), (q14, .inl (cyJ, 120, .inr (.inl (fun _ => 0)))), (q15, .inl (cyI, 330720, .inl (fun _ => 0)))]) E wq3 hP hD hS hA 330720 (by decide) (by decide) rfl ⟨rfl, rfl⟩ ⟨Nat.le_of_ble_eq_true rfl, Nat.le_of_ble_eq_true rfl⟩ (fun _ => rfl) dX12_init_132 (fun q15 H hP hD hS => ?_)
  refine x_putF (ws' := [(h0, .inr (12, [v0_0, v0_1, .int (-1), .ref q1, v0_4, v0_5, v0_6, v0_7, v0_8, v0_9, v0_10, v0_11, v0_12, v0_13, .ref q2, .ref q3, .ref q4, .ref q5, .int 2, v0_19, .ref q6, .ref q7, .ref q8, .ref q9, .ref q10, .ref q11, v0_26, v0_27, v0_28, v0_29, .ref q12, .ref q13, .ref q14, v0_33, v0_34, v0_35, .ref q15, v0_37, v0_38, v0_39, v0_40, v0_41, v0_42, v0_43, v0_44, v0_45, v0_46, v0_47, v0_48, v0_49, v0_50, v0_51, v0_52, v0_53, v0_54, v0_55, v0_56, v0_57, v0_58, v0_59, v0_60, v0_61, v0_62, v0_63, v0_64])), (q1, .inl (cyI, 400, .inl (fun _ => 0))), (q2, .inl (cyI, 60000, .inl (fun _ => 0))), (q3, .inl (cyI, 60000, .inl (fun _ => 0))), (q4, .inl (cyI, 60000, .inl (fun _ => 0))), (q5, .inl (cyI, 4096, .inl (fun _ => 0))), (q6, .inl (cyJ, 10, .inr (.inl (fun _ => 0)))), (q7, .inl (cyJ, 10, .inr (.inl (fun _ => 0)))), (q8, .inl (cyJ, 60, .inr (.inl (fun _ => 0)))), (q9, .inl (cyI, 120, .inl (fun _ => 0))), (q10, .inl (cyI, 10, .inl (fun _ => 0))), (q11, .inl (cyI, 10, .inl (fun _ => 0))), (q12, .inl (cyI, 900, .inl (fun _ => 0))), (q13, .inl (cyI, 120, .inl (fun _ => 0))), (q14, .inl (cyJ, 120, .inr (.inl (fun _ => 0)))), (q15, .inl (cyI, 330720, .inl (fun _ => 0)))]) E iX12 tyX12 tyX12_ok nmX12 hP hD hS hnm 0 rfl rfl 36 (by decide) wq182 rfl rfl rfl rfl rfl rfl dX12_init_134 (fun H locs hP hD hS => ?_)
  refine lv_aload_n hx hb dX12_init_137 rfl (lv_at hl 0 rfl) ?_
  refine lv_sipush (v := 2880) hx hb dX12_init_138 (by decide) ?_
  refine x_newI (wg := fun q16 => [(h0, .inr (12, [v0_0, v0_1, .int (-1), .ref q1, v0_4, v0_5, v0_6, v0_7, v0_8, v0_9, v0_10, v0_11, v0_12, v0_13, .ref q2, .ref q3, .ref q4, .ref q5, .int 2, v0_19, .ref q6, .ref q7, .ref q8, .ref q9, .ref q10, .ref q11, v0_26, v0_27, v0_28, v0_29, .ref q12, .ref q13, .ref q14, v0_33, v0_34, v0_35, .ref q15, v0_37, v0_38, v0_39, v0_40, v0_41, v0_42, v0_43, v0_44, v0_45, v0_46, v0_47, v0_48, v0_49, v0_50, v0_51, v0_52, v0_53, v0_54, v0_55, v0_56, v0_57, v0_58, v0_59, v0_60, v0_61, v0_62, v0_63, v0_64])), (q1, .inl (cyI, 400, .inl (fun _ => 0))), (q2, .inl (cyI, 60000, .inl (fun _ => 0))), (q3, .inl (cyI, 60000, .inl (fun _ => 0))), (q4, .inl (cyI, 60000, .inl (fun _ => 0))), (q5, .inl (cyI, 4096, .inl (fun _ => 0))), (q6, .inl (cyJ, 10, .inr (.inl (fun _ => 0)))), (q7, .inl (cyJ, 10, .inr (.inl (fun _ => 0)))), (q8, .inl (cyJ, 60, .inr (.inl (fun _ => 0)))), (q9, .inl (cyI, 120, .inl (fun _ => 0))), (q10, .inl (cyI, 10, .inl (fun _ => 0))), (q11, .inl (cyI, 10, .inl (fun _ => 0))), (q12, .inl (cyI, 900, .inl (fun _ => 0))), (q13, .inl (cyI, 120, .inl (fun _ => 0))), (q14, .inl (cyJ, 120, .inr (.inl (fun _ => 0)))), (q15, .inl (cyI, 330720, .inl (fun _ => 0))), (q16, .inl (cyI, 2880, .inl (fun _ => 0)))]) E wq3 hP hD hS hA 2880 (by decide) (by decide) rfl ⟨rfl, rfl⟩ ⟨Nat.le_of_ble_eq_true rfl, Nat.le_of_ble_eq_true rfl⟩ (fun _ => rfl) dX12_init_141 (fun q16 H hP hD hS => ?_)
  refine x_putF (ws' := [(h0, .inr (12, [v0_0, v0_1, .int (-1), .ref q1, v0_4, v0_5, v0_6, v0_7, v0_8, v0_9, v0_10, v0_11, v0_12, v0_13, .ref q2, .ref q3, .ref q4, .ref q5, .int 2, v0_19, .ref q6, .ref q7, .ref q8, .ref q9, .ref q10, .ref q11, v0_26, v0_27, v0_28, v0_29, .ref q12, .ref q13, .ref q14, v0_33, v0_34, v0_35, .ref q15, .ref q16, v0_38, v0_39, v0_40, v0_41, v0_42, v0_43, v0_44, v0_45, v0_46, v0_47, v0_48, v0_49, v0_50, v0_51, v0_52, v0_53, v0_54, v0_55, v0_56, v0_57, v0_58, v0_59, v0_60, v0_61, v0_62, v0_63, v0_64])), (q1, .inl (cyI, 400, .inl (fun _ => 0))), (q2, .inl (cyI, 60000, .inl (fun _ => 0))), (q3, .inl (cyI, 60000, .inl (fun _ => 0))), (q4, .inl (cyI, 60000, .inl (fun _ => 0))), (q5, .inl (cyI, 4096, .inl (fun _ => 0))), (q6, .inl (cyJ, 10, .inr (.inl (fun _ => 0)))), (q7, .inl (cyJ, 10, .inr (.inl (fun _ => 0)))), (q8, .inl (cyJ, 60, .inr (.inl (fun _ => 0)))), (q9, .inl (cyI, 120, .inl (fun _ => 0))), (q10, .inl (cyI, 10, .inl (fun _ => 0))), (q11, .inl (cyI, 10, .inl (fun _ => 0))), (q12, .inl (cyI, 900, .inl (fun _ => 0))), (q13, .inl (cyI, 120, .inl (fun _ => 0))), (q14, .inl (cyJ, 120, .inr (.inl (fun _ => 0)))), (q15, .inl (cyI, 330720, .inl (fun _ => 0))), (q16, .inl (cyI, 2880, .inl (fun _ => 0)))]) E iX12 tyX12 tyX12_ok nmX12 hP hD hS hnm 0 rfl rfl 37 (by decide) wq183 rfl rfl rfl rfl rfl rfl dX12_init_143 (fun H locs hP hD hS => ?_)
  refine lv_aload_n hx hb dX12_init_146 rfl (lv_at hl 0 rfl) ?_
  refine lv_sipush (v := 300) hx hb dX12_init_147 (by decide) ?_
  refine x_newI (wg := fun q17 => [(h0, .inr (12, [v0_0, v0_1, .int (-1), .ref q1, v0_4, v0_5, v0_6, v0_7, v0_8, v0_9, v0_10, v0_11, v0_12, v0_13, .ref q2, .ref q3, .ref q4, .ref q5, .int 2, v0_19, .ref q6, .ref q7, .ref q8, .ref q9, .ref q10, .ref q11, v0_26, v0_27, v0_28, v0_29, .ref q12, .ref q13, .ref q14, v0_33, v0_34, v0_35, .ref q15, .ref q16, v0_38, v0_39, v0_40, v0_41, v0_42, v0_43, v0_44, v0_45, v0_46, v0_47, v0_48, v0_49, v0_50, v0_51, v0_52, v0_53, v0_54, v0_55, v0_56, v0_57, v0_58, v0_59, v0_60, v0_61, v0_62, v0_63, v0_64])), (q1, .inl (cyI, 400, .inl (fun _ => 0))), (q2, .inl (cyI, 60000, .inl (fun _ => 0))), (q3, .inl (cyI, 60000, .inl (fun _ => 0))), (q4, .inl (cyI, 60000, .inl (fun _ => 0))), (q5, .inl (cyI, 4096, .inl (fun _ => 0))), (q6, .inl (cyJ, 10, .inr (.inl (fun _ => 0)))), (q7, .inl (cyJ, 10, .inr (.inl (fun _ => 0)))), (q8, .inl (cyJ, 60, .inr (.inl (fun _ => 0)))), (q9, .inl (cyI, 120, .inl (fun _ => 0))), (q10, .inl (cyI, 10, .inl (fun _ => 0))), (q11, .inl (cyI, 10, .inl (fun _ => 0))), (q12, .inl (cyI, 900, .inl (fun _ => 0))), (q13, .inl (cyI, 120, .inl (fun _ => 0))), (q14, .inl (cyJ, 120, .inr (.inl (fun _ => 0)))), (q15, .inl (cyI, 330720, .inl (fun _ => 0))), (q16, .inl (cyI, 2880, .inl (fun _ => 0))), (q17, .inl (cyI, 300, .inl (fun _ => 0)))]) E wq3 hP hD hS hA 300 (by decide) (by decide) rfl ⟨rfl, rfl⟩ ⟨Nat.le_of_ble_eq_true rfl, Nat.le_of_ble_eq_true rfl⟩ (fun _ => rfl) dX12_init_150 (fun q17 H hP hD hS => ?_)
  refine x_putF (ws' := [(h0, .inr (12, [v0_0, v0_1, .int (-1), .ref q1, v0_4, v0_5, v0_6, v0_7, v0_8, v0_9, v0_10, v0_11, v0_12, v0_13, .ref q2, .ref q3, .ref q4, .ref q5, .int 2, v0_19, .ref q6, .ref q7, .ref q8, .ref q9, .ref q10, .ref q11, v0_26, v0_27, v0_28, v0_29, .ref q12, .ref q13, .ref q14, v0_33, v0_34, v0_35, .ref q15, .ref q16, .ref q17, v0_39, v0_40, v0_41, v0_42, v0_43, v0_44, v0_45, v0_46, v0_47, v0_48, v0_49, v0_50, v0_51, v0_52, v0_53, v0_54, v0_55, v0_56, v0_57, v0_58, v0_59, v0_60, v0_61, v0_62, v0_63, v0_64])), (q1, .inl (cyI, 400, .inl (fun _ => 0))), (q2, .inl (cyI, 60000, .inl (fun _ => 0))), (q3, .inl (cyI, 60000, .inl (fun _ => 0))), (q4, .inl (cyI, 60000, .inl (fun _ => 0))), (q5, .inl (cyI, 4096, .inl (fun _ => 0))), (q6, .inl (cyJ, 10, .inr (.inl (fun _ => 0)))), (q7, .inl (cyJ, 10, .inr (.inl (fun _ => 0)))), (q8, .inl (cyJ, 60, .inr (.inl (fun _ => 0)))), (q9, .inl (cyI, 120, .inl (fun _ => 0))), (q10, .inl (cyI, 10, .inl (fun _ => 0))), (q11, .inl (cyI, 10, .inl (fun _ => 0))), (q12, .inl (cyI, 900, .inl (fun _ => 0))), (q13, .inl (cyI, 120, .inl (fun _ => 0))), (q14, .inl (cyJ, 120, .inr (.inl (fun _ => 0)))), (q15, .inl (cyI, 330720, .inl (fun _ => 0))), (q16, .inl (cyI, 2880, .inl (fun _ => 0))), (q17, .inl (cyI, 300, .inl (fun _ => 0)))]) E iX12 tyX12 tyX12_ok nmX12 hP hD hS hnm 0 rfl rfl 38 (by decide) wq184 rfl rfl rfl rfl rfl rfl dX12_init_152 (fun H locs hP hD hS => ?_)
  refine lv_aload_n hx hb dX12_init_155 rfl (lv_at hl 0 rfl) ?_
  refine lv_sipush (v := 320) hx hb dX12_init_156 (by decide) ?_
  refine x_newI (wg := fun q18 => [(h0, .inr (12, [v0_0, v0_1, .int (-1), .ref q1, v0_4, v0_5, v0_6, v0_7, v0_8, v0_9, v0_10, v0_11, v0_12, v0_13, .ref q2, .ref q3, .ref q4, .ref q5, .int 2, v0_19, .ref q6, .ref q7, .ref q8, .ref q9, .ref q10, .ref q11, v0_26, v0_27, v0_28, v0_29, .ref q12, .ref q13, .ref q14, v0_33, v0_34, v0_35, .ref q15, .ref q16, .ref q17, v0_39, v0_40, v0_41, v0_42, v0_43, v0_44, v0_45, v0_46, v0_47, v0_48, v0_49, v0_50, v0_51, v0_52, v0_53, v0_54, v0_55, v0_56, v0_57, v0_58, v0_59, v0_60, v0_61, v0_62, v0_63, v0_64])), (q1, .inl (cyI, 400, .inl (fun _ => 0))), (q2, .inl (cyI, 60000, .inl (fun _ => 0))), (q3, .inl (cyI, 60000, .inl (fun _ => 0))), (q4, .inl (cyI, 60000, .inl (fun _ => 0))), (q5, .inl (cyI, 4096, .inl (fun _ => 0))), (q6, .inl (cyJ, 10, .inr (.inl (fun _ => 0)))), (q7, .inl (cyJ, 10, .inr (.inl (fun _ => 0)))), (q8, .inl (cyJ, 60, .inr (.inl (fun _ => 0)))), (q9, .inl (cyI, 120, .inl (fun _ => 0))), (q10, .inl (cyI, 10, .inl (fun _ => 0))), (q11, .inl (cyI, 10, .inl (fun _ => 0))), (q12, .inl (cyI, 900, .inl (fun _ => 0))), (q13, .inl (cyI, 120, .inl (fun _ => 0))), (q14, .inl (cyJ, 120, .inr (.inl (fun _ => 0)))), (q15, .inl (cyI, 330720, .inl (fun _ => 0))), (q16, .inl (cyI, 2880, .inl (fun _ => 0))), (q17, .inl (cyI, 300, .inl (fun _ => 0))), (q18, .inl (cyI, 320, .inl (fun _ => 0)))]) E wq3 hP hD hS hA 320 (by decide) (by decide) rfl ⟨rfl, rfl⟩ ⟨Nat.le_of_ble_eq_true rfl, Nat.le_of_ble_eq_true rfl⟩ (fun _ => rfl) dX12_init_159 (fun q18 H hP hD hS => ?_)
  refine x_putF (ws' := [(h0, .inr (12, [v0_0, v0_1, .int (-1), .ref q1, v0_4, v0_5, v0_6, v0_7, v0_8, v0_9, v0_10, v0_11, v0_12, v0_13, .ref q2, .ref q3, .ref q4, .ref q5, .int 2, v0_19, .ref q6, .ref q7, .ref q8, .ref q9, .ref q10, .ref q11, v0_26, v0_27, v0_28, v0_29, .ref q12, .ref q13, .ref q14, v0_33, v0_34, v0_35, .ref q15, .ref q16, .ref q17, .ref q18, v0_40, v0_41, v0_42, v0_43, v0_44, v0_45, v0_46, v0_47, v0_48, v0_49, v0_50, v0_51, v0_52, v0_53, v0_54, v0_55, v0_56, v0_57, v0_58, v0_59, v0_60, v0_61, v0_62, v0_63, v0_64])), (q1, .inl (cyI, 400, .inl (fun _ => 0))), (q2, .inl (cyI, 60000, .inl (fun _ => 0))), (q3, .inl (cyI, 60000, .inl (fun _ => 0))), (q4, .inl (cyI, 60000, .inl (fun _ => 0))), (q5, .inl (cyI, 4096, .inl (fun _ => 0))), (q6, .inl (cyJ, 10, .inr (.inl (fun _ => 0)))), (q7, .inl (cyJ, 10, .inr (.inl (fun _ => 0)))), (q8, .inl (cyJ, 60, .inr (.inl (fun _ => 0)))), (q9, .inl (cyI, 120, .inl (fun _ => 0))), (q10, .inl (cyI, 10, .inl (fun _ => 0))), (q11, .inl (cyI, 10, .inl (fun _ => 0))), (q12, .inl (cyI, 900, .inl (fun _ => 0))), (q13, .inl (cyI, 120, .inl (fun _ => 0))), (q14, .inl (cyJ, 120, .inr (.inl (fun _ => 0)))), (q15, .inl (cyI, 330720, .inl (fun _ => 0))), (q16, .inl (cyI, 2880, .inl (fun _ => 0))), (q17, .inl (cyI, 300, .inl (fun _ => 0))), (q18, .inl (cyI, 320, .inl (fun _ => 0)))]) E iX12 tyX12 tyX12_ok nmX12 hP hD hS hnm 0 rfl rfl 39 (by decide) wq185 rfl rfl rfl rfl rfl rfl dX12_init_161 (fun H locs hP hD hS => ?_)
  refine lv_aload_n hx hb dX12_init_164 rfl (lv_at hl 0 rfl) ?_
  refine lv_bipush (v := 60) hx hb dX12_init_165 (by decide) ?_
  refine x_newI (wg := fun q19 => [(h0, .inr (12, [v0_0, v0_1, .int (-1), .ref q1, v0_4, v0_5, v0_6, v0_7, v0_8, v0_9, v0_10, v0_11, v0_12, v0_13, .ref q2, .ref q3, .ref q4, .ref q5, .int 2, v0_19, .ref q6, .ref q7, .ref q8, .ref q9, .ref q10, .ref q11, v0_26, v0_27, v0_28, v0_29, .ref q12, .ref q13, .ref q14, v0_33, v0_34, v0_35, .ref q15, .ref q16, .ref q17, .ref q18, v0_40, v0_41, v0_42, v0_43, v0_44, v0_45, v0_46, v0_47, v0_48, v0_49, v0_50, v0_51, v0_52, v0_53, v0_54, v0_55, v0_56, v0_57, v0_58, v0_59, v0_60, v0_61, v0_62, v0_63, v0_64])), (q1, .inl (cyI, 400, .inl (fun _ => 0))), (q2, .inl (cyI, 60000, .inl (fun _ => 0))), (q3, .inl (cyI, 60000, .inl (fun _ => 0))), (q4, .inl (cyI, 60000, .inl (fun _ => 0))), (q5, .inl (cyI, 4096, .inl (fun _ => 0))), (q6, .inl (cyJ, 10, .inr (.inl (fun _ => 0)))), (q7, .inl (cyJ, 10, .inr (.inl (fun _ => 0)))), (q8, .inl (cyJ, 60, .inr (.inl (fun _ => 0)))), (q9, .inl (cyI, 120, .inl (fun _ => 0))), (q10, .inl (cyI, 10, .inl (fun _ => 0))), (q11, .inl (cyI, 10, .inl (fun _ => 0))), (q12, .inl (cyI, 900, .inl (fun _ => 0))), (q13, .inl (cyI, 120, .inl (fun _ => 0))), (q14, .inl (cyJ, 120, .inr (.inl (fun _ => 0)))), (q15, .inl (cyI, 330720, .inl (fun _ => 0))), (q16, .inl (cyI, 2880, .inl (fun _ => 0))), (q17, .inl (cyI, 300, .inl (fun _ => 0))), (q18, .inl (cyI, 320, .inl (fun _ => 0))), (q19, .inl (cyI, 60, .inl (fun _ => 0)))]) E wq3 hP hD hS hA 60 (by decide) (by decide) rfl ⟨rfl, rfl⟩ ⟨Nat.le_of_ble_eq_true rfl, Nat.le_of_ble_eq_true rfl⟩ (fun _ => rfl) dX12_init_167 (fun q19 H hP hD hS => ?_)
  refine x_putF (ws' := [(h0, .inr (12, [v0_0, v0_1, .int (-1), .ref q1, v0_4, v0_5, v0_6, v0_7, v0_8, v0_9, v0_10, v0_11, v0_12, v0_13, .ref q2, .ref q3, .ref q4, .ref q5, .int 2, v0_19, .ref q6, .ref q7, .ref q8, .ref q9, .ref q10, .ref q11, v0_26, v0_27, v0_28, v0_29, .ref q12, .ref q13, .ref q14, v0_33, v0_34, v0_35, .ref q15, .ref q16, .ref q17, .ref q18, .ref q19, v0_41, v0_42, v0_43, v0_44, v0_45, v0_46, v0_47, v0_48, v0_49, v0_50, v0_51, v0_52, v0_53, v0_54, v0_55, v0_56, v0_57, v0_58, v0_59, v0_60, v0_61, v0_62, v0_63, v0_64])), (q1, .inl (cyI, 400, .inl (fun _ => 0))), (q2, .inl (cyI, 60000, .inl (fun _ => 0))), (q3, .inl (cyI, 60000, .inl (fun _ => 0))), (q4, .inl (cyI, 60000, .inl (fun _ => 0))), (q5, .inl (cyI, 4096, .inl (fun _ => 0))), (q6, .inl (cyJ, 10, .inr (.inl (fun _ => 0)))), (q7, .inl (cyJ, 10, .inr (.inl (fun _ => 0)))), (q8, .inl (cyJ, 60, .inr (.inl (fun _ => 0)))), (q9, .inl (cyI, 120, .inl (fun _ => 0))), (q10, .inl (cyI, 10, .inl (fun _ => 0))), (q11, .inl (cyI, 10, .inl (fun _ => 0))), (q12, .inl (cyI, 900, .inl (fun _ => 0))), (q13, .inl (cyI, 120, .inl (fun _ => 0))), (q14, .inl (cyJ, 120, .inr (.inl (fun _ => 0)))), (q15, .inl (cyI, 330720, .inl (fun _ => 0))), (q16, .inl (cyI, 2880, .inl (fun _ => 0))), (q17, .inl (cyI, 300, .inl (fun _ => 0))), (q18, .inl (cyI, 320, .inl (fun _ => 0))), (q19, .inl (cyI, 60, .inl (fun _ => 0)))]) E iX12 tyX12 tyX12_ok nmX12 hP hD hS hnm 0 rfl rfl 40 (by decide) wq186 rfl rfl rfl rfl rfl rfl dX12_init_169 (fun H locs hP hD hS => ?_)
  refine lv_aload_n hx hb dX12_init_172 rfl (lv_at hl 0 rfl) ?_
  refine lv_bipush (v := 60) hx hb dX12_init_173 (by decide) ?_
  refine x_put (ws' := [(h0, .inr (12, [v0_0, v0_1, .int (-1), .ref q1, v0_4, v0_5, v0_6, v0_7, v0_8, v0_9, v0_10, v0_11, v0_12, v0_13, .ref q2, .ref q3, .ref q4, .ref q5, .int 2, v0_19, .ref q6, .ref q7, .ref q8, .ref q9, .ref q10, .ref q11, v0_26, v0_27, v0_28, v0_29, .ref q12, .ref q13, .ref q14, v0_33, v0_34, v0_35, .ref q15, .ref q16, .ref q17, .ref q18, .ref q19, .int 60, v0_42, v0_43, v0_44, v0_45, v0_46, v0_47, v0_48, v0_49, v0_50, v0_51, v0_52, v0_53, v0_54, v0_55, v0_56, v0_57, v0_58, v0_59, v0_60, v0_61, v0_62, v0_63, v0_64])), (q1, .inl (cyI, 400, .inl (fun _ => 0))), (q2, .inl (cyI, 60000, .inl (fun _ => 0))), (q3, .inl (cyI, 60000, .inl (fun _ => 0))), (q4, .inl (cyI, 60000, .inl (fun _ => 0))), (q5, .inl (cyI, 4096, .inl (fun _ => 0))), (q6, .inl (cyJ, 10, .inr (.inl (fun _ => 0)))), (q7, .inl (cyJ, 10, .inr (.inl (fun _ => 0)))), (q8, .inl (cyJ, 60, .inr (.inl (fun _ => 0)))), (q9, .inl (cyI, 120, .inl (fun _ => 0))), (q10, .inl (cyI, 10, .inl (fun _ => 0))), (q11, .inl (cyI, 10, .inl (fun _ => 0))), (q12, .inl (cyI, 900, .inl (fun _ => 0))), (q13, .inl (cyI, 120, .inl (fun _ => 0))), (q14, .inl (cyJ, 120, .inr (.inl (fun _ => 0)))), (q15, .inl (cyI, 330720, .inl (fun _ => 0))), (q16, .inl (cyI, 2880, .inl (fun _ => 0))), (q17, .inl (cyI, 300, .inl (fun _ => 0))), (q18, .inl (cyI, 320, .inl (fun _ => 0))), (q19, .inl (cyI, 60, .inl (fun _ => 0)))]) E iX12 tyX12 tyX12_ok nmX12 hP hD hS 0 rfl rfl 41 (by decide) wq187 rfl rfl rfl rfl rfl dX12_init_175 (fun H locs hP hD hS => ?_)
  refine lv_aload_n hx hb dX12_init_178 rfl (lv_at hl 0 rfl) ?_
  refine lv_bipush (v := 120) hx hb dX12_init_179 (by decide) ?_
  refine x_newI (wg := fun q20 => [(h0, .inr (12, [v0_0, v0_1, .int (-1), .ref q1, v0_4, v0_5, v0_6, v0_7, v0_8, v0_9, v0_10, v0_11, v0_12, v0_13, .ref q2, .ref q3, .ref q4, .ref q5, .int 2, v0_19, .ref q6, .ref q7, .ref q8, .ref q9, .ref q10, .ref q11, v0_26, v0_27, v0_28, v0_29, .ref q12, .ref q13, .ref q14, v0_33, v0_34, v0_35, .ref q15, .ref q16, .ref q17, .ref q18, .ref q19, .int 60, v0_42, v0_43, v0_44, v0_45, v0_46, v0_47, v0_48, v0_49, v0_50, v0_51, v0_52, v0_53, v0_54, v0_55, v0_56, v0_57, v0_58, v0_59, v0_60, v0_61, v0_62, v0_63, v0_64])), (q1, .inl (cyI, 400, .inl (fun _ => 0))), (q2, .inl (cyI, 60000, .inl (fun _ => 0))), (q3, .inl (cyI, 60000, .inl (fun _ => 0))), (q4, .inl (cyI, 60000, .inl (fun _ => 0))), (q5, .inl (cyI, 4096, .inl (fun _ => 0))), (q6, .inl (cyJ, 10, .inr (.inl (fun _ => 0)))), (q7, .inl (cyJ, 10, .inr (.inl (fun _ => 0)))), (q8, .inl (cyJ, 60, .inr (.inl (fun _ => 0)))), (q9, .inl (cyI, 120, .inl (fun _ => 0))), (q10, .inl (cyI, 10, .inl (fun _ => 0))), (q11, .inl (cyI, 10, .inl (fun _ => 0))), (q12, .inl (cyI, 900, .inl (fun _ => 0))), (q13, .inl (cyI, 120, .inl (fun _ => 0))), (q14, .inl (cyJ, 120, .inr (.inl (fun _ => 0)))), (q15, .inl (cyI, 330720, .inl (fun _ => 0))), (q16, .inl (cyI, 2880, .inl (fun _ => 0))), (q17, .inl (cyI, 300, .inl (fun _ => 0))), (q18, .inl (cyI, 320, .inl (fun _ => 0))), (q19, .inl (cyI, 60, .inl (fun _ => 0))), (q20, .inl (cyI, 120, .inl (fun _ => 0)))]) E wq3 hP hD hS hA 120 (by decide) (by decide) rfl ⟨rfl, rfl⟩ ⟨Nat.le_of_ble_eq_true rfl, Nat.le_of_ble_eq_true rfl⟩ (fun _ => rfl) dX12_init_181 (fun q20 H hP hD hS => ?_)
  refine x_putF (ws' := [(h0, .inr (12, [v0_0, v0_1, .int (-1), .ref q1, v0_4, v0_5, v0_6, v0_7, v0_8, v0_9, v0_10, v0_11, v0_12, v0_13, .ref q2, .ref q3, .ref q4, .ref q5, .int 2, v0_19, .ref q6, .ref q7, .ref q8, .ref q9, .ref q10, .ref q11, v0_26, v0_27, v0_28, v0_29, .ref q12, .ref q13, .ref q14, v0_33, v0_34, v0_35, .ref q15, .ref q16, .ref q17, .ref q18, .ref q19, .int 60, v0_42, .ref q20, v0_44, v0_45, v0_46, v0_47, v0_48, v0_49, v0_50, v0_51, v0_52, v0_53, v0_54, v0_55, v0_56, v0_57, v0_58, v0_59, v0_60, v0_61, v0_62, v0_63, v0_64])), (q1, .inl (cyI, 400, .inl (fun _ => 0))), (q2, .inl (cyI, 60000, .inl (fun _ => 0))), (q3, .inl (cyI, 60000, .inl (fun _ => 0))), (q4, .inl (cyI, 60000, .inl (fun _ => 0))), (q5, .inl (cyI, 4096, .inl (fun _ => 0))), (q6, .inl (cyJ, 10, .inr (.inl (fun _ => 0)))), (q7, .inl (cyJ, 10, .inr (.inl (fun _ => 0)))), (q8, .inl (cyJ, 60, .inr (.inl (fun _ => 0)))), (q9, .inl (cyI, 120, .inl (fun _ => 0))), (q10, .inl (cyI, 10, .inl (fun _ => 0))), (q11, .inl (cyI, 10, .inl (fun _ => 0))), (q12, .inl (cyI, 900, .inl (fun _ => 0))), (q13, .inl (cyI, 120, .inl (fun _ => 0))), (q14, .inl (cyJ, 120, .inr (.inl (fun _ => 0)))), (q15, .inl (cyI, 330720, .inl (fun _ => 0))), (q16, .inl (cyI, 2880, .inl (fun _ => 0))), (q17, .inl (cyI, 300, .inl (fun _ => 0))), (q18, .inl (cyI, 320, .inl (fun _ => 0))), (q19, .inl (cyI, 60, .inl (fun _ => 0))), (q20, .inl (cyI, 120, .inl (fun _ => 0)))]) E iX12 tyX12 tyX12_ok nmX12 hP hD hS hnm 0 rfl rfl 43 (by decide) wq188 rfl rfl rfl rfl rfl rfl dX12_init_183 (fun H locs hP hD hS => ?_)
  refine lv_aload_n hx hb dX12_init_186 rfl (lv_at hl 0 rfl) ?_
  refine x_ldc E wq189 dX12_init_187 ?_
  refine x_newI (wg := fun q21 => [(h0, .inr (12, [v0_0, v0_1, .int (-1), .ref q1, v0_4, v0_5, v0_6, v0_7, v0_8, v0_9, v0_10, v0_11, v0_12, v0_13, .ref q2, .ref q3, .ref q4, .ref q5, .int 2, v0_19, .ref q6, .ref q7, .ref q8, .ref q9, .ref q10, .ref q11, v0_26, v0_27, v0_28, v0_29, .ref q12, .ref q13, .ref q14, v0_33, v0_34, v0_35, .ref q15, .ref q16, .ref q17, .ref q18, .ref q19, .int 60, v0_42, .ref q20, v0_44, v0_45, v0_46, v0_47, v0_48, v0_49, v0_50, v0_51, v0_52, v0_53, v0_54, v0_55, v0_56, v0_57, v0_58, v0_59, v0_60, v0_61, v0_62, v0_63, v0_64])), (q1, .inl (cyI, 400, .inl (fun _ => 0))), (q2, .inl (cyI, 60000, .inl (fun _ => 0))), (q3, .inl (cyI, 60000, .inl (fun _ => 0))), (q4, .inl (cyI, 60000, .inl (fun _ => 0))), (q5, .inl (cyI, 4096, .inl (fun _ => 0))), (q6, .inl (cyJ, 10, .inr (.inl (fun _ => 0)))), (q7, .inl (cyJ, 10, .inr (.inl (fun _ => 0)))), (q8, .inl (cyJ, 60, .inr (.inl (fun _ => 0)))), (q9, .inl (cyI, 120, .inl (fun _ => 0))), (q10, .inl (cyI, 10, .inl (fun _ => 0))), (q11, .inl (cyI, 10, .inl (fun _ => 0))), (q12, .inl (cyI, 900, .inl (fun _ => 0))), (q13, .inl (cyI, 120, .inl (fun _ => 0))), (q14, .inl (cyJ, 120, .inr (.inl (fun _ => 0)))), (q15, .inl (cyI, 330720, .inl (fun _ => 0))), (q16, .inl (cyI, 2880, .inl (fun _ => 0))), (q17, .inl (cyI, 300, .inl (fun _ => 0))), (q18, .inl (cyI, 320, .inl (fun _ => 0))), (q19, .inl (cyI, 60, .inl (fun _ => 0))), (q20, .inl (cyI, 120, .inl (fun _ => 0))), (q21, .inl (cyI, 36000, .inl (fun _ => 0)))]) E wq3 hP hD hS hA 36000 (by decide) (by decide) rfl ⟨rfl, rfl⟩ ⟨Nat.le_of_ble_eq_true rfl, Nat.le_of_ble_eq_true rfl⟩ (fun _ => rfl) dX12_init_189 (fun q21 H hP hD hS => ?_)
  refine x_putF (ws' := [(h0, .inr (12, [v0_0, v0_1, .int (-1), .ref q1, v0_4, v0_5, v0_6, v0_7, v0_8, v0_9, v0_10, v0_11, v0_12, v0_13, .ref q2, .ref q3, .ref q4, .ref q5, .int 2, v0_19, .ref q6, .ref q7, .ref q8, .ref q9, .ref q10, .ref q11, v0_26, v0_27, v0_28, v0_29, .ref q12, .ref q13, .ref q14, v0_33, v0_34, v0_35, .ref q15, .ref q16, .ref q17, .ref q18, .ref q19, .int 60, v0_42, .ref q20, v0_44, v0_45, .ref q21, v0_47, v0_48, v0_49, v0_50, v0_51, v0_52, v0_53, v0_54, v0_55, v0_56, v0_57, v0_58, v0_59, v0_60, v0_61, v0_62, v0_63, v0_64])), (q1, .inl (cyI, 400, .inl (fun _ => 0))), (q2, .inl (cyI, 60000, .inl (fun _ => 0))), (q3, .inl (cyI, 60000, .inl (fun _ => 0))), (q4, .inl (cyI, 60000, .inl (fun _ => 0))), (q5, .inl (cyI, 4096, .inl (fun _ => 0))), (q6, .inl (cyJ, 10, .inr (.inl (fun _ => 0)))), (q7, .inl (cyJ, 10, .inr (.inl (fun _ => 0)))), (q8, .inl (cyJ, 60, .inr (.inl (fun _ => 0)))), (q9, .inl (cyI, 120, .inl (fun _ => 0))), (q10, .inl (cyI, 10, .inl (fun _ => 0))), (q11, .inl (cyI, 10, .inl (fun _ => 0))), (q12, .inl (cyI, 900, .inl (fun _ => 0))), (q13, .inl (cyI, 120, .inl (fun _ => 0))), (q14, .inl (cyJ, 120, .inr (.inl (fun _ => 0)))), (q15, .inl (cyI, 330720, .inl (fun _ => 0))), (q16, .inl (cyI, 2880, .inl (fun _ => 0))), (q17, .inl (cyI, 300, .inl (fun _ => 0))), (q18, .inl (cyI, 320, .inl (fun _ => 0))), (q19, .inl (cyI, 60, .inl (fun _ => 0))), (q20, .inl (cyI, 120, .inl (fun _ => 0))), (q21, .inl (cyI, 36000, .inl (fun _ => 0)))]) E iX12 tyX12 tyX12_ok nmX12 hP hD hS hnm 0 rfl rfl 46 (by decide) wq190 rfl rfl rfl rfl rfl rfl dX12_init_191 (fun H locs hP hD hS => ?_)
  refine lv_aload_n hx hb dX12_init_194 rfl (lv_at hl 0 rfl) ?_
  refine lv_iconst (v := 3) hx hb dX12_init_195 (by decide) ?_
  refine x_newI (wg := fun q22 => [(h0, .inr (12, [v0_0, v0_1, .int (-1), .ref q1, v0_4, v0_5, v0_6, v0_7, v0_8, v0_9, v0_10, v0_11, v0_12, v0_13, .ref q2, .ref q3, .ref q4, .ref q5, .int 2, v0_19, .ref q6, .ref q7, .ref q8, .ref q9, .ref q10, .ref q11, v0_26, v0_27, v0_28, v0_29, .ref q12, .ref q13, .ref q14, v0_33, v0_34, v0_35, .ref q15, .ref q16, .ref q17, .ref q18, .ref q19, .int 60, v0_42, .ref q20, v0_44, v0_45, .ref q21, v0_47, v0_48, v0_49, v0_50, v0_51, v0_52, v0_53, v0_54, v0_55, v0_56, v0_57, v0_58, v0_59, v0_60, v0_61, v0_62, v0_63, v0_64])), (q1, .inl (cyI, 400, .inl (fun _ => 0))), (q2, .inl (cyI, 60000, .inl (fun _ => 0))), (q3, .inl (cyI, 60000, .inl (fun _ => 0))), (q4, .inl (cyI, 60000, .inl (fun _ => 0))), (q5, .inl (cyI, 4096, .inl (fun _ => 0))), (q6, .inl (cyJ, 10, .inr (.inl (fun _ => 0)))), (q7, .inl (cyJ, 10, .inr (.inl (fun _ => 0)))), (q8, .inl (cyJ, 60, .inr (.inl (fun _ => 0)))), (q9, .inl (cyI, 120, .inl (fun _ => 0))), (q10, .inl (cyI, 10, .inl (fun _ => 0))), (q11, .inl (cyI, 10, .inl (fun _ => 0))), (q12, .inl (cyI, 900, .inl (fun _ => 0))), (q13, .inl (cyI, 120, .inl (fun _ => 0))), (q14, .inl (cyJ, 120, .inr (.inl (fun _ => 0)))), (q15, .inl (cyI, 330720, .inl (fun _ => 0))), (q16, .inl (cyI, 2880, .inl (fun _ => 0))), (q17, .inl (cyI, 300, .inl (fun _ => 0))), (q18, .inl (cyI, 320, .inl (fun _ => 0))), (q19, .inl (cyI, 60, .inl (fun _ => 0))), (q20, .inl (cyI, 120, .inl (fun _ => 0))), (q21, .inl (cyI, 36000, .inl (fun _ => 0))), (q22, .inl (cyI, 3, .inl (fun _ => 0)))]) E wq3 hP hD hS hA 3 (by decide) (by decide) rfl ⟨rfl, rfl⟩ ⟨Nat.le_of_ble_eq_true rfl, Nat.le_of_ble_eq_true rfl⟩ (fun _ => rfl) dX12_init_196 (fun q22 H hP hD hS => ?_)
  refine x_putF (ws' := [(h0, .inr (12, [v0_0, v0_1, .int (-1), .ref q1, v0_4, v0_5, v0_6, v0_7, v0_8, v0_9, v0_10, v0_11, v0_12, v0_13, .ref q2, .ref q3, .ref q4, .ref q5, .int 2, v0_19, .ref q6, .ref q7, .ref q8, .ref q9, .ref q10, .ref q11, v0_26, v0_27, v0_28, v0_29, .ref q12, .ref q13, .ref q14, v0_33, v0_34, v0_35, .ref q15, .ref q16, .ref q17, .ref q18, .ref q19, .int 60, v0_42, .ref q20, v0_44, v0_45, .ref q21, .ref q22, v0_48, v0_49, v0_50, v0_51, v0_52, v0_53, v0_54, v0_55, v0_56, v0_57, v0_58, v0_59, v0_60, v0_61, v0_62, v0_63, v0_64])), (q1, .inl (cyI, 400, .inl (fun _ => 0))), (q2, .inl (cyI, 60000, .inl (fun _ => 0))), (q3, .inl (cyI, 60000, .inl (fun _ => 0))), (q4, .inl (cyI, 60000, .inl (fun _ => 0))), (q5, .inl (cyI, 4096, .inl (fun _ => 0))), (q6, .inl (cyJ, 10, .inr (.inl (fun _ => 0)))), (q7, .inl (cyJ, 10, .inr (.inl (fun _ => 0)))), (q8, .inl (cyJ, 60, .inr (.inl (fun _ => 0)))), (q9, .inl (cyI, 120, .inl (fun _ => 0))), (q10, .inl (cyI, 10, .inl (fun _ => 0))), (q11, .inl (cyI, 10, .inl (fun _ => 0))), (q12, .inl (cyI, 900, .inl (fun _ => 0))), (q13, .inl (cyI, 120, .inl (fun _ => 0))), (q14, .inl (cyJ, 120, .inr (.inl (fun _ => 0)))), (q15, .inl (cyI, 330720, .inl (fun _ => 0))), (q16, .inl (cyI, 2880, .inl (fun _ => 0))), (q17, .inl (cyI, 300, .inl (fun _ => 0))), (q18, .inl (cyI, 320, .inl (fun _ => 0))), (q19, .inl (cyI, 60, .inl (fun _ => 0))), (q20, .inl (cyI, 120, .inl (fun _ => 0))), (q21, .inl (cyI, 36000, .inl (fun _ => 0))), (q22, .inl (cyI, 3, .inl (fun _ => 0)))]) E iX12 tyX12 tyX12_ok nmX12 hP hD hS hnm 0 rfl rfl 47 (by decide) wq191 rfl rfl rfl rfl rfl rfl dX12_init_198 (fun H locs hP hD hS => ?_)
  refine lv_aload_n hx hb dX12_init_201 rfl (lv_at hl 0 rfl) ?_
  refine lv_bipush (v := 10) hx hb dX12_init_202 (by decide) ?_
  refine x_newI (wg := fun q23 => [(h0, .inr (12, [v0_0, v0_1, .int (-1), .ref q1, v0_4, v0_5, v0_6, v0_7, v0_8, v0_9, v0_10, v0_11, v0_12, v0_13, .ref q2, .ref q3, .ref q4, .ref q5, .int 2, v0_19, .ref q6, .ref q7, .ref q8, .ref q9, .ref q10, .ref q11, v0_26, v0_27, v0_28, v0_29, .ref q12, .ref q13, .ref q14, v0_33, v0_34, v0_35, .ref q15, .ref q16, .ref q17, .ref q18, .ref q19, .int 60, v0_42, .ref q20, v0_44, v0_45, .ref q21, .ref q22, v0_48, v0_49, v0_50, v0_51, v0_52, v0_53, v0_54, v0_55, v0_56, v0_57, v0_58, v0_59, v0_60, v0_61, v0_62, v0_63, v0_64])), (q1, .inl (cyI, 400, .inl (fun _ => 0))), (q2, .inl (cyI, 60000, .inl (fun _ => 0))), (q3, .inl (cyI, 60000, .inl (fun _ => 0))), (q4, .inl (cyI, 60000, .inl (fun _ => 0))), (q5, .inl (cyI, 4096, .inl (fun _ => 0))), (q6, .inl (cyJ, 10, .inr (.inl (fun _ => 0)))), (q7, .inl (cyJ, 10, .inr (.inl (fun _ => 0)))), (q8, .inl (cyJ, 60, .inr (.inl (fun _ => 0)))), (q9, .inl (cyI, 120, .inl (fun _ => 0))), (q10, .inl (cyI, 10, .inl (fun _ => 0))), (q11, .inl (cyI, 10, .inl (fun _ => 0))), (q12, .inl (cyI, 900, .inl (fun _ => 0))), (q13, .inl (cyI, 120, .inl (fun _ => 0))), (q14, .inl (cyJ, 120, .inr (.inl (fun _ => 0)))), (q15, .inl (cyI, 330720, .inl (fun _ => 0))), (q16, .inl (cyI, 2880, .inl (fun _ => 0))), (q17, .inl (cyI, 300, .inl (fun _ => 0))), (q18, .inl (cyI, 320, .inl (fun _ => 0))), (q19, .inl (cyI, 60, .inl (fun _ => 0))), (q20, .inl (cyI, 120, .inl (fun _ => 0))), (q21, .inl (cyI, 36000, .inl (fun _ => 0))), (q22, .inl (cyI, 3, .inl (fun _ => 0))), (q23, .inl (cyI, 10, .inl (fun _ => 0)))]) E wq3 hP hD hS hA 10 (by decide) (by decide) rfl ⟨rfl, rfl⟩ ⟨Nat.le_of_ble_eq_true rfl, Nat.le_of_ble_eq_true rfl⟩ (fun _ => rfl) dX12_init_204 (fun q23 H hP hD hS => ?_)
  refine x_putF (ws' := [(h0, .inr (12, [v0_0, v0_1, .int (-1), .ref q1, v0_4, v0_5, v0_6, v0_7, v0_8, v0_9, v0_10, v0_11, v0_12, v0_13, .ref q2, .ref q3, .ref q4, .ref q5, .int 2, v0_19, .ref q6, .ref q7, .ref q8, .ref q9, .ref q10, .ref q11, v0_26, v0_27, v0_28, v0_29, .ref q12, .ref q13, .ref q14, v0_33, v0_34, v0_35, .ref q15, .ref q16, .ref q17, .ref q18, .ref q19, .int 60, v0_42, .ref q20, v0_44, v0_45, .ref q21, .ref q22, v0_48, .ref q23, v0_50, v0_51, v0_52, v0_53, v0_54, v0_55, v0_56, v0_57, v0_58, v0_59, v0_60, v0_61, v0_62, v0_63, v0_64])), (q1, .inl (cyI, 400, .inl (fun _ => 0))), (q2, .inl (cyI, 60000, .inl (fun _ => 0))), (q3, .inl (cyI, 60000, .inl (fun _ => 0))), (q4, .inl (cyI, 60000, .inl (fun _ => 0))), (q5, .inl (cyI, 4096, .inl (fun _ => 0))), (q6, .inl (cyJ, 10, .inr (.inl (fun _ => 0)))), (q7, .inl (cyJ, 10, .inr (.inl (fun _ => 0)))), (q8, .inl (cyJ, 60, .inr (.inl (fun _ => 0)))), (q9, .inl (cyI, 120, .inl (fun _ => 0))), (q10, .inl (cyI, 10, .inl (fun _ => 0))), (q11, .inl (cyI, 10, .inl (fun _ => 0))), (q12, .inl (cyI, 900, .inl (fun _ => 0))), (q13, .inl (cyI, 120, .inl (fun _ => 0))), (q14, .inl (cyJ, 120, .inr (.inl (fun _ => 0)))), (q15, .inl (cyI, 330720, .inl (fun _ => 0))), (q16, .inl (cyI, 2880, .inl (fun _ => 0))), (q17, .inl (cyI, 300, .inl (fun _ => 0))), (q18, .inl (cyI, 320, .inl (fun _ => 0))), (q19, .inl (cyI, 60, .inl (fun _ => 0))), (q20, .inl (cyI, 120, .inl (fun _ => 0))), (q21, .inl (cyI, 36000, .inl (fun _ => 0))), (q22, .inl (cyI, 3, .inl (fun _ => 0))), (q23, .inl (cyI, 10, .inl (fun _ => 0)))]) E iX12 tyX12 tyX12_ok nmX12 hP hD hS hnm 0 rfl rfl 49 (by decide) wq192 rfl rfl rfl rfl rfl rfl dX12_init_206 (fun H locs hP hD hS => ?_)
  refine lv_aload_n hx hb dX12_init_209 rfl (lv_at hl 0 rfl) ?_
  refine lv_bipush (v := 10) hx hb dX12_init_210 (by decide) ?_
  refine x_newI (wg := fun q24 => [(h0, .inr (12, [v0_0, v0_1, .int (-1), .ref q1, v0_4, v0_5, v0_6, v0_7, v0_8, v0_9, v0_10, v0_11, v0_12, v0_13, .ref q2, .ref q3, .ref q4, .ref q5, .int 2, v0_19, .ref q6, .ref q7, .ref q8, .ref q9, .ref q10, .ref q11, v0_26, v0_27, v0_28, v0_29, .ref q12, .ref q13, .ref q14, v0_33, v0_34, v0_35, .ref q15, .ref q16, .ref q17, .ref q18, .ref q19, .int 60, v0_42, .ref q20, v0_44, v0_45, .ref q21, .ref q22, v0_48, .ref q23, v0_50, v0_51, v0_52, v0_53, v0_54, v0_55, v0_56, v0_57, v0_58, v0_59, v0_60, v0_61, v0_62, v0_63, v0_64])), (q1, .inl (cyI, 400, .inl (fun _ => 0))), (q2, .inl (cyI, 60000, .inl (fun _ => 0))), (q3, .inl (cyI, 60000, .inl (fun _ => 0))), (q4, .inl (cyI, 60000, .inl (fun _ => 0))), (q5, .inl (cyI, 4096, .inl (fun _ => 0))), (q6, .inl (cyJ, 10, .inr (.inl (fun _ => 0)))), (q7, .inl (cyJ, 10, .inr (.inl (fun _ => 0)))), (q8, .inl (cyJ, 60, .inr (.inl (fun _ => 0)))), (q9, .inl (cyI, 120, .inl (fun _ => 0))), (q10, .inl (cyI, 10, .inl (fun _ => 0))), (q11, .inl (cyI, 10, .inl (fun _ => 0))), (q12, .inl (cyI, 900, .inl (fun _ => 0))), (q13, .inl (cyI, 120, .inl (fun _ => 0))), (q14, .inl (cyJ, 120, .inr (.inl (fun _ => 0)))), (q15, .inl (cyI, 330720, .inl (fun _ => 0))), (q16, .inl (cyI, 2880, .inl (fun _ => 0))), (q17, .inl (cyI, 300, .inl (fun _ => 0))), (q18, .inl (cyI, 320, .inl (fun _ => 0))), (q19, .inl (cyI, 60, .inl (fun _ => 0))), (q20, .inl (cyI, 120, .inl (fun _ => 0))), (q21, .inl (cyI, 36000, .inl (fun _ => 0))), (q22, .inl (cyI, 3, .inl (fun _ => 0))), (q23, .inl (cyI, 10, .inl (fun _ => 0))), (q24, .inl (cyI, 10, .inl (fun _ => 0)))]) E wq3 hP hD hS hA 10 (by decide) (by decide) rfl ⟨rfl, rfl⟩ ⟨Nat.le_of_ble_eq_true rfl, Nat.le_of_ble_eq_true rfl⟩ (fun _ => rfl) dX12_init_212 (fun q24 H hP hD hS => ?_)
  refine x_putF (ws' := [(h0, .inr (12, [v0_0, v0_1, .int (-1), .ref q1, v0_4, v0_5, v0_6, v0_7, v0_8, v0_9, v0_10, v0_11, v0_12, v0_13, .ref q2, .ref q3, .ref q4, .ref q5, .int 2, v0_19, .ref q6, .ref q7, .ref q8, .ref q9, .ref q10, .ref q11, v0_26, v0_27, v0_28, v0_29, .ref q12, .ref q13, .ref q14, v0_33, v0_34, v0_35, .ref q15, .ref q16, .ref q17, .ref q18, .ref q19, .int 60, v0_42, .ref q20, v0_44, v0_45, .ref q21, .ref q22, v0_48, .ref q23, .ref q24, v0_51, v0_52, v0_53, v0_54, v0_55, v0_56, v0_57, v0_58, v0_59, v0_60, v0_61, v0_62, v0_63, v0_64])), (q1, .inl (cyI, 400, .inl (fun _ => 0))), (q2, .inl (cyI, 60000, .inl (fun _ => 0))), (q3, .inl (cyI, 60000, .inl (fun _ => 0))), (q4, .inl (cyI, 60000, .inl (fun _ => 0))), (q5, .inl (cyI, 4096, .inl (fun _ => 0))), (q6, .inl (cyJ, 10, .inr (.inl (fun _ => 0)))), (q7, .inl (cyJ, 10, .inr (.inl (fun _ => 0)))), (q8, .inl (cyJ, 60, .inr (.inl (fun _ => 0)))), (q9, .inl (cyI, 120, .inl (fun _ => 0))), (q10, .inl (cyI, 10, .inl (fun _ => 0))), (q11, .inl (cyI, 10, .inl (fun _ => 0))), (q12, .inl (cyI, 900, .inl (fun _ => 0))), (q13, .inl (cyI, 120, .inl (fun _ => 0))), (q14, .inl (cyJ, 120, .inr (.inl (fun _ => 0)))), (q15, .inl (cyI, 330720, .inl (fun _ => 0))), (q16, .inl (cyI, 2880, .inl (fun _ => 0))), (q17, .inl (cyI, 300, .inl (fun _ => 0))), (q18, .inl (cyI, 320, .inl (fun _ => 0))), (q19, .inl (cyI, 60, .inl (fun _ => 0))), (q20, .inl (cyI, 120, .inl (fun _ => 0))), (q21, .inl (cyI, 36000, .inl (fun _ => 0))), (q22, .inl (cyI, 3, .inl (fun _ => 0))), (q23, .inl (cyI, 10, .inl (fun _ => 0))), (q24, .inl (cyI, 10, .inl (fun _ => 0)))]) E iX12 tyX12 tyX12_ok nmX12 hP hD hS hnm 0 rfl rfl 50 (by decide) wq193 rfl rfl rfl rfl rfl rfl dX12_init_214 (fun H locs hP hD hS => ?_)
  refine lv_aload_n hx hb dX12_init_217 rfl (lv_at hl 0 rfl) ?_
  refine lv_sipush (v := 420) hx hb dX12_init_218 (by decide) ?_
  refine x_newI (wg := fun q25 => [(h0, .inr (12, [v0_0, v0_1, .int (-1), .ref q1, v0_4, v0_5, v0_6, v0_7, v0_8, v0_9, v0_10, v0_11, v0_12, v0_13, .ref q2, .ref q3, .ref q4, .ref q5, .int 2, v0_19, .ref q6, .ref q7, .ref q8, .ref q9, .ref q10, .ref q11, v0_26, v0_27, v0_28, v0_29, .ref q12, .ref q13, .ref q14, v0_33, v0_34, v0_35, .ref q15, .ref q16, .ref q17, .ref q18, .ref q19, .int 60, v0_42, .ref q20, v0_44, v0_45, .ref q21, .ref q22, v0_48, .ref q23, .ref q24, v0_51, v0_52, v0_53, v0_54, v0_55, v0_56, v0_57, v0_58, v0_59, v0_60, v0_61, v0_62, v0_63, v0_64])), (q1, .inl (cyI, 400, .inl (fun _ => 0))), (q2, .inl (cyI, 60000, .inl (fun _ => 0))), (q3, .inl (cyI, 60000, .inl (fun _ => 0))), (q4, .inl (cyI, 60000, .inl (fun _ => 0))), (q5, .inl (cyI, 4096, .inl (fun _ => 0))), (q6, .inl (cyJ, 10, .inr (.inl (fun _ => 0)))), (q7, .inl (cyJ, 10, .inr (.inl (fun _ => 0)))), (q8, .inl (cyJ, 60, .inr (.inl (fun _ => 0)))), (q9, .inl (cyI, 120, .inl (fun _ => 0))), (q10, .inl (cyI, 10, .inl (fun _ => 0))), (q11, .inl (cyI, 10, .inl (fun _ => 0))), (q12, .inl (cyI, 900, .inl (fun _ => 0))), (q13, .inl (cyI, 120, .inl (fun _ => 0))), (q14, .inl (cyJ, 120, .inr (.inl (fun _ => 0)))), (q15, .inl (cyI, 330720, .inl (fun _ => 0))), (q16, .inl (cyI, 2880, .inl (fun _ => 0))), (q17, .inl (cyI, 300, .inl (fun _ => 0))), (q18, .inl (cyI, 320, .inl (fun _ => 0))), (q19, .inl (cyI, 60, .inl (fun _ => 0))), (q20, .inl (cyI, 120, .inl (fun _ => 0))), (q21, .inl (cyI, 36000, .inl (fun _ => 0))), (q22, .inl (cyI, 3, .inl (fun _ => 0))), (q23, .inl (cyI, 10, .inl (fun _ => 0))), (q24, .inl (cyI, 10, .inl (fun _ => 0))), (q25, .inl (cyI, 420, .inl (fun _ => 0)))]) E wq3 hP hD hS hA 420 (by decide) (by decide) rfl ⟨rfl, rfl⟩ ⟨Nat.le_of_ble_eq_true rfl, Nat.le_of_ble_eq_true rfl⟩ (fun _ => rfl) dX12_init_221 (fun q25 H hP hD hS => ?_)
  refine x_putF (ws' := [(h0, .inr (12, [v0_0, v0_1, .int (-1), .ref q1, v0_4, v0_5, v0_6, v0_7, v0_8, v0_9, v0_10, v0_11, v0_12, v0_13, .ref q2, .ref q3, .ref q4, .ref q5, .int 2, v0_19, .ref q6, .ref q7, .ref q8, .ref q9, .ref q10, .ref q11, v0_26, v0_27, v0_28, v0_29, .ref q12, .ref q13, .ref q14, v0_33, v0_34, v0_35, .ref q15, .ref q16, .ref q17, .ref q18, .ref q19, .int 60, v0_42, .ref q20, v0_44, v0_45, .ref q21, .ref q22, v0_48, .ref q23, .ref q24, v0_51, v0_52, v0_53, v0_54, .ref q25, v0_56, v0_57, v0_58, v0_59, v0_60, v0_61, v0_62, v0_63, v0_64])), (q1, .inl (cyI, 400, .inl (fun _ => 0))), (q2, .inl (cyI, 60000, .inl (fun _ => 0))), (q3, .inl (cyI, 60000, .inl (fun _ => 0))), (q4, .inl (cyI, 60000, .inl (fun _ => 0))), (q5, .inl (cyI, 4096, .inl (fun _ => 0))), (q6, .inl (cyJ, 10, .inr (.inl (fun _ => 0)))), (q7, .inl (cyJ, 10, .inr (.inl (fun _ => 0)))), (q8, .inl (cyJ, 60, .inr (.inl (fun _ => 0)))), (q9, .inl (cyI, 120, .inl (fun _ => 0))), (q10, .inl (cyI, 10, .inl (fun _ => 0))), (q11, .inl (cyI, 10, .inl (fun _ => 0))), (q12, .inl (cyI, 900, .inl (fun _ => 0))), (q13, .inl (cyI, 120, .inl (fun _ => 0))), (q14, .inl (cyJ, 120, .inr (.inl (fun _ => 0)))), (q15, .inl (cyI, 330720, .inl (fun _ => 0))), (q16, .inl (cyI, 2880, .inl (fun _ => 0))), (q17, .inl (cyI, 300, .inl (fun _ => 0))), (q18, .inl (cyI, 320, .inl (fun _ => 0))), (q19, .inl (cyI, 60, .inl (fun _ => 0))), (q20, .inl (cyI, 120, .inl (fun _ => 0))), (q21, .inl (cyI, 36000, .inl (fun _ => 0))), (q22, .inl (cyI, 3, .inl (fun _ => 0))), (q23, .inl (cyI, 10, .inl (fun _ => 0))), (q24, .inl (cyI, 10, .inl (fun _ => 0))), (q25, .inl (cyI, 420, .inl (fun _ => 0)))]) E iX12 tyX12 tyX12_ok nmX12 hP hD hS hnm 0 rfl rfl 55 (by decide) wq194 rfl rfl rfl rfl rfl rfl dX12_init_223 (fun H locs hP hD hS => ?_)
  refine lv_aload_n hx hb dX12_init_226 rfl (lv_at hl 0 rfl) ?_
  refine lv_sipush (v := 420) hx hb dX12_init_227 (by decide) ?_
  refine x_newI (wg := fun q26 => [(h0, .inr (12, [v0_0, v0_1, .int (-1), .ref q1, v0_4, v0_5, v0_6, v0_7, v0_8, v0_9, v0_10, v0_11, v0_12, v0_13, .ref q2, .ref q3, .ref q4, .ref q5, .int 2, v0_19, .ref q6, .ref q7, .ref q8, .ref q9, .ref q10, .ref q11, v0_26, v0_27, v0_28, v0_29, .ref q12, .ref q13, .ref q14, v0_33, v0_34, v0_35, .ref q15, .ref q16, .ref q17, .ref q18, .ref q19, .int 60, v0_42, .ref q20, v0_44, v0_45, .ref q21, .ref q22, v0_48, .ref q23, .ref q24, v0_51, v0_52, v0_53, v0_54, .ref q25, v0_56, v0_57, v0_58, v0_59, v0_60, v0_61, v0_62, v0_63, v0_64])), (q1, .inl (cyI, 400, .inl (fun _ => 0))), (q2, .inl (cyI, 60000, .inl (fun _ => 0))), (q3, .inl (cyI, 60000, .inl (fun _ => 0))), (q4, .inl (cyI, 60000, .inl (fun _ => 0))), (q5, .inl (cyI, 4096, .inl (fun _ => 0))), (q6, .inl (cyJ, 10, .inr (.inl (fun _ => 0)))), (q7, .inl (cyJ, 10, .inr (.inl (fun _ => 0)))), (q8, .inl (cyJ, 60, .inr (.inl (fun _ => 0)))), (q9, .inl (cyI, 120, .inl (fun _ => 0))), (q10, .inl (cyI, 10, .inl (fun _ => 0))), (q11, .inl (cyI, 10, .inl (fun _ => 0))), (q12, .inl (cyI, 900, .inl (fun _ => 0))), (q13, .inl (cyI, 120, .inl (fun _ => 0))), (q14, .inl (cyJ, 120, .inr (.inl (fun _ => 0)))), (q15, .inl (cyI, 330720, .inl (fun _ => 0))), (q16, .inl (cyI, 2880, .inl (fun _ => 0))), (q17, .inl (cyI, 300, .inl (fun _ => 0))), (q18, .inl (cyI, 320, .inl (fun _ => 0))), (q19, .inl (cyI, 60, .inl (fun _ => 0))), (q20, .inl (cyI, 120, .inl (fun _ => 0))), (q21, .inl (cyI, 36000, .inl (fun _ => 0))), (q22, .inl (cyI, 3, .inl (fun _ => 0))), (q23, .inl (cyI, 10, .inl (fun _ => 0))), (q24, .inl (cyI, 10, .inl (fun _ => 0))), (q25, .inl (cyI, 420, .inl (fun _ => 0))), (q26, .inl (cyI, 420, .inl (fun _ => 0)))]) E wq3 hP hD hS hA 420 (by decide) (by decide) rfl ⟨rfl, rfl⟩ ⟨Nat.le_of_ble_eq_true rfl, Nat.le_of_ble_eq_true rfl⟩ (fun _ => rfl) dX12_init_230 (fun q26 H hP hD hS => ?_)
  refine x_putF (ws' := [(h0, .inr (12, [v0_0, v0_1, .int (-1), .ref q1, v0_4, v0_5, v0_6, v0_7, v0_8, v0_9, v0_10, v0_11, v0_12, v0_13, .ref q2, .ref q3, .ref q4, .ref q5, .int 2, v0_19, .ref q6, .ref q7, .ref q8, .ref q9, .ref q10, .ref q11, v0_26, v0_27, v0_28, v0_29, .ref q12, .ref q13, .ref q14, v0_33, v0_34, v0_35, .ref q15, .ref q16, .ref q17, .ref q18, .ref q19, .int 60, v0_42, .ref q20, v0_44, v0_45, .ref q21, .ref q22, v0_48, .ref q23, .ref q24, v0_51, v0_52, v0_53, v0_54, .ref q25, .ref q26, v0_57, v0_58, v0_59, v0_60, v0_61, v0_62, v0_63, v0_64])), (q1, .inl (cyI, 400, .inl (fun _ => 0))), (q2, .inl (cyI, 60000, .inl (fun _ => 0))), (q3, .inl (cyI, 60000, .inl (fun _ => 0))), (q4, .inl (cyI, 60000, .inl (fun _ => 0))), (q5, .inl (cyI, 4096, .inl (fun _ => 0))), (q6, .inl (cyJ, 10, .inr (.inl (fun _ => 0)))), (q7, .inl (cyJ, 10, .inr (.inl (fun _ => 0)))), (q8, .inl (cyJ, 60, .inr (.inl (fun _ => 0)))), (q9, .inl (cyI, 120, .inl (fun _ => 0))), (q10, .inl (cyI, 10, .inl (fun _ => 0))), (q11, .inl (cyI, 10, .inl (fun _ => 0))), (q12, .inl (cyI, 900, .inl (fun _ => 0))), (q13, .inl (cyI, 120, .inl (fun _ => 0))), (q14, .inl (cyJ, 120, .inr (.inl (fun _ => 0)))), (q15, .inl (cyI, 330720, .inl (fun _ => 0))), (q16, .inl (cyI, 2880, .inl (fun _ => 0))), (q17, .inl (cyI, 300, .inl (fun _ => 0))), (q18, .inl (cyI, 320, .inl (fun _ => 0))), (q19, .inl (cyI, 60, .inl (fun _ => 0))), (q20, .inl (cyI, 120, .inl (fun _ => 0))), (q21, .inl (cyI, 36000, .inl (fun _ => 0))), (q22, .inl (cyI, 3, .inl (fun _ => 0))), (q23, .inl (cyI, 10, .inl (fun _ => 0))), (q24, .inl (cyI, 10, .inl (fun _ => 0))), (q25, .inl (cyI, 420, .inl (fun _ => 0))), (q26, .inl (cyI, 420, .inl (fun _ => 0)))]) E iX12 tyX12 tyX12_ok nmX12 hP hD hS hnm 0 rfl rfl 56 (by decide) wq195 rfl rfl rfl rfl rfl rfl dX12_init_232 (fun H locs hP hD hS => ?_)
  refine lv_aload_n hx hb dX12_init_235 rfl (lv_at hl 0 rfl) ?_
  refine lv_sipush (v := 420) hx hb dX12_init_236 (by decide) ?_
  refine x_newI (wg := fun q27 => [(h0, .inr (12, [v0_0, v0_1, .int (-1), .ref q1, v0_4, v0_5, v0_6, v0_7, v0_8, v0_9, v0_10, v0_11, v0_12, v0_13, .ref q2, .ref q3, .ref q4, .ref q5, .int 2, v0_19, .ref q6, .ref q7, .ref q8, .ref q9, .ref q10, .ref q11, v0_26, v0_27, v0_28, v0_29, .ref q12, .ref q13, .ref q14, v0_33, v0_34, v0_35, .ref q15, .ref q16, .ref q17, .ref q18, .ref q19, .int 60, v0_42, .ref q20, v0_44, v0_45, .ref q21, .ref q22, v0_48, .ref q23, .ref q24, v0_51, v0_52, v0_53, v0_54, .ref q25, .ref q26, v0_57, v0_58, v0_59, v0_60, v0_61, v0_62, v0_63, v0_64])), (q1, .inl (cyI, 400, .inl (fun _ => 0))), (q2, .inl (cyI, 60000, .inl (fun _ => 0))), (q3, .inl (cyI, 60000, .inl (fun _ => 0))), (q4, .inl (cyI, 60000, .inl (fun _ => 0))), (q5, .inl (cyI, 4096, .inl (fun _ => 0))), (q6, .inl (cyJ, 10, .inr (.inl (fun _ => 0)))), (q7, .inl (cyJ, 10, .inr (.inl (fun _ => 0)))), (q8, .inl (cyJ, 60, .inr (.inl (fun _ => 0)))), (q9, .inl (cyI, 120, .inl (fun _ => 0))), (q10, .inl (cyI, 10, .inl (fun _ => 0))), (q11, .inl (cyI, 10, .inl (fun _ => 0))), (q12, .inl (cyI, 900, .inl (fun _ => 0))), (q13, .inl (cyI, 120, .inl (fun _ => 0))), (q14, .inl (cyJ, 120, .inr (.inl (fun _ => 0)))), (q15, .inl (cyI, 330720, .inl (fun _ => 0))), (q16, .inl (cyI, 2880, .inl (fun _ => 0))), (q17, .inl (cyI, 300, .inl (fun _ => 0))), (q18, .inl (cyI, 320, .inl (fun _ => 0))), (q19, .inl (cyI, 60, .inl (fun _ => 0))), (q20, .inl (cyI, 120, .inl (fun _ => 0))), (q21, .inl (cyI, 36000, .inl (fun _ => 0))), (q22, .inl (cyI, 3, .inl (fun _ => 0))), (q23, .inl (cyI, 10, .inl (fun _ => 0))), (q24, .inl (cyI, 10, .inl (fun _ => 0))), (q25, .inl (cyI, 420, .inl (fun _ => 0))), (q26, .inl (cyI, 420, .inl (fun _ => 0))), (q27, .inl (cyI, 420, .inl (fun _ => 0)))]) E wq3 hP hD hS hA 420 (by decide) (by decide) rfl ⟨rfl, rfl⟩ ⟨Nat.le_of_ble_eq_true rfl, Nat.le_of_ble_eq_true rfl⟩ (fun _ => rfl) dX12_init_239 (fun q27 H hP hD hS => ?_)
  refine x_putF (ws' := [(h0, .inr (12, [v0_0, v0_1, .int (-1), .ref q1, v0_4, v0_5, v0_6, v0_7, v0_8, v0_9, v0_10, v0_11, v0_12, v0_13, .ref q2, .ref q3, .ref q4, .ref q5, .int 2, v0_19, .ref q6, .ref q7, .ref q8, .ref q9, .ref q10, .ref q11, v0_26, v0_27, v0_28, v0_29, .ref q12, .ref q13, .ref q14, v0_33, v0_34, v0_35, .ref q15, .ref q16, .ref q17, .ref q18, .ref q19, .int 60, v0_42, .ref q20, v0_44, v0_45, .ref q21, .ref q22, v0_48, .ref q23, .ref q24, v0_51, v0_52, v0_53, v0_54, .ref q25, .ref q26, .ref q27, v0_58, v0_59, v0_60, v0_61, v0_62, v0_63, v0_64])), (q1, .inl (cyI, 400, .inl (fun _ => 0))), (q2, .inl (cyI, 60000, .inl (fun _ => 0))), (q3, .inl (cyI, 60000, .inl (fun _ => 0))), (q4, .inl (cyI, 60000, .inl (fun _ => 0))), (q5, .inl (cyI, 4096, .inl (fun _ => 0))), (q6, .inl (cyJ, 10, .inr (.inl (fun _ => 0)))), (q7, .inl (cyJ, 10, .inr (.inl (fun _ => 0)))), (q8, .inl (cyJ, 60, .inr (.inl (fun _ => 0)))), (q9, .inl (cyI, 120, .inl (fun _ => 0))), (q10, .inl (cyI, 10, .inl (fun _ => 0))), (q11, .inl (cyI, 10, .inl (fun _ => 0))), (q12, .inl (cyI, 900, .inl (fun _ => 0))), (q13, .inl (cyI, 120, .inl (fun _ => 0))), (q14, .inl (cyJ, 120, .inr (.inl (fun _ => 0)))), (q15, .inl (cyI, 330720, .inl (fun _ => 0))), (q16, .inl (cyI, 2880, .inl (fun _ => 0))), (q17, .inl (cyI, 300, .inl (fun _ => 0))), (q18, .inl (cyI, 320, .inl (fun _ => 0))), (q19, .inl (cyI, 60, .inl (fun _ => 0))), (q20, .inl (cyI, 120, .inl (fun _ => 0))), (q21, .inl (cyI, 36000, .inl (fun _ => 0))), (q22, .inl (cyI, 3, .inl (fun _ => 0))), (q23, .inl (cyI, 10, .inl (fun _ => 0))), (q24, .inl (cyI, 10, .inl (fun _ => 0))), (q25, .inl (cyI, 420, .inl (fun _ => 0))), (q26, .inl (cyI, 420, .inl (fun _ => 0))), (q27, .inl (cyI, 420, .inl (fun _ => 0)))]) E iX12 tyX12 tyX12_ok nmX12 hP hD hS hnm 0 rfl rfl 57 (by decide) wq196 rfl rfl rfl rfl rfl rfl dX12_init_241 (fun H locs hP hD hS => ?_)
  refine lv_aload_n hx hb dX12_init_244 rfl (lv_at hl 0 rfl) ?_
  refine lv_bipush (v := 10) hx hb dX12_init_245 (by decide) ?_
  refine x_newI (wg := fun q28 => [(h0, .inr (12, [v0_0, v0_1, .int (-1), .ref q1, v0_4, v0_5, v0_6, v0_7, v0_8, v0_9, v0_10, v0_11, v0_12, v0_13, .ref q2, .ref q3, .ref q4, .ref q5, .int 2, v0_19, .ref q6, .ref q7, .ref q8, .ref q9, .ref q10, .ref q11, v0_26, v0_27, v0_28, v0_29, .ref q12, .ref q13, .ref q14, v0_33, v0_34, v0_35, .ref q15, .ref q16, .ref q17, .ref q18, .ref q19, .int 60, v0_42, .ref q20, v0_44, v0_45, .ref q21, .ref q22, v0_48, .ref q23, .ref q24, v0_51, v0_52, v0_53, v0_54, .ref q25, .ref q26, .ref q27, v0_58, v0_59, v0_60, v0_61, v0_62, v0_63, v0_64])), (q1, .inl (cyI, 400, .inl (fun _ => 0))), (q2, .inl (cyI, 60000, .inl (fun _ => 0))), (q3, .inl (cyI, 60000, .inl (fun _ => 0))), (q4, .inl (cyI, 60000, .inl (fun _ => 0))), (q5, .inl (cyI, 4096, .inl (fun _ => 0))), (q6, .inl (cyJ, 10, .inr (.inl (fun _ => 0)))), (q7, .inl (cyJ, 10, .inr (.inl (fun _ => 0)))), (q8, .inl (cyJ, 60, .inr (.inl (fun _ => 0)))), (q9, .inl (cyI, 120, .inl (fun _ => 0))), (q10, .inl (cyI, 10, .inl (fun _ => 0))), (q11, .inl (cyI, 10, .inl (fun _ => 0))), (q12, .inl (cyI, 900, .inl (fun _ => 0))), (q13, .inl (cyI, 120, .inl (fun _ => 0))), (q14, .inl (cyJ, 120, .inr (.inl (fun _ => 0)))), (q15, .inl (cyI, 330720, .inl (fun _ => 0))), (q16, .inl (cyI, 2880, .inl (fun _ => 0))), (q17, .inl (cyI, 300, .inl (fun _ => 0))), (q18, .inl (cyI, 320, .inl (fun _ => 0))), (q19, .inl (cyI, 60, .inl (fun _ => 0))), (q20, .inl (cyI, 120, .inl (fun _ => 0))), (q21, .inl (cyI, 36000, .inl (fun _ => 0))), (q22, .inl (cyI, 3, .inl (fun _ => 0))), (q23, .inl (cyI, 10, .inl (fun _ => 0))), (q24, .inl (cyI, 10, .inl (fun _ => 0))), (q25, .inl (cyI, 420, .inl (fun _ => 0))), (q26, .inl (cyI, 420, .inl (fun _ => 0))), (q27, .inl (cyI, 420, .inl (fun _ => 0))), (q28, .inl (cyI, 10, .inl (fun _ => 0)))]) E wq3 hP hD hS hA 10 (by decide) (by decide) rfl ⟨rfl, rfl⟩ ⟨Nat.le_of_ble_eq_true rfl, Nat.le_of_ble_eq_true rfl⟩ (fun _ => rfl) dX12_init_247 (fun q28 H hP hD hS => ?_)
  refine x_putF (ws' := [(h0, .inr (12, [v0_0, v0_1, .int (-1), .ref q1, v0_4, v0_5, v0_6, v0_7, v0_8, v0_9, v0_10, v0_11, v0_12, v0_13, .ref q2, .ref q3, .ref q4, .ref q5, .int 2, v0_19, .ref q6, .ref q7, .ref q8, .ref q9, .ref q10, .ref q11, v0_26, v0_27, v0_28, v0_29, .ref q12, .ref q13, .ref q14, v0_33, v0_34, v0_35, .ref q15, .ref q16, .ref q17, .ref q18, .ref q19, .int 60, v0_42, .ref q20, v0_44, v0_45, .ref q21, .ref q22, v0_48, .ref q23, .ref q24, v0_51, v0_52, v0_53, v0_54, .ref q25, .ref q26, .ref q27, v0_58, .ref q28, v0_60, v0_61, v0_62, v0_63, v0_64])), (q1, .inl (cyI, 400, .inl (fun _ => 0))), (q2, .inl (cyI, 60000, .inl (fun _ => 0))), (q3, .inl (cyI, 60000, .inl (fun _ => 0))), (q4, .inl (cyI, 60000, .inl (fun _ => 0))), (q5, .inl (cyI, 4096, .inl (fun _ => 0))), (q6, .inl (cyJ, 10, .inr (.inl (fun _ => 0)))), (q7, .inl (cyJ, 10, .inr (.inl (fun _ => 0)))), (q8, .inl (cyJ, 60, .inr (.inl (fun _ => 0)))), (q9, .inl (cyI, 120, .inl (fun _ => 0))), (q10, .inl (cyI, 10, .inl (fun _ => 0))), (q11, .inl (cyI, 10, .inl (fun _ => 0))), (q12, .inl (cyI, 900, .inl (fun _ => 0))), (q13, .inl (cyI, 120, .inl (fun _ => 0))), (q14, .inl (cyJ, 120, .inr (.inl (fun _ => 0)))), (q15, .inl (cyI, 330720, .inl (fun _ => 0))), (q16, .inl (cyI, 2880, .inl (fun _ => 0))), (q17, .inl (cyI, 300, .inl (fun _ => 0))), (q18, .inl (cyI, 320, .inl (fun _ => 0))), (q19, .inl (cyI, 60, .inl (fun _ => 0))), (q20, .inl (cyI, 120, .inl (fun _ => 0))), (q21, .inl (cyI, 36000, .inl (fun _ => 0))), (q22, .inl (cyI, 3, .inl (fun _ => 0))), (q23, .inl (cyI, 10, .inl (fun _ => 0))), (q24, .inl (cyI, 10, .inl (fun _ => 0))), (q25, .inl (cyI, 420, .inl (fun _ => 0))), (q26, .inl (cyI, 420, .inl (fun _ => 0))), (q27, .inl (cyI, 420, .inl (fun _ => 0))), (q28, .inl (cyI, 10, .inl (fun _ => 0)))]) E iX12 tyX12 tyX12_ok nmX12 hP hD hS hnm 0 rfl rfl 59 (by decide) wq197 rfl rfl rfl rfl rfl rfl dX12_init_249 (fun H locs hP hD hS => ?_)
  exact x_vret E hr hlk hP hD hS (fun k => [q1, q2, q3, q4, q5, q6, q7, q8, q9, q10, q11, q12, q13, q14, q15, q16, q17, q18, q19, q20, q21, q22, q23, q24, q25, q26, q27, q28].getD k 0, fun k => [].getD k (fun _ => 0)) [0, 1, 2, 3, 4, 5, 6, 7, 8, 9, 10, 11, 12, 13, 14, 15, 16, 17, 18, 19, 20, 21, 22, 23, 24, 25, 26, 27, 28] (by decide) rfl dX12_init_252
end
