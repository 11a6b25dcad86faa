section
def RX0 : String := "TenRules$Arena"
def TX0 : u_T := fun k => match k with
  | 0 => ("TenRules$Arena", "kinds", "[I", false)
  | 1 => ("TenRules$Arena", "lefts", "[I", false)
  | 2 => ("TenRules$Arena", "rights", "[I", false)
  | 3 => ("TenRules$Arena", "types", "[I", false)
  | 4 => ("TenRules$Arena", "sizes", "[I", false)
  | 5 => ("TenRules$Arena", "looses", "[I", false)
  | 6 => ("TenRules$Arena", "vars", "[I", false)
  | 7 => ("TenRules$Arena", "consts", "[I", false)
  | 8 => ("TenRules$Arena", "hashes", "[I", false)
  | 9 => ("TenRules$Arena", "nexts", "[I", false)
  | 10 => ("TenRules$Arena", "moves", "[I", false)
  | 11 => ("TenRules$Arena", "heads", "[I", false)
  | 12 => ("TenRules$Arena", "count", "I", false)
  | _ => ("TenRules$Arena", "marked", "I", false)
def tyX0 : Nat → FieldType := fun k => match k with
  | 0 => .array .int
  | 1 => .array .int
  | 2 => .array .int
  | 3 => .array .int
  | 4 => .array .int
  | 5 => .array .int
  | 6 => .array .int
  | 7 => .array .int
  | 8 => .array .int
  | 9 => .array .int
  | 10 => .array .int
  | 11 => .array .int
  | 12 => .int
  | _ => .int
abbrev wsX00 : List Cond := u_ws RX0 TX0 14
theorem nmX0 : ∀ a, a < 14 → ∀ b, b < 14 → a ≠ b → (TX0 a).2.1 ≠ (TX0 b).2.1 := by decide +kernel
theorem tyX0_ok : ∀ k, k < 14 → parseFieldDescriptor (TX0 k).2.2.1 = some (tyX0 k) := by decide +kernel
def RX1 : String := "TenRules$Conv"
def TX1 : u_T := fun k => match k with
  | 0 => ("TenRules$Conv", "tokens", "LTenRules$Tokens;", true)
  | 1 => ("TenRules$Conv", "told", "LTenRules$Told;", true)
  | 2 => ("TenRules$Conv", "ops", "[I", true)
  | 3 => ("TenRules$Conv", "firsts", "[I", true)
  | 4 => ("TenRules$Conv", "seconds", "[I", true)
  | _ => ("TenRules$Conv", "count", "I", false)
def tyX1 : Nat → FieldType := fun k => match k with
  | 0 => .object "TenRules$Tokens"
  | 1 => .object "TenRules$Told"
  | 2 => .array .int
  | 3 => .array .int
  | 4 => .array .int
  | _ => .int
abbrev wsX10 : List Cond := u_ws RX1 TX1 6
theorem nmX1 : ∀ a, a < 6 → ∀ b, b < 6 → a ≠ b → (TX1 a).2.1 ≠ (TX1 b).2.1 := by decide +kernel
theorem tyX1_ok : ∀ k, k < 6 → parseFieldDescriptor (TX1 k).2.2.1 = some (tyX1 k) := by decide +kernel
def RX2 : String := "TenRules$Engine"
def TX2 : u_T := fun k => match k with
  | 0 => ("TenRules$Engine", "arena", "LTenRules$Arena;", true)
  | 1 => ("TenRules$Engine", "terms", "LTenRules$Terms;", true)
  | 2 => ("TenRules$Engine", "told", "LTenRules$Told;", true)
  | 3 => ("TenRules$Engine", "kernel", "LTenRules$Kernel;", true)
  | 4 => ("TenRules$Engine", "conv", "LTenRules$Conv;", true)
  | 5 => ("TenRules$Engine", "nodes", "[I", false)
  | 6 => ("TenRules$Engine", "subjects", "[I", false)
  | 7 => ("TenRules$Engine", "states", "[I", false)
  | 8 => ("TenRules$Engine", "kept", "[I", false)
  | 9 => ("TenRules$Engine", "top", "I", false)
  | 10 => ("TenRules$Engine", "opened", "I", false)
  | _ => ("TenRules$Engine", "found", "[I", true)
def tyX2 : Nat → FieldType := fun k => match k with
  | 0 => .object "TenRules$Arena"
  | 1 => .object "TenRules$Terms"
  | 2 => .object "TenRules$Told"
  | 3 => .object "TenRules$Kernel"
  | 4 => .object "TenRules$Conv"
  | 5 => .array .int
  | 6 => .array .int
  | 7 => .array .int
  | 8 => .array .int
  | 9 => .int
  | 10 => .int
  | _ => .array .int
abbrev wsX20 : List Cond := u_ws RX2 TX2 12
theorem nmX2 : ∀ a, a < 12 → ∀ b, b < 12 → a ≠ b → (TX2 a).2.1 ≠ (TX2 b).2.1 := by decide +kernel
theorem tyX2_ok : ∀ k, k < 12 → parseFieldDescriptor (TX2 k).2.2.1 = some (tyX2 k) := by decide +kernel
def RX3 : String := "TenRules$Kernel"
def TX3 : u_T := fun k => match k with
  | 0 => ("TenRules$Kernel", "arena", "LTenRules$Arena;", true)
  | 1 => ("TenRules$Kernel", "terms", "LTenRules$Terms;", true)
  | 2 => ("TenRules$Kernel", "survey", "LTenRules$Survey;", true)
  | 3 => ("TenRules$Kernel", "counts", "[I", true)
  | 4 => ("TenRules$Kernel", "markedCounts", "[I", true)
  | 5 => ("TenRules$Kernel", "spent", "I", false)
  | 6 => ("TenRules$Kernel", "row", "[I", true)
  | _ => ("TenRules$Kernel", "rowLength", "I", false)
def tyX3 : Nat → FieldType := fun k => match k with
  | 0 => .object "TenRules$Arena"
  | 1 => .object "TenRules$Terms"
  | 2 => .object "TenRules$Survey"
  | 3 => .array .int
  | 4 => .array .int
  | 5 => .int
  | 6 => .array .int
  | _ => .int
abbrev wsX30 : List Cond := u_ws RX3 TX3 8
theorem nmX3 : ∀ a, a < 8 → ∀ b, b < 8 → a ≠ b → (TX3 a).2.1 ≠ (TX3 b).2.1 := by decide +kernel
theorem tyX3_ok : ∀ k, k < 8 → parseFieldDescriptor (TX3 k).2.2.1 = some (tyX3 k) := by decide +kernel
def RX4 : String := "TenRules$LineReader"
def TX4 : u_T := fun k => match k with
  | 0 => ("TenRules$LineReader", "tokens", "LTenRules$Tokens;", true)
  | 1 => ("TenRules$LineReader", "termReader", "LTenRules$TermReader;", true)
  | 2 => ("TenRules$LineReader", "arena", "LTenRules$Arena;", true)
  | 3 => ("TenRules$LineReader", "terms", "LTenRules$Terms;", true)
  | 4 => ("TenRules$LineReader", "told", "LTenRules$Told;", true)
  | _ => ("TenRules$LineReader", "kernel", "LTenRules$Kernel;", true)
def tyX4 : Nat → FieldType := fun k => match k with
  | 0 => .object "TenRules$Tokens"
  | 1 => .object "TenRules$TermReader"
  | 2 => .object "TenRules$Arena"
  | 3 => .object "TenRules$Terms"
  | 4 => .object "TenRules$Told"
  | _ => .object "TenRules$Kernel"
abbrev wsX40 : List Cond := u_ws RX4 TX4 6
theorem nmX4 : ∀ a, a < 6 → ∀ b, b < 6 → a ≠ b → (TX4 a).2.1 ≠ (TX4 b).2.1 := by decide +kernel
theorem tyX4_ok : ∀ k, k < 6 → parseFieldDescriptor (TX4 k).2.2.1 = some (tyX4 k) := by decide +kernel
def RX5 : String := "TenRules$Survey"
def TX5 : u_T := fun k => match k with
  | 0 => ("TenRules$Survey", "arena", "LTenRules$Arena;", true)
  | 1 => ("TenRules$Survey", "terms", "LTenRules$Terms;", true)
  | _ => ("TenRules$Survey", "told", "LTenRules$Told;", true)
def tyX5 : Nat → FieldType := fun k => match k with
  | 0 => .object "TenRules$Arena"
  | 1 => .object "TenRules$Terms"
  | _ => .object "TenRules$Told"
abbrev wsX50 : List Cond := u_ws RX5 TX5 3
theorem nmX5 : ∀ a, a < 3 → ∀ b, b < 3 → a ≠ b → (TX5 a).2.1 ≠ (TX5 b).2.1 := by decide +kernel
theorem tyX5_ok : ∀ k, k < 3 → parseFieldDescriptor (TX5 k).2.2.1 = some (tyX5 k) := by decide +kernel
def RX6 : String := "TenRules$TermReader"
def TX6 : u_T := fun k => match k with
  | 0 => ("TenRules$TermReader", "tokens", "LTenRules$Tokens;", true)
  | 1 => ("TenRules$TermReader", "arena", "LTenRules$Arena;", true)
  | 2 => ("TenRules$TermReader", "terms", "LTenRules$Terms;", true)
  | 3 => ("TenRules$TermReader", "told", "LTenRules$Told;", true)
  | 4 => ("TenRules$TermReader", "boundNames", "[I", true)
  | 5 => ("TenRules$TermReader", "boundTypes", "[I", true)
  | 6 => ("TenRules$TermReader", "boundCount", "I", false)
  | 7 => ("TenRules$TermReader", "atoms", "[I", true)
  | _ => ("TenRules$TermReader", "atomCount", "I", false)
def tyX6 : Nat → FieldType := fun k => match k with
  | 0 => .object "TenRules$Tokens"
  | 1 => .object "TenRules$Arena"
  | 2 => .object "TenRules$Terms"
  | 3 => .object "TenRules$Told"
  | 4 => .array .int
  | 5 => .array .int
  | 6 => .int
  | 7 => .array .int
  | _ => .int
abbrev wsX60 : List Cond := u_ws RX6 TX6 9
theorem nmX6 : ∀ a, a < 9 → ∀ b, b < 9 → a ≠ b → (TX6 a).2.1 ≠ (TX6 b).2.1 := by decide +kernel
theorem tyX6_ok : ∀ k, k < 9 → parseFieldDescriptor (TX6 k).2.2.1 = some (tyX6 k) := by decide +kernel
def RX7 : String := "TenRules$Terms"
def TX7 : u_T := fun k => match k with
  | _ => ("TenRules$Terms", "arena", "LTenRules$Arena;", true)
def tyX7 : Nat → FieldType := fun k => match k with
  | _ => .object "TenRules$Arena"
abbrev wsX70 : List Cond := u_ws RX7 TX7 1
theorem nmX7 : ∀ a, a < 1 → ∀ b, b < 1 → a ≠ b → (TX7 a).2.1 ≠ (TX7 b).2.1 := by decide +kernel
theorem tyX7_ok : ∀ k, k < 1 → parseFieldDescriptor (TX7 k).2.2.1 = some (tyX7 k) := by decide +kernel
def RX8 : String := "TenRules$Tokens"
def TX8 : u_T := fun k => match k with
  | 0 => ("TenRules$Tokens", "tape", "[I", true)
  | 1 => ("TenRules$Tokens", "words", "[I", true)
  | 2 => ("TenRules$Tokens", "kinds", "[I", true)
  | 3 => ("TenRules$Tokens", "places", "[I", true)
  | 4 => ("TenRules$Tokens", "values", "[I", true)
  | 5 => ("TenRules$Tokens", "count", "I", false)
  | 6 => ("TenRules$Tokens", "at", "I", false)
  | 7 => ("TenRules$Tokens", "kind", "I", false)
  | 8 => ("TenRules$Tokens", "place", "I", false)
  | 9 => ("TenRules$Tokens", "value", "I", false)
  | 10 => ("TenRules$Tokens", "fault", "I", false)
  | _ => ("TenRules$Tokens", "faultPlace", "I", false)
def tyX8 : Nat → FieldType := fun k => match k with
  | 0 => .array .int
  | 1 => .array .int
  | 2 => .array .int
  | 3 => .array .int
  | 4 => .array .int
  | 5 => .int
  | 6 => .int
  | 7 => .int
  | 8 => .int
  | 9 => .int
  | 10 => .int
  | _ => .int
abbrev wsX80 : List Cond := u_ws RX8 TX8 12
theorem nmX8 : ∀ a, a < 12 → ∀ b, b < 12 → a ≠ b → (TX8 a).2.1 ≠ (TX8 b).2.1 := by decide +kernel
theorem tyX8_ok : ∀ k, k < 12 → parseFieldDescriptor (TX8 k).2.2.1 = some (tyX8 k) := by decide +kernel
def RX9 : String := "TenRules$Told"
def TX9 : u_T := fun k => match k with
  | 0 => ("TenRules$Told", "arena", "LTenRules$Arena;", true)
  | 1 => ("TenRules$Told", "varNames", "[I", true)
  | 2 => ("TenRules$Told", "varTypes", "[I", true)
  | 3 => ("TenRules$Told", "constNames", "[I", true)
  | 4 => ("TenRules$Told", "constTypes", "[I", true)
  | 5 => ("TenRules$Told", "constTheorems", "[I", true)
  | 6 => ("TenRules$Told", "theoremNodes", "[I", true)
  | 7 => ("TenRules$Told", "theoremNames", "[I", true)
  | 8 => ("TenRules$Told", "theoremMakers", "[I", true)
  | 9 => ("TenRules$Told", "varCount", "I", false)
  | 10 => ("TenRules$Told", "constCount", "I", false)
  | 11 => ("TenRules$Told", "theoremCount", "I", false)
  | 12 => ("TenRules$Told", "markedVars", "I", false)
  | 13 => ("TenRules$Told", "markedConsts", "I", false)
  | _ => ("TenRules$Told", "markedTheorems", "I", false)
def tyX9 : Nat → FieldType := fun k => match k with
  | 0 => .object "TenRules$Arena"
  | 1 => .array .int
  | 2 => .array .int
  | 3 => .array .int
  | 4 => .array .int
  | 5 => .array .int
  | 6 => .array .int
  | 7 => .array .int
  | 8 => .array .int
  | 9 => .int
  | 10 => .int
  | 11 => .int
  | 12 => .int
  | 13 => .int
  | _ => .int
abbrev wsX90 : List Cond := u_ws RX9 TX9 15
theorem nmX9 : ∀ a, a < 15 → ∀ b, b < 15 → a ≠ b → (TX9 a).2.1 ≠ (TX9 b).2.1 := by decide +kernel
theorem tyX9_ok : ∀ k, k < 15 → parseFieldDescriptor (TX9 k).2.2.1 = some (tyX9 k) := by decide +kernel
def RX10 : String := "TenRules$Writer"
def TX10 : u_T := fun k => match k with
  | 0 => ("TenRules$Writer", "arena", "LTenRules$Arena;", true)
  | 1 => ("TenRules$Writer", "told", "LTenRules$Told;", true)
  | 2 => ("TenRules$Writer", "row", "[I", true)
  | _ => ("TenRules$Writer", "length", "I", false)
def tyX10 : Nat → FieldType := fun k => match k with
  | 0 => .object "TenRules$Arena"
  | 1 => .object "TenRules$Told"
  | 2 => .array .int
  | _ => .int
abbrev wsX100 : List Cond := u_ws RX10 TX10 4
theorem nmX10 : ∀ a, a < 4 → ∀ b, b < 4 → a ≠ b → (TX10 a).2.1 ≠ (TX10 b).2.1 := by decide +kernel
theorem tyX10_ok : ∀ k, k < 4 → parseFieldDescriptor (TX10 k).2.2.1 = some (tyX10 k) := by decide +kernel
def RX11 : String := "TenRules"
def TX11 : u_T := fun k => match k with
  | 0 => ("TenRules", "tape", "[I", true)
  | 1 => ("TenRules", "tapeLength", "I", false)
  | 2 => ("TenRules", "faultNumber", "I", false)
  | 3 => ("TenRules", "faultPlace", "I", false)
  | 4 => ("TenRules", "troubleNumber", "I", false)
  | 5 => ("TenRules", "arena", "LTenRules$Arena;", true)
  | 6 => ("TenRules", "terms", "LTenRules$Terms;", true)
  | 7 => ("TenRules", "told", "LTenRules$Told;", true)
  | 8 => ("TenRules", "survey", "LTenRules$Survey;", true)
  | 9 => ("TenRules", "kernel", "LTenRules$Kernel;", true)
  | 10 => ("TenRules", "tokens", "LTenRules$Tokens;", true)
  | 11 => ("TenRules", "termReader", "LTenRules$TermReader;", true)
  | 12 => ("TenRules", "lineReader", "LTenRules$LineReader;", true)
  | 13 => ("TenRules", "conv", "LTenRules$Conv;", true)
  | 14 => ("TenRules", "engine", "LTenRules$Engine;", true)
  | _ => ("TenRules", "writer", "LTenRules$Writer;", true)
def tyX11 : Nat → FieldType := fun k => match k with
  | 0 => .array .int
  | 1 => .int
  | 2 => .int
  | 3 => .int
  | 4 => .int
  | 5 => .object "TenRules$Arena"
  | 6 => .object "TenRules$Terms"
  | 7 => .object "TenRules$Told"
  | 8 => .object "TenRules$Survey"
  | 9 => .object "TenRules$Kernel"
  | 10 => .object "TenRules$Tokens"
  | 11 => .object "TenRules$TermReader"
  | 12 => .object "TenRules$LineReader"
  | 13 => .object "TenRules$Conv"
  | 14 => .object "TenRules$Engine"
  | _ => .object "TenRules$Writer"
abbrev wsX110 : List Cond := u_ws RX11 TX11 16
theorem nmX11 : ∀ a, a < 16 → ∀ b, b < 16 → a ≠ b → (TX11 a).2.1 ≠ (TX11 b).2.1 := by decide +kernel
theorem tyX11_ok : ∀ k, k < 16 → parseFieldDescriptor (TX11 k).2.2.1 = some (tyX11 k) := by decide +kernel
def RX12 : String := "TenRulesModel"
def TX12 : u_T := fun k => match k with
  | 0 => ("TenRulesModel", "thrown", "I", false)
  | 1 => ("TenRulesModel", "trouble", "I", false)
  | 2 => ("TenRulesModel", "wrongAt", "I", false)
  | 3 => ("TenRulesModel", "tape", "[I", true)
  | 4 => ("TenRulesModel", "taped", "I", false)
  | 5 => ("TenRulesModel", "size", "I", false)
  | 6 => ("TenRulesModel", "spot", "I", false)
  | 7 => ("TenRulesModel", "fault", "I", false)
  | 8 => ("TenRulesModel", "faultAt", "I", false)
  | 9 => ("TenRulesModel", "token", "I", false)
  | 10 => ("TenRulesModel", "at", "I", false)
  | 11 => ("TenRulesModel", "sign", "I", false)
  | 12 => ("TenRulesModel", "word", "J", false)
  | 13 => ("TenRulesModel", "nested", "I", false)
  | 14 => ("TenRulesModel", "takes", "[I", true)
  | 15 => ("TenRulesModel", "gives", "[I", true)
  | 16 => ("TenRulesModel", "nextType", "[I", true)
  | 17 => ("TenRulesModel", "heads", "[I", true)
  | 18 => ("TenRulesModel", "types", "I", false)
  | 19 => ("TenRulesModel", "letters", "I", false)
  | 20 => ("TenRulesModel", "varName", "[J", true)
  | 21 => ("TenRulesModel", "constName", "[J", true)
  | 22 => ("TenRulesModel", "thmName", "[J", true)
  | 23 => ("TenRulesModel", "varType", "[I", true)
  | 24 => ("TenRulesModel", "constType", "[I", true)
  | 25 => ("TenRulesModel", "constThm", "[I", true)
  | 26 => ("TenRulesModel", "vars", "I", false)
  | 27 => ("TenRulesModel", "consts", "I", false)
  | 28 => ("TenRulesModel", "thms", "I", false)
  | 29 => ("TenRulesModel", "freshVars", "I", false)
  | 30 => ("TenRulesModel", "read", "[I", true)
  | 31 => ("TenRulesModel", "boundType", "[I", true)
  | 32 => ("TenRulesModel", "boundName", "[J", true)
  | 33 => ("TenRulesModel", "signs", "I", false)
  | 34 => ("TenRulesModel", "depth", "I", false)
  | 35 => ("TenRulesModel", "termAt", "I", false)
  | 36 => ("TenRulesModel", "m", "[I", true)
  | 37 => ("TenRulesModel", "len", "[I", true)
  | 38 => ("TenRulesModel", "regLen", "[I", true)
  | 39 => ("TenRulesModel", "hyps", "[I", true)
  | 40 => ("TenRulesModel", "madeBy", "[I", true)
  | 41 => ("TenRulesModel", "top", "I", false)
  | 42 => ("TenRulesModel", "regTop", "I", false)
  | 43 => ("TenRulesModel", "roundType", "[I", true)
  | 44 => ("TenRulesModel", "round", "I", false)
  | 45 => ("TenRulesModel", "typed", "I", false)
  | 46 => ("TenRulesModel", "ink", "[I", true)
  | 47 => ("TenRulesModel", "inked", "[I", true)
  | 48 => ("TenRulesModel", "inkRow", "I", false)
  | 49 => ("TenRulesModel", "calls", "[I", true)
  | 50 => ("TenRulesModel", "used", "[I", true)
  | 51 => ("TenRulesModel", "usedNow", "I", false)
  | 52 => ("TenRulesModel", "isFull", "Z", false)
  | 53 => ("TenRulesModel", "outAt", "I", false)
  | 54 => ("TenRulesModel", "outMany", "I", false)
  | 55 => ("TenRulesModel", "conv", "[I", true)
  | 56 => ("TenRulesModel", "first", "[I", true)
  | 57 => ("TenRulesModel", "second", "[I", true)
  | 58 => ("TenRulesModel", "convs", "I", false)
  | 59 => ("TenRulesModel", "found", "[I", true)
  | 60 => ("TenRulesModel", "free", "I", false)
  | 61 => ("TenRulesModel", "betas", "I", false)
  | 62 => ("TenRulesModel", "defs", "I", false)
  | 63 => ("TenRulesModel", "etas", "I", false)
  | _ => ("TenRulesModel", "deepest", "I", false)
def tyX12 : Nat → FieldType := fun k => match k with
  | 0 => .int
  | 1 => .int
  | 2 => .int
  | 3 => .array .int
  | 4 => .int
  | 5 => .int
  | 6 => .int
  | 7 => .int
  | 8 => .int
  | 9 => .int
  | 10 => .int
  | 11 => .int
  | 12 => .long
  | 13 => .int
  | 14 => .array .int
  | 15 => .array .int
  | 16 => .array .int
  | 17 => .array .int
  | 18 => .int
  | 19 => .int
  | 20 => .array .long
  | 21 => .array .long
  | 22 => .array .long
  | 23 => .array .int
  | 24 => .array .int
  | 25 => .array .int
  | 26 => .int
  | 27 => .int
  | 28 => .int
  | 29 => .int
  | 30 => .array .int
  | 31 => .array .int
  | 32 => .array .long
  | 33 => .int
  | 34 => .int
  | 35 => .int
  | 36 => .array .int
  | 37 => .array .int
  | 38 => .array .int
  | 39 => .array .int
  | 40 => .array .int
  | 41 => .int
  | 42 => .int
  | 43 => .array .int
  | 44 => .int
  | 45 => .int
  | 46 => .array .int
  | 47 => .array .int
  | 48 => .int
  | 49 => .array .int
  | 50 => .array .int
  | 51 => .int
  | 52 => .boolean
  | 53 => .int
  | 54 => .int
  | 55 => .array .int
  | 56 => .array .int
  | 57 => .array .int
  | 58 => .int
  | 59 => .array .int
  | 60 => .int
  | 61 => .int
  | 62 => .int
  | 63 => .int
  | _ => .int
abbrev wsX120 : List Cond := u_ws RX12 TX12 65
theorem nmX12 : ∀ a, a < 65 → ∀ b, b < 65 → a ≠ b → (TX12 a).2.1 ≠ (TX12 b).2.1 := by decide +kernel
theorem tyX12_ok : ∀ k, k < 65 → parseFieldDescriptor (TX12 k).2.2.1 = some (tyX12 k) := by decide +kernel
def RL : String := "TenRulesLaw"
abbrev cX8_refuse : ByteArray := prog_10_method_7_code
def yX8_refuse : MethodName := ⟨RX8, "refuse", "(II)I"⟩
abbrev cX11_opens : ByteArray := prog_1_method_42_code
def yX11_opens : MethodName := ⟨RX11, "opens", "(I)Z"⟩
abbrev vwCl : List vw_C := [(RX0, TX0, 14), (RX1, TX1, 6), (RX2, TX2, 12), (RX3, TX3, 8), (RX4, TX4, 6), (RX5, TX5, 3), (RX6, TX6, 9), (RX7, TX7, 1), (RX8, TX8, 12), (RX9, TX9, 15), (RX10, TX10, 4), (RX11, TX11, 16), (RX12, TX12, 65)]
theorem dX8_refuse_0 : decode cX8_refuse 0 = .ok (.aload_n 0, 1) := by decide +kernel
theorem dX8_refuse_1 : decode cX8_refuse 1 = .ok (.getfield 76, 3) := by decide +kernel
theorem dX8_refuse_4 : decode cX8_refuse 4 = .ok (.ifCond .ne 13, 3) := by decide +kernel
theorem dX8_refuse_7 : decode cX8_refuse 7 = .ok (.aload_n 0, 1) := by decide +kernel
theorem dX8_refuse_8 : decode cX8_refuse 8 = .ok (.iload_n 1, 1) := by decide +kernel
theorem dX8_refuse_9 : decode cX8_refuse 9 = .ok (.putfield 76, 3) := by decide +kernel
theorem dX8_refuse_12 : decode cX8_refuse 12 = .ok (.aload_n 0, 1) := by decide +kernel
theorem dX8_refuse_13 : decode cX8_refuse 13 = .ok (.iload_n 2, 1) := by decide +kernel
theorem dX8_refuse_14 : decode cX8_refuse 14 = .ok (.putfield 79, 3) := by decide +kernel
theorem dX8_refuse_17 : decode cX8_refuse 17 = .ok (.aload_n 0, 1) := by decide +kernel
theorem dX8_refuse_18 : decode cX8_refuse 18 = .ok (.iconst 1, 1) := by decide +kernel
theorem dX8_refuse_19 : decode cX8_refuse 19 = .ok (.putfield 88, 3) := by decide +kernel
theorem dX8_refuse_22 : decode cX8_refuse 22 = .ok (.iconst (-1), 1) := by decide +kernel
theorem dX8_refuse_23 : decode cX8_refuse 23 = .ok (.ireturn, 1) := by decide +kernel
end
section
/-- a private method of a class that the tables say can be made, by its rows of tables_1 -/
def lw_okq (q : MethodName × Nat) : Prop := (q.1.cls ≠ "java/lang/invoke/MethodHandle" ∧ q.1.cls ≠ "java/lang/invoke/VarHandle") ∧ Cond.instantiable q.1.cls q.2 ∈ tables_1 ∧ Cond.privateMethod q.1 ∈ tables_1 ∧ Cond.instanceMethod q.1 ∈ tables_1
theorem lw_p0 : lw_okq (⟨"TenRules", "opens", "(I)Z"⟩, 16) := ⟨⟨by decide +kernel, by decide +kernel⟩, List.mem_of_getElem? (i := 28) (by decide +kernel), List.mem_of_getElem? (i := 556) (by decide +kernel), List.mem_of_getElem? (i := 557) (by decide +kernel)⟩
def lw_privs : List (MethodName × Nat) := [(⟨"TenRules", "opens", "(I)Z"⟩, 16)]
def lw_tbl : List Cond := k2_sels lw_privs ++ tables_1
theorem lw_privs_ok : ∀ q ∈ lw_privs, lw_okq q := List.forall_mem_cons.mpr ⟨lw_p0, fun _ h => absurd h List.not_mem_nil⟩
theorem goodIn_r {big : List Cond} (ws : List Cond) (ps : List Nat) (hp : ws = ps.filterMap (fun i => big[i]?)) (h : ws.all goodWord = true) : GoodIn big ws := by
  intro w hw
  have h1 := List.all_eq_true.mp h w hw
  rw [hp] at hw
  obtain ⟨i, -, hi⟩ := List.mem_filterMap.mp hw
  have hm : w ∈ big := by first | exact List.mem_of_getElem? hi | exact List.getElem?_mem hi
  exact ⟨hm, good_of_word h1⟩
theorem goodIn_app {big a b : List Cond} (ha : GoodIn big a) (hb : GoodIn big b) : GoodIn big (a ++ b) := fun w h => (List.mem_append.mp h).elim (ha w) (hb w)
def gW0 : List Cond := [.fieldLink RX8 76 "TenRules$Tokens" "fault" "I", .fieldLink RX8 79 "TenRules$Tokens" "faultPlace" "I", .fieldLink RX8 88 "TenRules$Tokens" "kind" "I", .selects RX11 yX11_opens yX11_opens, .code yX8_refuse cX8_refuse 3 (some .int), .initialized RX8]
def gL : List Cond := wsX00 ++ wsX10 ++ wsX20 ++ wsX30 ++ wsX40 ++ wsX50 ++ wsX60 ++ wsX70 ++ wsX80 ++ wsX90 ++ wsX100 ++ wsX110 ++ wsX120
def gK : List Cond := gW0
def G : List Cond := gK ++ gL
theorem q0 : (Cond.fieldLink RX8 76 "TenRules$Tokens" "fault" "I" : Cond) ∈ G := List.mem_append_left _ ((List.mem_of_getElem? (i := 0) rfl : _ ∈ gW0))
theorem q1 : (Cond.fieldLink RX8 79 "TenRules$Tokens" "faultPlace" "I" : Cond) ∈ G := List.mem_append_left _ ((List.mem_of_getElem? (i := 1) rfl : _ ∈ gW0))
theorem q2 : (Cond.fieldLink RX8 88 "TenRules$Tokens" "kind" "I" : Cond) ∈ G := List.mem_append_left _ ((List.mem_of_getElem? (i := 2) rfl : _ ∈ gW0))
theorem q3 : (Cond.selects RX11 yX11_opens yX11_opens : Cond) ∈ G := List.mem_append_left _ ((List.mem_of_getElem? (i := 3) rfl : _ ∈ gW0))
theorem q4 : (Cond.code yX8_refuse cX8_refuse 3 (some .int) : Cond) ∈ G := List.mem_append_left _ ((List.mem_of_getElem? (i := 4) rfl : _ ∈ gW0))
theorem q5 : (Cond.initialized RX8 : Cond) ∈ G := List.mem_append_left _ ((List.mem_of_getElem? (i := 5) rfl : _ ∈ gW0))
theorem iX0 : ∀ w ∈ u_ws RX0 TX0 14, w ∈ G := fun w h => List.mem_append_right _ (List.mem_append_left _ (List.mem_append_left _ (List.mem_append_left _ (List.mem_append_left _ (List.mem_append_left _ (List.mem_append_left _ (List.mem_append_left _ (List.mem_append_left _ (List.mem_append_left _ (List.mem_append_left _ (List.mem_append_left _ (List.mem_append_left _ (h)))))))))))))
theorem iX1 : ∀ w ∈ u_ws RX1 TX1 6, w ∈ G := fun w h => List.mem_append_right _ (List.mem_append_left _ (List.mem_append_left _ (List.mem_append_left _ (List.mem_append_left _ (List.mem_append_left _ (List.mem_append_left _ (List.mem_append_left _ (List.mem_append_left _ (List.mem_append_left _ (List.mem_append_left _ (List.mem_append_left _ (List.mem_append_right _ h))))))))))))
theorem iX2 : ∀ w ∈ u_ws RX2 TX2 12, w ∈ G := fun w h => List.mem_append_right _ (List.mem_append_left _ (List.mem_append_left _ (List.mem_append_left _ (List.mem_append_left _ (List.mem_append_left _ (List.mem_append_left _ (List.mem_append_left _ (List.mem_append_left _ (List.mem_append_left _ (List.mem_append_left _ (List.mem_append_right _ h)))))))))))
theorem iX3 : ∀ w ∈ u_ws RX3 TX3 8, w ∈ G := fun w h => List.mem_append_right _ (List.mem_append_left _ (List.mem_append_left _ (List.mem_append_left _ (List.mem_append_left _ (List.mem_append_left _ (List.mem_append_left _ (List.mem_append_left _ (List.mem_append_left _ (List.mem_append_left _ (List.mem_append_right _ h))))))))))
theorem iX4 : ∀ w ∈ u_ws RX4 TX4 6, w ∈ G := fun w h => List.mem_append_right _ (List.mem_append_left _ (List.mem_append_left _ (List.mem_append_left _ (List.mem_append_left _ (List.mem_append_left _ (List.mem_append_left _ (List.mem_append_left _ (List.mem_append_left _ (List.mem_append_right _ h)))))))))
theorem iX5 : ∀ w ∈ u_ws RX5 TX5 3, w ∈ G := fun w h => List.mem_append_right _ (List.mem_append_left _ (List.mem_append_left _ (List.mem_append_left _ (List.mem_append_left _ (List.mem_append_left _ (List.mem_append_left _ (List.mem_append_left _ (List.mem_append_right _ h))))))))
theorem iX6 : ∀ w ∈ u_ws RX6 TX6 9, w ∈ G := fun w h => List.mem_append_right _ (List.mem_append_left _ (List.mem_append_left _ (List.mem_append_left _ (List.mem_append_left _ (List.mem_append_left _ (List.mem_append_left _ (List.mem_append_right _ h)))))))
theorem iX7 : ∀ w ∈ u_ws RX7 TX7 1, w ∈ G := fun w h => List.mem_append_right _ (List.mem_append_left _ (List.mem_append_left _ (List.mem_append_left _ (List.mem_append_left _ (List.mem_append_left _ (List.mem_append_right _ h))))))
theorem iX8 : ∀ w ∈ u_ws RX8 TX8 12, w ∈ G := fun w h => List.mem_append_right _ (List.mem_append_left _ (List.mem_append_left _ (List.mem_append_left _ (List.mem_append_left _ (List.mem_append_right _ h)))))
theorem iX9 : ∀ w ∈ u_ws RX9 TX9 15, w ∈ G := fun w h => List.mem_append_right _ (List.mem_append_left _ (List.mem_append_left _ (List.mem_append_left _ (List.mem_append_right _ h))))
theorem iX10 : ∀ w ∈ u_ws RX10 TX10 4, w ∈ G := fun w h => List.mem_append_right _ (List.mem_append_left _ (List.mem_append_left _ (List.mem_append_right _ h)))
theorem iX11 : ∀ w ∈ u_ws RX11 TX11 16, w ∈ G := fun w h => List.mem_append_right _ (List.mem_append_left _ (List.mem_append_right _ h))
theorem iX12 : ∀ w ∈ u_ws RX12 TX12 65, w ∈ G := fun w h => List.mem_append_right _ (List.mem_append_right _ h)
set_option maxRecDepth 20000 in
theorem gI0 : GoodIn lw_tbl gW0 := goodIn_r _ [318, 320, 310, 0, 674, 11] (by decide +kernel) (by decide +kernel)
set_option maxRecDepth 20000 in
theorem gJ0 : GoodIn lw_tbl wsX00 := goodIn_r _ [95, 97, 99, 101, 103, 105, 107, 109, 111, 113, 115, 117, 119, 121] (by decide +kernel) (by decide +kernel)
set_option maxRecDepth 20000 in
theorem gJ1 : GoodIn lw_tbl wsX10 := goodIn_r _ [419, 421, 423, 425, 427, 429] (by decide +kernel) (by decide +kernel)
set_option maxRecDepth 20000 in
theorem gJ2 : GoodIn lw_tbl wsX20 := goodIn_r _ [450, 452, 454, 456, 458, 460, 462, 464, 466, 468, 470, 472] (by decide +kernel) (by decide +kernel)
set_option maxRecDepth 20000 in
theorem gJ3 : GoodIn lw_tbl wsX30 := goodIn_r _ [223, 225, 227, 229, 231, 233, 235, 237] (by decide +kernel) (by decide +kernel)
set_option maxRecDepth 20000 in
theorem gJ4 : GoodIn lw_tbl wsX40 := goodIn_r _ [394, 396, 398, 400, 402, 404] (by decide +kernel) (by decide +kernel)
set_option maxRecDepth 20000 in
theorem gJ5 : GoodIn lw_tbl wsX50 := goodIn_r _ [202, 204, 206] (by decide +kernel) (by decide +kernel)
set_option maxRecDepth 20000 in
theorem gJ6 : GoodIn lw_tbl wsX60 := goodIn_r _ [363, 365, 367, 369, 371, 373, 375, 377, 379] (by decide +kernel) (by decide +kernel)
set_option maxRecDepth 20000 in
theorem gJ7 : GoodIn lw_tbl wsX70 := goodIn_r _ [132] (by decide +kernel) (by decide +kernel)
set_option maxRecDepth 20000 in
theorem gJ8 : GoodIn lw_tbl wsX80 := goodIn_r _ [322, 324, 326, 328, 330, 332, 334, 336, 338, 340, 342, 344] (by decide +kernel) (by decide +kernel)
set_option maxRecDepth 20000 in
theorem gJ9 : GoodIn lw_tbl wsX90 := goodIn_r _ [162, 164, 166, 168, 170, 172, 174, 176, 178, 180, 182, 184, 186, 188, 190] (by decide +kernel) (by decide +kernel)
set_option maxRecDepth 20000 in
theorem gJ10 : GoodIn lw_tbl wsX100 := goodIn_r _ [486, 488, 490, 492] (by decide +kernel) (by decide +kernel)
set_option maxRecDepth 20000 in
theorem gJ11 : GoodIn lw_tbl wsX110 := goodIn_r _ [511, 513, 515, 517, 519, 521, 523, 525, 527, 529, 531, 533, 535, 537, 539, 541] (by decide +kernel) (by decide +kernel)
set_option maxRecDepth 20000 in
theorem gJ12 : GoodIn lw_tbl wsX120 := goodIn_r _ [1723, 1725, 1727, 1729, 1731, 1733, 1735, 1737, 1739, 1741, 1743, 1745, 1747, 1749, 1751, 1753, 1755, 1757, 1759, 1761, 1763, 1765, 1767, 1769, 1771, 1773, 1775, 1777, 1779, 1781, 1783, 1785, 1787, 1789, 1791, 1793, 1795, 1797, 1799, 1801, 1803, 1805, 1807, 1809, 1811, 1813, 1815, 1817, 1819, 1821, 1823, 1825, 1827, 1829, 1831, 1833, 1835, 1837, 1839, 1841, 1843, 1845, 1847, 1849, 1851] (by decide +kernel) (by decide +kernel)
theorem gG : GoodIn lw_tbl G := goodIn_app gI0 (goodIn_app (goodIn_app (goodIn_app (goodIn_app (goodIn_app (goodIn_app (goodIn_app (goodIn_app (goodIn_app (goodIn_app (goodIn_app (goodIn_app gJ0 gJ1) gJ2) gJ3) gJ4) gJ5) gJ6) gJ7) gJ8) gJ9) gJ10) gJ11) gJ12)
def xNestL : List (String × Nat × String × String × String × String) := [(RX11, 154, "TenRules$Told", "varCount", "I", "TenRules")]
theorem qn0 : (RX11, 154, "TenRules$Told", "varCount", "I", "TenRules") ∈ xNestL := List.mem_of_getElem? (i := 0) rfl
def xStrL : List (String × Nat × String) := [(RX12, 186, "var")]
theorem qs0 : (RX12, 186, "var") ∈ xStrL := List.mem_of_getElem? (i := 0) rfl
end
section
/-! The walker's own rows: a fixed context, worlds restated by each row, calls with the frame rule in one row. -/
def xNest (q : String × Nat × String × String × String × String) : Cond := .fieldLinkNest q.1 q.2.1 q.2.2.1 q.2.2.2.1 q.2.2.2.2.1 q.2.2.2.2.2
/-- what a call's words can't carry: links to private fields of nest mates, String constants -/
def NN (U : State) : Prop := (∀ q ∈ xNestL, va_Nw (xNest q) U) ∧ ∀ q ∈ xStrL, ∃ a : Nat, vk_R q.1 q.2.1 q.2.2 a U
theorem NN.warm {s U : State} (hW : s.WarmedH U.vm) (h : NN s) : NN U := ⟨fun q hq => va_Nw.warmF hW (h.1 q hq), fun q hq => by
  obtain ⟨a, ha⟩ := h.2 q hq
  exact ⟨a, ha.warm hW⟩⟩
theorem NN.same {u U : State} (hv : u.vm = U.vm) (h : NN u) : NN U := ⟨fun q hq => va_Nw.same rfl hv (h.1 q hq), fun q hq => by
  obtain ⟨a, ha⟩ := h.2 q hq
  exact ⟨a, ha.same hv.symm⟩⟩
theorem goodG : ∀ w ∈ G, goodWord w = true := List.all_eq_true.mp (by decide +kernel)
theorem good_cons {w : Cond} (h : w ∈ G) : GoodIn G (w :: G) := fun v hv => by
  rcases List.mem_cons.mp hv with e | hv
  · subst e; exact ⟨h, good_of_word (goodG _ h)⟩
  · exact ⟨hv, good_of_word (goodG _ hv)⟩
abbrev xTys (cyI cyJ : ClassId) : List (ClassId × FieldType) := [(cyI, .int), (cyJ, .long)]
/-- a method's context -/
def Ctx (p : Program) (s : State) (m : MethodId) (args : Array Value) (c : Code) (cc : ByteArray) (nL : Nat) (own : String) (D : va_G) (cyI cyJ : ClassId) : Prop :=
  CallFix p m c cc nL s args G own ∧ va_K D vwCl (xTys cyI cyJ) s ∧ NN s
def OkM (y : MethodName) (bytes : ByteArray) (maxL : Nat) (ret : Option FieldType) (n : Nat) : Prop :=
  Cond.code y bytes maxL ret ∈ G ∧ Cond.initialized y.cls ∈ G ∧ (y.cls ≠ "java/lang/invoke/MethodHandle" ∧ y.cls ≠ "java/lang/invoke/VarHandle" ∧ (parseMethodDescriptor y.desc).map (fun d => d.parameters.length) = some n)
def PreW (D : va_G) (cyI cyJ : ClassId) (av : List Value) (wc : va_W) (sz : Nat) : Array Value → State → Prop :=
  va_Pc av (fun U => U.heap.size = sz ∧ va_P D vwCl wc U.heap ∧ va_K D vwCl (xTys cyI cyJ) U ∧ va_D (fun _ => True) wc ∧ NN U)
abbrev BW (D : va_G) (A : Nat → Prop) {S : Type} (w1 : S → va_W) : S → State → Prop := fun u t => va_P D vwCl (w1 u) t.heap ∧ va_D A (w1 u)
def MetI (l : Launch) (y : MethodName) (cd : Cond) (rm : Room) (D : va_G) (cyI cyJ : ClassId) (av : List Value) (wc : va_W) {S : Type} (rv : S → Int32) (w1 : S → va_W) (mc ms : Nat) : Prop :=
  ∀ sz : Nat, Met l y (cd :: G) rm (PreW D cyI cyJ av wc sz) (va_Qi (fun r u => r = rv u) (BW D (va_A wc sz) w1) (va_A wc sz)) mc ms (va_A wc sz)
def MetV (l : Launch) (y : MethodName) (cd : Cond) (rm : Room) (D : va_G) (cyI cyJ : ClassId) (av : List Value) (wc : va_W) {S : Type} (w1 : S → va_W) (mc ms : Nat) : Prop :=
  ∀ sz : Nat, Met l y (cd :: G) rm (PreW D cyI cyJ av wc sz) (va_Qv (fun _ => True) (BW D (va_A wc sz) w1) (va_A wc sz)) mc ms (va_A wc sz)
theorem x_subP {D : va_G} {cl : List vw_C} {ws w1 : va_W} {H : Heap} (h : va_P D cl ws H) (is : List Nat) (hs : is.map (fun i => ws[i]?) = w1.map some) : va_P D cl w1 H := by
  intro k q hk
  have h1 : (is.map (fun i => ws[i]?))[k]? = some (some q) := by rw [hs, List.getElem?_map, hk]; rfl
  rw [List.getElem?_map] at h1
  cases hi : is[k]? with
  | none => rw [hi] at h1; cases h1
  | some i => rw [hi] at h1; exact h i q (Option.some.inj h1)
theorem x_blind {D : va_G} {cyI cyJ : ClassId} {av : List Value} {wc : va_W} {sz : Nat} : FrameBlind (PreW D cyI cyJ av wc sz) := fun a U g mk q => by
  obtain ⟨q0, q1, qP, qK, qD, qN⟩ := q
  exact ⟨q0, q1, qP, va_K.moved (u := U) (U := U.calling g mk a) (Vm.Alike.refl U.vm) qK, qD, NN.same (u := U) (U := U.calling g mk a) rfl qN⟩
section XK
variable {p : Program} {l : Launch} {e : Env} {R : Room} {s : State} {m : MethodId} {args : Array Value} {below : List Frame} {meth : Method} {c : Code} {H : Heap} {locs : List Loc} {cells slots : Nat} {Q : State → Prop}
variable {cc : ByteArray} {pc : Nat} {ls : Array Slot} {rest st0 : List Value} {D : va_G} {A : Nat → Prop} {a : Nat} {ws : va_W} {H0 : Heap} {cyI cyJ : ClassId} {own : String} {nL : Nat}
theorem x_pre {av : List Value} {wc : va_W} (E : Ctx p s m args c cc nL own D cyI cyJ) (hP : va_P D vwCl wc H) (hD : va_D A wc) : ∀ U : State, U.heap = H → s.WarmedH U.vm → PreW D cyI cyJ av wc H.size av.toArray U :=
  fun U hU hW => ⟨rfl, by rw [hU], by rw [hU]; exact hP, va_K.moved hW.alike E.2.1, hD.weaken (fun _ _ _ _ => trivial), E.2.2.warm hW⟩
theorem x_callB {y : MethodName} {bytes : ByteArray} {maxL n index mc ms : Nat} {ret : Option FieldType} {rm : Room} (E : Ctx p s m args c cc nL own D cyI cyJ) (k : OkM y bytes maxL ret n) (hl : Cond.methodLink own index y ∈ G) (hr : rm.cells = mc ∧ rm.slots = ms ∧ rm.frames + 1 ≤ R.frames ∧ 8 + (maxL + 11) + rm.locals ≤ R.locals) :
    CallB R s args own index y bytes maxL ret (Cond.code y bytes maxL ret :: G) rm mc ms n :=
  callB_of n E.1.2.2.2.2 (good_cons k.1) rfl hr.1 hr.2.1 (E.1.2.2.2.2 _ k.2.1) (E.1.2.2.2.2 _ hl) k.2.2 hr.2.2
theorem x_joini {wc wr : va_W} {S : Type} {rv : S → Int32} {w1 ws' : S → va_W} {mc ms k9 n9 : Nat} {av : Array Value} (hr : va_Run p l e R s m args below meth c H locs cells slots mc ms (F0 m pc ls st0) rest (va_Qi (fun r u => r = rv u) (BW D (va_A wc H.size) w1) (va_A wc H.size) av) (va_A wc H.size)) (hP : va_P D vwCl ws H) (hD : va_D A ws) (hS : va_S A H0 H locs) (hA : ∀ q : Nat, H0.size ≤ q → A q)
    (isC isR : List Nat) (hC : isC.map (fun i => ws[i]?) = wc.map some) (hR : isR.map (fun i => ws[i]?) = wr.map some) (hn : (va_nd isR && isR.all (fun i => !isC.contains i)) = true) (hw : ∀ u, wr ++ w1 u = ws' u) (hk : cells + mc = k9 ∧ slots + ms = n9)
    (kk : ∀ (u : S) (H1 : Heap) (locs1 : List Loc), va_P D vwCl (ws' u) H1 → va_D A (ws' u) → va_S A H0 H1 locs1 → W p l e R s m args below meth c H1 locs1 k9 n9 Q (F0 m (pc + 3) ls (.int (rv u) :: rest))) : W p l e R s m args below meth c H locs cells slots Q (F0 m pc ls st0) := by
  have hFc := va_free (wc := wc) hD hS hA isC hC
  obtain ⟨rfl, rfl⟩ := hk
  obtain ⟨hn1, hn2⟩ := Bool.and_eq_true_iff.mp hn
  refine va_calli hr hS (fun q _ h => hFc q h) hFc (fun r u t H1 locs1 ht hvm hw9 hB hz1 hk1 hS1 => ?_)
  obtain ⟨hP1, hD1⟩ := hB
  rw [ht] at hP1
  obtain ⟨hP2, hD2⟩ := va_join hP hD isC isR hC hR hn1 (fun i hi => by have := List.all_eq_true.mp hn2 i hi; simpa using this) hk1 hFc hP1 hD1
  subst hw9
  rw [hw u] at hP2 hD2
  exact kk u H1 locs1 hP2 hD2 hS1
theorem x_joinv {wc wr : va_W} {S : Type} {w1 ws' : S → va_W} {mc ms k9 n9 : Nat} {av : Array Value} (hr : va_Run p l e R s m args below meth c H locs cells slots mc ms (F0 m pc ls st0) rest (va_Qv (fun _ => True) (BW D (va_A wc H.size) w1) (va_A wc H.size) av) (va_A wc H.size)) (hP : va_P D vwCl ws H) (hD : va_D A ws) (hS : va_S A H0 H locs) (hA : ∀ q : Nat, H0.size ≤ q → A q)
    (isC isR : List Nat) (hC : isC.map (fun i => ws[i]?) = wc.map some) (hR : isR.map (fun i => ws[i]?) = wr.map some) (hn : (va_nd isR && isR.all (fun i => !isC.contains i)) = true) (hw : ∀ u, wr ++ w1 u = ws' u) (hk : cells + mc = k9 ∧ slots + ms = n9)
    (kk : ∀ (u : S) (H1 : Heap) (locs1 : List Loc), va_P D vwCl (ws' u) H1 → va_D A (ws' u) → va_S A H0 H1 locs1 → W p l e R s m args below meth c H1 locs1 k9 n9 Q (F0 m (pc + 3) ls rest)) : W p l e R s m args below meth c H locs cells slots Q (F0 m pc ls st0) := by
  have hFc := va_free (wc := wc) hD hS hA isC hC
  obtain ⟨rfl, rfl⟩ := hk
  obtain ⟨hn1, hn2⟩ := Bool.and_eq_true_iff.mp hn
  refine va_callv hr hS (fun q _ h => hFc q h) hFc (fun u t H1 locs1 ht hvm hw9 hB hz1 hk1 hS1 => ?_)
  obtain ⟨hP1, hD1⟩ := hB
  rw [ht] at hP1
  obtain ⟨hP2, hD2⟩ := va_join hP hD isC isR hC hR hn1 (fun i hi => by have := List.all_eq_true.mp hn2 i hi; simpa using this) hk1 hFc hP1 hD1
  rw [hw u] at hP2 hD2
  exact kk u H1 locs1 hP2 hD2 hS1
variable {y : MethodName} {bytes : ByteArray} {maxL index mc ms k9 n9 : Nat} {rm : Room} {As : List Value} {b : Nat} {wc wr : va_W} {S : Type} {rv : S → Int32} {w1 ws' : S → va_W} {ret : Option FieldType}
/-- invokevirtual, an int or a boolean comes back -/
theorem x_Vi (E : Ctx p s m args c cc nL own D cyI cyJ) (hM : MetI l y (Cond.code y bytes maxL ret) rm D cyI cyJ (.ref b :: As) wc rv w1 mc ms) (k : OkM y bytes maxL ret As.length) (hl : Cond.methodLink own index y ∈ G) (him : Cond.instanceMethod y ∈ G) (hse : Cond.selects y.cls y y ∈ G) (hr : rm.cells = mc ∧ rm.slots = ms ∧ rm.frames + 1 ≤ R.frames ∧ 8 + (maxL + 11) + rm.locals ≤ R.locals)
    (hP : va_P D vwCl ws H) (hD : va_D A ws) (hS : va_S A H0 H locs) (hA : ∀ q : Nat, H0.size ≤ q → A q)
    (isC isR : List Nat) (hC : isC.map (fun i => ws[i]?) = wc.map some) (hR : isR.map (fun i => ws[i]?) = wr.map some) (hn : (va_nd isC && (va_nd isR && isR.all (fun i => !isC.contains i))) = true) (hw : ∀ u, wr ++ w1 u = ws' u) (q0 : Nat) {ci : Nat} {fs : List Value} {q9 : vw_C} (he : ws[q0]? = some (b, .inr (ci, fs))) (hc : vwCl[ci]? = some q9) (hq : q9.1 = y.cls)
    (hls : ls.size = nL) (hst : st0 = As.reverse ++ .ref b :: rest) (hrm : (rest.map fun v => v.category).sum ≤ 8) (hdg : decode cc pc = .ok (.invokevirtual index, 3)) (hk : cells + mc = k9 ∧ slots + ms = n9) (hf : k9 ≤ R.cells ∧ n9 ≤ R.slots)
    (kk : ∀ (u : S) (H1 : Heap) (locs1 : List Loc), va_P D vwCl (ws' u) H1 → va_D A (ws' u) → va_S A H0 H1 locs1 → W p l e R s m args below meth c H1 locs1 k9 n9 Q (F0 m (pc + 3) ls (.int (rv u) :: rest))) : W p l e R s m args below meth c H locs cells slots Q (F0 m pc ls st0) := by
  obtain ⟨hn0, hn1⟩ := Bool.and_eq_true_iff.mp hn
  have hrec := va_recv E.2.1 hP hc he
  rw [hq] at hrec
  exact x_joini (va_runV E.1 (hM H.size) ⟨x_callB E k hl hr, E.1.2.2.2.2 _ him, E.1.2.2.2.2 _ hse⟩ ⟨x_blind, hrec, x_pre E (x_subP hP isC hC) (hD.sub isC hn0 hC)⟩ rfl rfl hls hst (lv_room hrm) hdg (by rw [hk.1, hk.2]; exact hf)) hP hD hS hA isC isR hC hR hn1 hw hk kk
theorem x_Vv (E : Ctx p s m args c cc nL own D cyI cyJ) (hM : MetV l y (Cond.code y bytes maxL ret) rm D cyI cyJ (.ref b :: As) wc w1 mc ms) (k : OkM y bytes maxL ret As.length) (hl : Cond.methodLink own index y ∈ G) (him : Cond.instanceMethod y ∈ G) (hse : Cond.selects y.cls y y ∈ G) (hr : rm.cells = mc ∧ rm.slots = ms ∧ rm.frames + 1 ≤ R.frames ∧ 8 + (maxL + 11) + rm.locals ≤ R.locals)
    (hP : va_P D vwCl ws H) (hD : va_D A ws) (hS : va_S A H0 H locs) (hA : ∀ q : Nat, H0.size ≤ q → A q)
    (isC isR : List Nat) (hC : isC.map (fun i => ws[i]?) = wc.map some) (hR : isR.map (fun i => ws[i]?) = wr.map some) (hn : (va_nd isC && (va_nd isR && isR.all (fun i => !isC.contains i))) = true) (hw : ∀ u, wr ++ w1 u = ws' u) (q0 : Nat) {ci : Nat} {fs : List Value} {q9 : vw_C} (he : ws[q0]? = some (b, .inr (ci, fs))) (hc : vwCl[ci]? = some q9) (hq : q9.1 = y.cls)
    (hls : ls.size = nL) (hst : st0 = As.reverse ++ .ref b :: rest) (hrm : (rest.map fun v => v.category).sum ≤ 8) (hdg : decode cc pc = .ok (.invokevirtual index, 3)) (hk : cells + mc = k9 ∧ slots + ms = n9) (hf : k9 ≤ R.cells ∧ n9 ≤ R.slots)
    (kk : ∀ (u : S) (H1 : Heap) (locs1 : List Loc), va_P D vwCl (ws' u) H1 → va_D A (ws' u) → va_S A H0 H1 locs1 → W p l e R s m args below meth c H1 locs1 k9 n9 Q (F0 m (pc + 3) ls rest)) : W p l e R s m args below meth c H locs cells slots Q (F0 m pc ls st0) := by
  obtain ⟨hn0, hn1⟩ := Bool.and_eq_true_iff.mp hn
  have hrec := va_recv E.2.1 hP hc he
  rw [hq] at hrec
  exact x_joinv (va_runV E.1 (hM H.size) ⟨x_callB E k hl hr, E.1.2.2.2.2 _ him, E.1.2.2.2.2 _ hse⟩ ⟨x_blind, hrec, x_pre E (x_subP hP isC hC) (hD.sub isC hn0 hC)⟩ rfl rfl hls hst (lv_room hrm) hdg (by rw [hk.1, hk.2]; exact hf)) hP hD hS hA isC isR hC hR hn1 hw hk kk
/-- invokestatic -/
theorem x_Si (E : Ctx p s m args c cc nL own D cyI cyJ) (hM : MetI l y (Cond.code y bytes maxL ret) rm D cyI cyJ As wc rv w1 mc ms) (k : OkM y bytes maxL ret As.length) (hl : Cond.methodLink own index y ∈ G) (hsm : Cond.static y ∈ G) (hr : rm.cells = mc ∧ rm.slots = ms ∧ rm.frames + 1 ≤ R.frames ∧ 8 + (maxL + 11) + rm.locals ≤ R.locals)
    (hP : va_P D vwCl ws H) (hD : va_D A ws) (hS : va_S A H0 H locs) (hA : ∀ q : Nat, H0.size ≤ q → A q)
    (isC isR : List Nat) (hC : isC.map (fun i => ws[i]?) = wc.map some) (hR : isR.map (fun i => ws[i]?) = wr.map some) (hn : (va_nd isC && (va_nd isR && isR.all (fun i => !isC.contains i))) = true) (hw : ∀ u, wr ++ w1 u = ws' u)
    (hls : ls.size = nL) (hst : st0 = As.reverse ++ rest) (hrm : (rest.map fun v => v.category).sum ≤ 8) (hdg : decode cc pc = .ok (.invokestatic index, 3)) (hk : cells + mc = k9 ∧ slots + ms = n9) (hf : k9 ≤ R.cells ∧ n9 ≤ R.slots)
    (kk : ∀ (u : S) (H1 : Heap) (locs1 : List Loc), va_P D vwCl (ws' u) H1 → va_D A (ws' u) → va_S A H0 H1 locs1 → W p l e R s m args below meth c H1 locs1 k9 n9 Q (F0 m (pc + 3) ls (.int (rv u) :: rest))) : W p l e R s m args below meth c H locs cells slots Q (F0 m pc ls st0) := by
  obtain ⟨hn0, hn1⟩ := Bool.and_eq_true_iff.mp hn
  exact x_joini (va_runS E.1 (hM H.size) ⟨x_callB E k hl hr, E.1.2.2.2.2 _ hsm⟩ ⟨x_blind, x_pre E (x_subP hP isC hC) (hD.sub isC hn0 hC)⟩ rfl rfl hls hst (lv_room hrm) hdg (by rw [hk.1, hk.2]; exact hf)) hP hD hS hA isC isR hC hR hn1 hw hk kk
theorem x_Sv (E : Ctx p s m args c cc nL own D cyI cyJ) (hM : MetV l y (Cond.code y bytes maxL ret) rm D cyI cyJ As wc w1 mc ms) (k : OkM y bytes maxL ret As.length) (hl : Cond.methodLink own index y ∈ G) (hsm : Cond.static y ∈ G) (hr : rm.cells = mc ∧ rm.slots = ms ∧ rm.frames + 1 ≤ R.frames ∧ 8 + (maxL + 11) + rm.locals ≤ R.locals)
    (hP : va_P D vwCl ws H) (hD : va_D A ws) (hS : va_S A H0 H locs) (hA : ∀ q : Nat, H0.size ≤ q → A q)
    (isC isR : List Nat) (hC : isC.map (fun i => ws[i]?) = wc.map some) (hR : isR.map (fun i => ws[i]?) = wr.map some) (hn : (va_nd isC && (va_nd isR && isR.all (fun i => !isC.contains i))) = true) (hw : ∀ u, wr ++ w1 u = ws' u)
    (hls : ls.size = nL) (hst : st0 = As.reverse ++ rest) (hrm : (rest.map fun v => v.category).sum ≤ 8) (hdg : decode cc pc = .ok (.invokestatic index, 3)) (hk : cells + mc = k9 ∧ slots + ms = n9) (hf : k9 ≤ R.cells ∧ n9 ≤ R.slots)
    (kk : ∀ (u : S) (H1 : Heap) (locs1 : List Loc), va_P D vwCl (ws' u) H1 → va_D A (ws' u) → va_S A H0 H1 locs1 → W p l e R s m args below meth c H1 locs1 k9 n9 Q (F0 m (pc + 3) ls rest)) : W p l e R s m args below meth c H locs cells slots Q (F0 m pc ls st0) := by
  obtain ⟨hn0, hn1⟩ := Bool.and_eq_true_iff.mp hn
  exact x_joinv (va_runS E.1 (hM H.size) ⟨x_callB E k hl hr, E.1.2.2.2.2 _ hsm⟩ ⟨x_blind, x_pre E (x_subP hP isC hC) (hD.sub isC hn0 hC)⟩ rfl rfl hls hst (lv_room hrm) hdg (by rw [hk.1, hk.2]; exact hf)) hP hD hS hA isC isR hC hR hn1 hw hk kk
/-- invokespecial of a constructor -/
theorem x_Iv (E : Ctx p s m args c cc nL own D cyI cyJ) (hM : MetV l y (Cond.code y bytes maxL none) rm D cyI cyJ (.ref b :: As) wc w1 mc ms) (k : OkM y bytes maxL none As.length) (hl : Cond.methodLink own index y ∈ G) (him : Cond.instanceMethod y ∈ G) (hy1 : y.name = "<init>") (hr : rm.cells = mc ∧ rm.slots = ms ∧ rm.frames + 1 ≤ R.frames ∧ 8 + (maxL + 11) + rm.locals ≤ R.locals)
    (hP : va_P D vwCl ws H) (hD : va_D A ws) (hS : va_S A H0 H locs) (hA : ∀ q : Nat, H0.size ≤ q → A q)
    (isC isR : List Nat) (hC : isC.map (fun i => ws[i]?) = wc.map some) (hR : isR.map (fun i => ws[i]?) = wr.map some) (hn : (va_nd isC && (va_nd isR && isR.all (fun i => !isC.contains i))) = true) (hw : ∀ u, wr ++ w1 u = ws' u)
    (hls : ls.size = nL) (hst : st0 = As.reverse ++ .ref b :: rest) (hrm : (rest.map fun v => v.category).sum ≤ 8) (hdg : decode cc pc = .ok (.invokespecial index, 3)) (hk : cells + mc = k9 ∧ slots + ms = n9) (hf : k9 ≤ R.cells ∧ n9 ≤ R.slots)
    (kk : ∀ (u : S) (H1 : Heap) (locs1 : List Loc), va_P D vwCl (ws' u) H1 → va_D A (ws' u) → va_S A H0 H1 locs1 → W p l e R s m args below meth c H1 locs1 k9 n9 Q (F0 m (pc + 3) ls rest)) : W p l e R s m args below meth c H locs cells slots Q (F0 m pc ls st0) := by
  obtain ⟨hn0, hn1⟩ := Bool.and_eq_true_iff.mp hn
  exact x_joinv (va_runI E.1 (hM H.size) ⟨x_callB E k hl hr, hy1, E.1.2.2.2.2 _ him⟩ ⟨x_blind, x_pre E (x_subP hP isC hC) (hD.sub isC hn0 hC)⟩ rfl rfl hls hst (lv_room hrm) hdg (by rw [hk.1, hk.2]; exact hf)) hP hD hS hA isC isR hC hR hn1 hw hk kk
end XK
section XL
variable {p : Program} {l : Launch} {e : Env} {R : Room} {s : State} {m : MethodId} {args : Array Value} {below : List Frame} {meth : Method} {c : Code} {H : Heap} {locs : List Loc} {cells slots : Nat} {Q : State → Prop}
variable {cc : ByteArray} {pc : Nat} {ls : Array Slot} {rest st0 : List Value} {D : va_G} {A : Nat → Prop} {a : Nat} {ws ws' : va_W} {H0 : Heap} {cyI cyJ : ClassId} {own : String} {nL : Nat}
theorem x_get (E : Ctx p s m args c cc nL own D cyI cyJ) {C : String} {T : u_T} {N ci index : Nat} (hin : ∀ w ∈ u_ws C T N, w ∈ G) (hP : va_P D vwCl ws H) (q0 : Nat) {fs : List Value} (he : ws[q0]? = some (a, .inr (ci, fs))) (hc : vwCl[ci]? = some (C, T, N)) (k : Nat) (hk : k < N) (hl : Cond.fieldLink own index (T k).1 (T k).2.1 (T k).2.2.1 ∈ G) {v : Value} (hv : fs[k]? = some v) (hdg : decode cc pc = .ok (.getfield index, 3))
    (kk : W p l e R s m args below meth c H locs cells slots Q (F0 m (pc + 3) ls (v :: rest))) : W p l e R s m args below meth c H locs cells slots Q (F0 m pc ls (.ref a :: rest)) :=
  va_get E.1.1 E.1.2.1 E.1.2.2.2.2 hin E.1.2.2.2.1 E.2.1 hP q0 he hc k hk (E.1.2.2.2.2 _ hl) (fun _ h => h) hv hdg kk
theorem x_getN (E : Ctx p s m args c cc nL own D cyI cyJ) {C host : String} {T : u_T} {N ci index : Nat} (hin : ∀ w ∈ u_ws C T N, w ∈ G) (hP : va_P D vwCl ws H) (q0 : Nat) {fs : List Value} (he : ws[q0]? = some (a, .inr (ci, fs))) (hc : vwCl[ci]? = some (C, T, N)) (k : Nat) (hk : k < N) (hl : (own, index, (T k).1, (T k).2.1, (T k).2.2.1, host) ∈ xNestL) {v : Value} (hv : fs[k]? = some v) (hdg : decode cc pc = .ok (.getfield index, 3))
    (kk : W p l e R s m args below meth c H locs cells slots Q (F0 m (pc + 3) ls (v :: rest))) : W p l e R s m args below meth c H locs cells slots Q (F0 m pc ls (.ref a :: rest)) :=
  va_getN E.1.1 E.1.2.1 E.1.2.2.2.2 hin E.1.2.2.2.1 E.2.1 hP q0 he hc k hk (va_Nw.use rfl (E.2.2.1 _ hl)) (fun _ h => h) hv hdg kk
theorem x_put (E : Ctx p s m args c cc nL own D cyI cyJ) {C : String} {T : u_T} {N ci index : Nat} (hin : ∀ w ∈ u_ws C T N, w ∈ G) (ty0 : Nat → FieldType) (hty : ∀ k, k < N → parseFieldDescriptor (T k).2.2.1 = some (ty0 k)) (hnm : ∀ a, a < N → ∀ b, b < N → a ≠ b → (T a).2.1 ≠ (T b).2.1) (hP : va_P D vwCl ws H) (hD : va_D A ws) (hS : va_S A H0 H locs) (q0 : Nat) {fs : List Value} (he : ws[q0]? = some (a, .inr (ci, fs))) (hc : vwCl[ci]? = some (C, T, N)) (k : Nat) (hk : k < N) (hl : Cond.fieldLink own index (T k).1 (T k).2.1 (T k).2.2.1 ∈ G) (hfin : (T k).2.2.2 = false) {v : Value} (hn : narrow (ty0 k) v = v) (hfit : fits (ty0 k) v = true) (hlt : Nat.ble (k + 1) fs.length = true) (hw : ws.set q0 (a, .inr (ci, fs.set k v)) = ws')
    (hdg : decode cc pc = .ok (.putfield index, 3)) (kk : ∀ (H1 : Heap) (locs1 : List Loc), va_P D vwCl ws' H1 → va_D A ws' → va_S A H0 H1 locs1 → W p l e R s m args below meth c H1 locs1 cells slots Q (F0 m (pc + 3) ls rest)) : W p l e R s m args below meth c H locs cells slots Q (F0 m pc ls (v :: .ref a :: rest)) := by
  subst hw
  exact va_put E.1.1 E.1.2.1 E.1.2.2.2.2 hin ty0 hty hnm E.1.2.2.2.1 E.2.1 hP hD hS q0 he hc k hk (E.1.2.2.2.2 _ hl) (fun _ h => h) hfin (hty k hk) hn hfit (Nat.le_of_ble_eq_true hlt) hdg kk
theorem x_putF (E : Ctx p s m args c cc nL own D cyI cyJ) {C : String} {T : u_T} {N ci index : Nat} (hin : ∀ w ∈ u_ws C T N, w ∈ G) (ty0 : Nat → FieldType) (hty : ∀ k, k < N → parseFieldDescriptor (T k).2.2.1 = some (ty0 k)) (hnm : ∀ a, a < N → ∀ b, b < N → a ≠ b → (T a).2.1 ≠ (T b).2.1) (hP : va_P D vwCl ws H) (hD : va_D A ws) (hS : va_S A H0 H locs) (hnm0 : meth.name = "<init>") (q0 : Nat) {fs : List Value} (he : ws[q0]? = some (a, .inr (ci, fs))) (hc : vwCl[ci]? = some (C, T, N)) (k : Nat) (hk : k < N) (hl : Cond.fieldLink own index (T k).1 (T k).2.1 (T k).2.2.1 ∈ G) (hfin : (T k).2.2.2 = true) (hdecl : (T k).1 = own) {v : Value} (hn : narrow (ty0 k) v = v) (hfit : fits (ty0 k) v = true) (hlt : Nat.ble (k + 1) fs.length = true) (hw : ws.set q0 (a, .inr (ci, fs.set k v)) = ws')
    (hdg : decode cc pc = .ok (.putfield index, 3)) (kk : ∀ (H1 : Heap) (locs1 : List Loc), va_P D vwCl ws' H1 → va_D A ws' → va_S A H0 H1 locs1 → W p l e R s m args below meth c H1 locs1 cells slots Q (F0 m (pc + 3) ls rest)) : W p l e R s m args below meth c H locs cells slots Q (F0 m pc ls (v :: .ref a :: rest)) := by
  subst hw
  exact va_putF E.1.1 E.1.2.1 E.1.2.2.2.2 hin ty0 hty hnm E.1.2.2.2.1 E.2.1 hP hD hS q0 he hc k hk (E.1.2.2.2.2 _ hl) (fun _ h => h) hfin hnm0 hdecl (hty k hk) hn hfit (Nat.le_of_ble_eq_true hlt) hdg kk
theorem x_iald (E : Ctx p s m args c cc nL own D cyI cyJ) (hP : va_P D vwCl ws H) (q0 : Nat) {n : Nat} {f : Nat → Int32} (ha : ws[q0]? = some (a, .inl (cyI, n, .inl f))) {i v : Int32} (hin : ¬ (i < 0 ∨ n ≤ i.toNatClampNeg)) (hv : f i.toNatClampNeg = v) (hdg : decode cc pc = .ok (.iaload, 1))
    (kk : W p l e R s m args below meth c H locs cells slots Q (F0 m (pc + 1) ls (.int v :: rest))) : W p l e R s m args below meth c H locs cells slots Q (F0 m pc ls (.int i :: .ref a :: rest)) := by
  subst hv
  exact va_iald E.1.1 E.1.2.1 E.2.1 hP q0 0 ha rfl hin hdg kk
theorem x_iast (E : Ctx p s m args c cc nL own D cyI cyJ) (hP : va_P D vwCl ws H) (hD : va_D A ws) (hS : va_S A H0 H locs) (q0 : Nat) {n : Nat} {f f' : Nat → Int32} (ha : ws[q0]? = some (a, .inl (cyI, n, .inl f))) {i x : Int32} (hin : ¬ (i < 0 ∨ n ≤ i.toNatClampNeg)) (hf : upd f i.toNatClampNeg x = f') (hw : ws.set q0 (a, .inl (cyI, n, .inl f')) = ws') (hdg : decode cc pc = .ok (.iastore, 1))
    (kk : ∀ (H1 : Heap) (locs1 : List Loc), va_P D vwCl ws' H1 → va_D A ws' → va_S A H0 H1 locs1 → W p l e R s m args below meth c H1 locs1 cells slots Q (F0 m (pc + 1) ls rest)) : W p l e R s m args below meth c H locs cells slots Q (F0 m pc ls (.int x :: .int i :: .ref a :: rest)) := by
  subst hf; subst hw
  exact va_iast E.1.1 E.1.2.1 E.2.1 hP hD hS q0 0 ha rfl hin hdg kk
/-- the same, what the row holds being let go -/
theorem x_iastG (E : Ctx p s m args c cc nL own D cyI cyJ) {wg : (Nat → Int32) → va_W} (hP : va_P D vwCl ws H) (hD : va_D A ws) (hS : va_S A H0 H locs) (q0 : Nat) {n : Nat} {f : Nat → Int32} (ha : ws[q0]? = some (a, .inl (cyI, n, .inl f))) {i x : Int32} (hin : ¬ (i < 0 ∨ n ≤ i.toNatClampNeg)) (hw : ∀ f', ws.set q0 (a, .inl (cyI, n, .inl f')) = wg f') (hdg : decode cc pc = .ok (.iastore, 1))
    (kk : ∀ (f' : Nat → Int32) (H1 : Heap) (locs1 : List Loc), va_P D vwCl (wg f') H1 → va_D A (wg f') → va_S A H0 H1 locs1 → W p l e R s m args below meth c H1 locs1 cells slots Q (F0 m (pc + 1) ls rest)) : W p l e R s m args below meth c H locs cells slots Q (F0 m pc ls (.int x :: .int i :: .ref a :: rest)) :=
  va_iast E.1.1 E.1.2.1 E.2.1 hP hD hS q0 0 ha rfl hin hdg (fun H1 locs1 h1 h2 h3 => kk _ H1 locs1 (by rw [← hw]; exact h1) (by rw [← hw]; exact h2) h3)
theorem x_alen (E : Ctx p s m args c cc nL own D cyI cyJ) (hP : va_P D vwCl ws H) (q0 : Nat) {n : Nat} {f : Nat → Int32} (ha : ws[q0]? = some (a, .inl (cyI, n, .inl f))) {v : Int32} (hv : Int32.ofNat n = v) (hdg : decode cc pc = .ok (.arraylength, 1))
    (kk : W p l e R s m args below meth c H locs cells slots Q (F0 m (pc + 1) ls (.int v :: rest))) : W p l e R s m args below meth c H locs cells slots Q (F0 m pc ls (.ref a :: rest)) :=
  va_alen E.1.1 E.1.2.1 E.2.1 hP q0 0 ha rfl hv hdg kk
theorem x_newI (E : Ctx p s m args c cc nL own D cyI cyJ) {wg : Nat → va_W} {k9 n9 : Nat} (hw9 : Cond.arrayClass .int ∈ G) (hP : va_P D vwCl ws H) (hD : va_D A ws) (hS : va_S A H0 H locs) (hA : ∀ q : Nat, H0.size ≤ q → A q) {n : Int32} (N' : Nat) (hn : ¬ n < 0) (hN : n.toNatClampNeg = N') (hbytes : Nat.ble (N' * 4) 536870912 = true) (hk : cells + 1 = k9 ∧ slots + N' = n9) (hf : k9 ≤ R.cells ∧ n9 ≤ R.slots) (hw : ∀ q, ws ++ [(q, .inl (cyI, N', .inl (fun _ => 0)))] = wg q) (hdg : decode cc pc = .ok (.newarray .int, 2))
    (kk : ∀ (q : Nat) (H1 : Heap), va_P D vwCl (wg q) H1 → va_D A (wg q) → va_S A H0 H1 locs → W p l e R s m args below meth c H1 locs k9 n9 Q (F0 m (pc + 2) ls (.ref q :: rest))) : W p l e R s m args below meth c H locs cells slots Q (F0 m pc ls (.int n :: rest)) := by
  obtain ⟨rfl, rfl⟩ := hk
  refine va_newa (atype := .int) (ty := .int) (a0 := (N', .inl (fun _ => 0))) E.1.1 E.1.2.1 (E.1.2.2.2.2 _ hw9) rfl E.2.1 hP hD hS hA (fun _ => rfl) hn hN (Nat.le_of_ble_eq_true hbytes) hf.1 hf.2 hdg (fun q cA H1 hK1 hP1 hD1 hS1 => ?_)
  have e1 : s.vm.findClass ("[" ++ FieldType.int.toString) = some cA := (hK1.2 2 (cA, .int) rfl).2
  have e2 : s.vm.findClass ("[" ++ FieldType.int.toString) = some cyI := (E.2.1.2 0 (cyI, .int) rfl).2
  have e3 : cA = cyI := Option.some.inj (e1.symm.trans e2)
  subst e3
  exact kk q H1 (by rw [← hw]; exact hP1) (by rw [← hw]; exact hD1) hS1
theorem x_newJ (E : Ctx p s m args c cc nL own D cyI cyJ) {wg : Nat → va_W} {k9 n9 : Nat} (hw9 : Cond.arrayClass .long ∈ G) (hP : va_P D vwCl ws H) (hD : va_D A ws) (hS : va_S A H0 H locs) (hA : ∀ q : Nat, H0.size ≤ q → A q) {n : Int32} (N' : Nat) (hn : ¬ n < 0) (hN : n.toNatClampNeg = N') (hbytes : Nat.ble (N' * 8) 536870912 = true) (hk : cells + 1 = k9 ∧ slots + N' = n9) (hf : k9 ≤ R.cells ∧ n9 ≤ R.slots) (hw : ∀ q, ws ++ [(q, .inl (cyJ, N', .inr (.inl (fun _ => 0))))] = wg q) (hdg : decode cc pc = .ok (.newarray .long, 2))
    (kk : ∀ (q : Nat) (H1 : Heap), va_P D vwCl (wg q) H1 → va_D A (wg q) → va_S A H0 H1 locs → W p l e R s m args below meth c H1 locs k9 n9 Q (F0 m (pc + 2) ls (.ref q :: rest))) : W p l e R s m args below meth c H locs cells slots Q (F0 m pc ls (.int n :: rest)) := by
  obtain ⟨rfl, rfl⟩ := hk
  refine va_newa (atype := .long) (ty := .long) (a0 := (N', .inr (.inl (fun _ => 0)))) E.1.1 E.1.2.1 (E.1.2.2.2.2 _ hw9) rfl E.2.1 hP hD hS hA (fun _ => rfl) hn hN (Nat.le_of_ble_eq_true hbytes) hf.1 hf.2 hdg (fun q cA H1 hK1 hP1 hD1 hS1 => ?_)
  have e1 : s.vm.findClass ("[" ++ FieldType.long.toString) = some cA := (hK1.2 2 (cA, .long) rfl).2
  have e2 : s.vm.findClass ("[" ++ FieldType.long.toString) = some cyJ := (E.2.1.2 1 (cyJ, .long) rfl).2
  have e3 : cA = cyJ := Option.some.inj (e1.symm.trans e2)
  subst e3
  exact kk q H1 (by rw [← hw]; exact hP1) (by rw [← hw]; exact hD1) hS1
theorem x_new (E : Ctx p s m args c cc nL own D cyI cyJ) {wg : Nat → va_W} {k9 n9 : Nat} {C : String} {T : u_T} {N ci index : Nat} (hin : ∀ w ∈ u_ws C T N, w ∈ G) (ty : Nat → FieldType) (hty : ∀ k, k < N → parseFieldDescriptor (T k).2.2.1 = some (ty k)) (hcl : Cond.classLink own index C ∈ G) (hinst : Cond.instantiable C N ∈ G) (hini : Cond.initialized C ∈ G) (hP : va_P D vwCl ws H) (hD : va_D A ws) (hS : va_S A H0 H locs) (hA : ∀ q : Nat, H0.size ≤ q → A q) (hc : vwCl[ci]? = some (C, T, N)) (fs : List Value) (hfs : (List.range N).all (fun j => decide (defaultValue (ty j) = vp_V fs j)) = true) (hk : cells + 1 = k9 ∧ slots + N = n9) (hf : k9 ≤ R.cells ∧ n9 ≤ R.slots) (hw : ∀ q, ws ++ [(q, .inr (ci, fs))] = wg q) (hdg : decode cc pc = .ok (.new index, 3))
    (kk : ∀ (q : Nat) (H1 : Heap), va_P D vwCl (wg q) H1 → va_D A (wg q) → va_S A H0 H1 locs → W p l e R s m args below meth c H1 locs k9 n9 Q (F0 m (pc + 3) ls (.ref q :: rest))) : W p l e R s m args below meth c H locs cells slots Q (F0 m pc ls rest) := by
  obtain ⟨rfl, rfl⟩ := hk
  exact va_new E.1.1 E.1.2.1 E.1.2.2.2.2 hin ty hty E.1.2.2.2.1 (E.1.2.2.2.2 _ hcl) (E.1.2.2.2.2 _ hinst) (E.1.2.2.2.2 _ hini) E.2.1 hP hD hS hA hc (fun j hj => of_decide_eq_true (List.all_eq_true.mp hfs j (List.mem_range.mpr hj))) hf.1 hf.2 hdg (fun q H1 h1 h2 h3 => kk q H1 (by rw [← hw]; exact h1) (by rw [← hw]; exact h2) h3)
theorem x_obj (E : Ctx p s m args c cc nL own D cyI cyJ) {index : Nat} (hl : Cond.methodLink own index objectInit ∈ G) (him : Cond.instanceMethod objectInit ∈ G) (hcd : Cond.code objectInit ⟨#[0xb1]⟩ 1 none ∈ G) (hls : ls.size = nL) (hdg : decode cc pc = .ok (.invokespecial index, 3)) (hfr : 1 ≤ R.frames) (hlo : (rest.map fun v => v.category).sum + 12 ≤ R.locals)
    (kk : W p l e R s m args below meth c H locs cells slots Q (F0 m (pc + 3) ls rest)) : W p l e R s m args below meth c H locs cells slots Q (F0 m pc ls (.ref a :: rest)) :=
  W.objInit E.1.1 E.1.2.1 E.1.2.2.2.1 (E.1.2.2.2.2 _ hl) (E.1.2.2.2.2 _ him) (E.1.2.2.2.2 _ hcd) rfl (hls.trans E.1.2.2.1.symm) rfl hdg hfr (by simpa [JFrame.monitorRoom] using hlo) kk
theorem x_str (E : Ctx p s m args c cc nL own D cyI cyJ) {index : Nat} {tx : String} (hq : (own, index, tx) ∈ xStrL) (hdg : decode cc pc = .ok (.ldc index, 2))
    (kk : ∀ q : Nat, W p l e R s m args below meth c H locs cells slots Q (F0 m (pc + 2) ls (.ref q :: rest))) : W p l e R s m args below meth c H locs cells slots Q (F0 m pc ls rest) := by
  obtain ⟨q, hZ⟩ := E.2.2.2 _ hq
  exact va_ldcS E.1.1 E.1.2.1 E.1.2.2.2.1 hZ hdg (kk q)
theorem x_ldc (E : Ctx p s m args c cc nL own D cyI cyJ) {index : Nat} {v : Int32} (hq : Cond.constant own index v ∈ G) (hdg : decode cc pc = .ok (.ldc index, 2))
    (kk : W p l e R s m args below meth c H locs cells slots Q (F0 m (pc + 2) ls (.int v :: rest))) : W p l e R s m args below meth c H locs cells slots Q (F0 m pc ls rest) :=
  lv_ldc E.1.1 E.1.2.1 E.1.2.2.2.1 (E.1.2.2.2.2 _ hq) hdg kk
theorem x_min (E : Ctx p s m args c cc nL own D cyI cyJ) {index : Nat} (hl : Cond.methodLink own index Lib.Math.min.name ∈ G) (hst : Cond.static Lib.Math.min.name ∈ G) (hini : Cond.initialized "java/lang/Math" ∈ G) (hcd : Cond.code Lib.Math.min.name Lib.Math.min.code 2 (some .int) ∈ G) (hls : ls.size = nL) (hfr : 1 ≤ R.frames ∧ (rest.map fun v => v.category).sum + 13 ≤ R.locals ∧ cells ≤ R.cells ∧ slots ≤ R.slots) {x y z : Int32} (hz : (if y < x then y else x) = z) (hdg : decode cc pc = .ok (.invokestatic index, 3))
    (kk : W p l e R s m args below meth c H locs cells slots Q (F0 m (pc + 3) ls (.int z :: rest))) : W p l e R s m args below meth c H locs cells slots Q (F0 m pc ls (.int y :: .int x :: rest)) := by
  subst hz
  exact va_mmin E.1.1 E.1.2.1 (E.1.2.2.1.trans hls.symm) E.1.2.2.2.1 (E.1.2.2.2.2 _ hl) (E.1.2.2.2.2 _ hst) (E.1.2.2.2.2 _ hini) (E.1.2.2.2.2 _ hcd) hfr.1 hfr.2.1 hfr.2.2.1 hfr.2.2.2 hdg kk
theorem x_copy (E : Ctx p s m args c cc nL own D cyI cyJ) {wg : (Nat → Int32) → va_W} {index : Nat} (hl : Cond.methodLink own index arraycopyName ∈ G) (hnat : Cond.native arraycopyName ∈ G) (hst : Cond.static arraycopyName ∈ G) (hini : Cond.initialized "java/lang/System" ∈ G) (hP : va_P D vwCl ws H) (hD : va_D A ws) (hS : va_S A H0 H locs) (hls : ls.size = nL) (q0 q1 : Nat) {a0 : Nat} {n0 n1 : Nat} {f g : Nat → Int32} (ha0 : ws[q0]? = some (a0, .inl (cyI, n0, .inl f))) (ha1 : ws[q1]? = some (a, .inl (cyI, n1, .inl g)))
    {sp dp n : Int32} (h1 : ¬ sp < 0 ∧ ¬ dp < 0 ∧ ¬ n < 0 ∧ sp.toNatClampNeg + n.toNatClampNeg ≤ n0 ∧ dp.toNatClampNeg + n.toNatClampNeg ≤ n1) (hfr : 1 ≤ R.frames ∧ (rest.map fun v => v.category).sum + (nativeFrameWords "java/lang/System" "arraycopy" 5 + 11) ≤ R.locals) (hw : ∀ g', ws.set q1 (a, .inl (cyI, n1, .inl g')) = wg g') (hdg : decode cc pc = .ok (.invokestatic index, 3))
    (kk : ∀ (g' : Nat → Int32) (H1 : Heap) (locs1 : List Loc), va_P D vwCl (wg g') H1 → va_D A (wg g') → va_S A H0 H1 locs1 → W p l e R s m args below meth c H1 locs1 cells slots Q (F0 m (pc + 3) ls rest)) : W p l e R s m args below meth c H locs cells slots Q (F0 m pc ls (.int n :: .int dp :: .ref a :: .int sp :: .ref a0 :: rest)) :=
  va_copyi (ty := .int) E.1.1 E.1.2.1 (E.1.2.2.1.trans hls.symm) E.1.2.2.2.1 (E.1.2.2.2.2 _ hl) (E.1.2.2.2.2 _ hnat) (E.1.2.2.2.2 _ hst) (E.1.2.2.2.2 _ hini) E.2.1 hP hD hS q0 q1 0 0 ha0 ha1 rfl rfl rfl h1.1 h1.2.1 h1.2.2.1 h1.2.2.2.1 h1.2.2.2.2 (fun _ _ => rfl) hfr.1 hfr.2 hdg (fun H1 locs1 h1 h2 h3 => kk _ H1 locs1 (by rw [← hw]; exact h1) (by rw [← hw]; exact h2) h3)
theorem x_topi {x z : Int32} (h : x = z) (kk : W p l e R s m args below meth c H locs cells slots Q (F0 m pc ls (.int z :: rest))) : W p l e R s m args below meth c H locs cells slots Q (F0 m pc ls (.int x :: rest)) := h ▸ kk
variable {S : Type} {rv : S → Int32} {w1 : S → va_W} {v : Int32} {rt : FieldType}
theorem x_iret (E : Ctx p s m args c cc nL own D cyI cyJ) (hr : meth.sig.returnType = some rt) (hlk : meth.locks = false) (hP : va_P D vwCl ws H) (hD : va_D A ws) (hS : va_S A s.heap H locs) (u : S) (hp : v = rv u) (is : List Nat) (hn : va_nd is = true) (hs : is.map (fun i => ws[i]?) = (w1 u).map some) (hnr : narrow rt (.int v) = .int v) (hdg : decode cc pc = .ok (.ireturn, 1)) :
    W p l e R s m args below meth c H locs cells slots (MQ below (va_Qi (fun r u => r = rv u) (BW D A w1) A) args s cells slots A) (F0 m pc ls [.int v]) :=
  W.zret E.1.1 E.1.2.1 hr hnr (fun t ht hW => ⟨⟨v, u, rfl, hp, by rw [ht]; exact x_subP hP is hs, hD.sub is hn hs⟩, hS.F ht⟩) hS.2.2 hdg hlk
theorem x_vret (E : Ctx p s m args c cc nL own D cyI cyJ) (hr : meth.sig.returnType = none) (hlk : meth.locks = false) (hP : va_P D vwCl ws H) (hD : va_D A ws) (hS : va_S A s.heap H locs) (u : S) (is : List Nat) (hn : va_nd is = true) (hs : is.map (fun i => ws[i]?) = (w1 u).map some) (hdg : decode cc pc = .ok (.return_, 1)) :
    W p l e R s m args below meth c H locs cells slots (MQ below (va_Qv (fun _ => True) (BW D A w1) A) args s cells slots A) (F0 m pc ls []) :=
  W.vret E.1.1 E.1.2.1 hr (fun t ht hW => ⟨⟨u, rfl, trivial, by rw [ht]; exact x_subP hP is hs, hD.sub is hn hs⟩, hS.F ht⟩) hS.2.2 hdg hlk
end XL
theorem met_i {l : Launch} {y : MethodName} {bytes : ByteArray} {maxL : Nat} {rm : Room} {D : va_G} {cyI cyJ : ClassId} {av : List Value} {wc : va_W} {S : Type} {rv : S → Int32} {w1 : S → va_W} {mc ms : Nat} {rt : FieldType} (hy : plainName y.cls = true) (hlen : Nat.ble (lg_sl av).length maxL = true)
    (body : ∀ (p : Program) (e : Env) (s : State) (m : MethodId) (below : List Frame) (meth : Method) (c : Code) (A : Nat → Prop) (ls : Array Slot), Ctx p s m av.toArray c bytes maxL y.cls D cyI cyJ → meth.sig.returnType = some rt → meth.locks = false → va_P D vwCl wc s.heap → va_D A wc → (∀ q : Nat, s.heap.size ≤ q → A q) → lv_has ls maxL (lv_args 0 av) → W p l e rm s m av.toArray below meth c s.heap [] 0 0 (MQ below (va_Qi (fun r u => r = rv u) (BW D A w1) A) av.toArray s mc ms A) (F0 m 0 ls [])) :
    MetI l y (Cond.code y bytes maxL (some rt)) rm D cyI cyJ av wc rv w1 mc ms := by
  intro sz
  refine Met.ofW (cc := bytes) (maxL := maxL) (ret := some rt) hy rfl ?_
  intro p e s m args below meth c s₁ B hml hv
  obtain ⟨rfl, hsz, hP, hK, hD0, hN⟩ := hv
  subst hsz
  have hts := atoms_spec (ws := Cond.code y bytes maxL (some rt) :: G) B.pre
  have hl := lv_entry av (n := maxL) (Nat.le_of_ble_eq_true hlen)
  rw [lg_entry_eq]
  generalize (lg_sl av ++ List.replicate (maxL - (lg_sl av).length) Slot.unset).toArray = ls at hl ⊢
  exact body p e s m below meth c _ ls ⟨⟨B.exec, B.bytes, hml, findClass_of_methodNamed B.named, fun w h => hts w (List.mem_cons_of_mem _ h)⟩, hK, hN⟩ B.returns B.notSynchronized hP hD0.self (fun q h => Or.inr h) hl
theorem met_v {l : Launch} {y : MethodName} {bytes : ByteArray} {maxL : Nat} {rm : Room} {D : va_G} {cyI cyJ : ClassId} {av : List Value} {wc : va_W} {S : Type} {w1 : S → va_W} {mc ms : Nat} (hy : plainName y.cls = true) (hlen : Nat.ble (lg_sl av).length maxL = true)
    (body : ∀ (p : Program) (e : Env) (s : State) (m : MethodId) (below : List Frame) (meth : Method) (c : Code) (A : Nat → Prop) (ls : Array Slot), Ctx p s m av.toArray c bytes maxL y.cls D cyI cyJ → meth.sig.returnType = none → meth.locks = false → meth.name = y.name → va_P D vwCl wc s.heap → va_D A wc → (∀ q : Nat, s.heap.size ≤ q → A q) → lv_has ls maxL (lv_args 0 av) → W p l e rm s m av.toArray below meth c s.heap [] 0 0 (MQ below (va_Qv (fun _ => True) (BW D A w1) A) av.toArray s mc ms A) (F0 m 0 ls [])) :
    MetV l y (Cond.code y bytes maxL none) rm D cyI cyJ av wc w1 mc ms := by
  intro sz
  refine Met.ofW (cc := bytes) (maxL := maxL) (ret := none) hy rfl ?_
  intro p e s m args below meth c s₁ B hml hv
  obtain ⟨rfl, hsz, hP, hK, hD0, hN⟩ := hv
  subst hsz
  have hts := atoms_spec (ws := Cond.code y bytes maxL none :: G) B.pre
  have hl := lv_entry av (n := maxL) (Nat.le_of_ble_eq_true hlen)
  rw [lg_entry_eq]
  generalize (lg_sl av ++ List.replicate (maxL - (lg_sl av).length) Slot.unset).toArray = ls at hl ⊢
  exact body p e s m below meth c _ ls ⟨⟨B.exec, B.bytes, hml, findClass_of_methodNamed B.named, fun w h => hts w (List.mem_cons_of_mem _ h)⟩, hK, hN⟩ B.returns B.notSynchronized (name_of_methodNamed B.named B.method).1 hP hD0.self (fun q h => Or.inr h) hl
theorem kX8_refuse : OkM yX8_refuse cX8_refuse 3 (some .int) 2 := ⟨q4, q5, by decide +kernel⟩
end
section
set_option maxHeartbeats 4000000 in
set_option maxRecDepth 100000 in
theorem mX8_refuse (l : Launch) (D : va_G) (cyI cyJ : ClassId) (h0 : Nat) (v0_0 : Value) (v0_1 : Value) (v0_2 : Value) (v0_3 : Value) (v0_4 : Value) (v0_5 : Value) (v0_6 : Value) (v0_7 : Value) (v0_8 : Value) (v0_9 : Value) (v0_11 : Value) : MetI l yX8_refuse (Cond.code yX8_refuse cX8_refuse 3 (some .int)) { frames := 0, cells := 0, slots := 0, locals := 0 } D cyI cyJ [.ref h0, .int 1, .int 0] [(h0, .inr (8, [v0_0, v0_1, v0_2, v0_3, v0_4, v0_5, v0_6, v0_7, v0_8, v0_9, .int 0, v0_11]))] (fun _ : Unit => (-1)) (fun _ : Unit => ([(h0, .inr (8, [v0_0, v0_1, v0_2, v0_3, v0_4, v0_5, v0_6, .int 1, v0_8, v0_9, .int 1, .int 0]))] : va_W)) 0 0 := by
  refine met_i (by decide) rfl ?_
  intro p e s m below meth c A ls E hr hlk hP hD hA hl
  have hS : va_S A s.heap s.heap [] := va_S.rf
  have hx := E.1.1
  have hb := E.1.2.1
  have hl : lv_has ls 3 [(0, .ref h0), (1, .int 1), (2, .int 0)] := hl
  refine lv_aload_n hx hb dX8_refuse_0 rfl (lv_at hl 0 rfl) ?_
  refine x_get E iX8 hP 0 rfl rfl 10 (by decide) q0 rfl dX8_refuse_1 ?_
  refine lv_if_ne (tgt := 17) hx hb dX8_refuse_4 (by decide) (fun c9 => absurd (by decide) c9) (fun c9 => ?_)
  refine lv_aload_n hx hb dX8_refuse_7 rfl (lv_at hl 0 rfl) ?_
  refine lv_iload_n hx hb dX8_refuse_8 rfl (lv_at hl 1 rfl) ?_
  refine x_put (ws' := [(h0, .inr (8, [v0_0, v0_1, v0_2, v0_3, v0_4, v0_5, v0_6, v0_7, v0_8, v0_9, .int 1, v0_11]))]) E iX8 tyX8 tyX8_ok nmX8 hP hD hS 0 rfl rfl 10 (by decide) q0 rfl rfl rfl rfl rfl dX8_refuse_9 (fun H locs hP hD hS => ?_)
  refine lv_aload_n hx hb dX8_refuse_12 rfl (lv_at hl 0 rfl) ?_
  refine lv_iload_n hx hb dX8_refuse_13 rfl (lv_at hl 2 rfl) ?_
  refine x_put (ws' := [(h0, .inr (8, [v0_0, v0_1, v0_2, v0_3, v0_4, v0_5, v0_6, v0_7, v0_8, v0_9, .int 1, .int 0]))]) E iX8 tyX8 tyX8_ok nmX8 hP hD hS 0 rfl rfl 11 (by decide) q1 rfl rfl rfl rfl rfl dX8_refuse_14 (fun H locs hP hD hS => ?_)
  refine lv_aload_n hx hb dX8_refuse_17 rfl (lv_at hl 0 rfl) ?_
  refine lv_iconst (v := 1) hx hb dX8_refuse_18 (by decide) ?_
  refine x_put (ws' := [(h0, .inr (8, [v0_0, v0_1, v0_2, v0_3, v0_4, v0_5, v0_6, .int 1, v0_8, v0_9, .int 1, .int 0]))]) E iX8 tyX8 tyX8_ok nmX8 hP hD hS 0 rfl rfl 7 (by decide) q2 rfl rfl rfl rfl rfl dX8_refuse_19 (fun H locs hP hD hS => ?_)
  refine lv_iconst (v := (-1)) hx hb dX8_refuse_22 (by decide) ?_
  exact x_iret E hr hlk hP hD hS () rfl [0] (by decide) rfl rfl dX8_refuse_23
end
