def RX0 : String := "TenRules$Arena"
def TX0 : u_T := fun k => match k with
  | 0 => ("TenRules$Arena", "kinds", "[I", false)
  | 1 => ("TenRules$Arena", "lefts", "[I", false)
  | 2 => ("TenRules$Arena", "rights", "[I", false)
  | 3 => ("TenRules$Arena", "types", "[I", false)
  | 4 => ("TenRules$Arena", "sizes", "[I", false)
  | 5 => ("TenRules$Arena", "looses", "[I", false)
  | 6 => ("TenRules$Arena", "vars", "[I", false)
  | 7 => ("TenRules$Arena", "consts", "[I", false)
  | 8 => ("TenRules$Arena", "hashes", "[I", false)
  | 9 => ("TenRules$Arena", "nexts", "[I", false)
  | 10 => ("TenRules$Arena", "moves", "[I", false)
  | 11 => ("TenRules$Arena", "heads", "[I", false)
  | 12 => ("TenRules$Arena", "count", "I", false)
  | _ => ("TenRules$Arena", "marked", "I", false)
def tyX0 : Nat → FieldType := fun k => match k with
  | 0 => .array .int
  | 1 => .array .int
  | 2 => .array .int
  | 3 => .array .int
  | 4 => .array .int
  | 5 => .array .int
  | 6 => .array .int
  | 7 => .array .int
  | 8 => .array .int
  | 9 => .array .int
  | 10 => .array .int
  | 11 => .array .int
  | 12 => .int
  | _ => .int
abbrev wsX00 : List Cond := u_ws RX0 TX0 14
theorem nmX0 : ∀ a, a < 14 → ∀ b, b < 14 → a ≠ b → (TX0 a).2.1 ≠ (TX0 b).2.1 := by decide +kernel
theorem tyX0_ok : ∀ k, k < 14 → parseFieldDescriptor (TX0 k).2.2.1 = some (tyX0 k) := by decide +kernel
def RX1 : String := "TenRules$Conv"
def TX1 : u_T := fun k => match k with
  | 0 => ("TenRules$Conv", "tokens", "LTenRules$Tokens;", true)
  | 1 => ("TenRules$Conv", "told", "LTenRules$Told;", true)
  | 2 => ("TenRules$Conv", "ops", "[I", true)
  | 3 => ("TenRules$Conv", "firsts", "[I", true)
  | 4 => ("TenRules$Conv", "seconds", "[I", true)
  | _ => ("TenRules$Conv", "count", "I", false)
def tyX1 : Nat → FieldType := fun k => match k with
  | 0 => .object "TenRules$Tokens"
  | 1 => .object "TenRules$Told"
  | 2 => .array .int
  | 3 => .array .int
  | 4 => .array .int
  | _ => .int
abbrev wsX10 : List Cond := u_ws RX1 TX1 6
theorem nmX1 : ∀ a, a < 6 → ∀ b, b < 6 → a ≠ b → (TX1 a).2.1 ≠ (TX1 b).2.1 := by decide +kernel
theorem tyX1_ok : ∀ k, k < 6 → parseFieldDescriptor (TX1 k).2.2.1 = some (tyX1 k) := by decide +kernel
def RX2 : String := "TenRules$Engine"
def TX2 : u_T := fun k => match k with
  | 0 => ("TenRules$Engine", "arena", "LTenRules$Arena;", true)
  | 1 => ("TenRules$Engine", "terms", "LTenRules$Terms;", true)
  | 2 => ("TenRules$Engine", "told", "LTenRules$Told;", true)
  | 3 => ("TenRules$Engine", "kernel", "LTenRules$Kernel;", true)
  | 4 => ("TenRules$Engine", "conv", "LTenRules$Conv;", true)
  | 5 => ("TenRules$Engine", "nodes", "[I", false)
  | 6 => ("TenRules$Engine", "subjects", "[I", false)
  | 7 => ("TenRules$Engine", "states", "[I", false)
  | 8 => ("TenRules$Engine", "kept", "[I", false)
  | 9 => ("TenRules$Engine", "top", "I", false)
  | 10 => ("TenRules$Engine", "opened", "I", false)
  | _ => ("TenRules$Engine", "found", "[I", true)
def tyX2 : Nat → FieldType := fun k => match k with
  | 0 => .object "TenRules$Arena"
  | 1 => .object "TenRules$Terms"
  | 2 => .object "TenRules$Told"
  | 3 => .object "TenRules$Kernel"
  | 4 => .object "TenRules$Conv"
  | 5 => .array .int
  | 6 => .array .int
  | 7 => .array .int
  | 8 => .array .int
  | 9 => .int
  | 10 => .int
  | _ => .array .int
abbrev wsX20 : List Cond := u_ws RX2 TX2 12
theorem nmX2 : ∀ a, a < 12 → ∀ b, b < 12 → a ≠ b → (TX2 a).2.1 ≠ (TX2 b).2.1 := by decide +kernel
theorem tyX2_ok : ∀ k, k < 12 → parseFieldDescriptor (TX2 k).2.2.1 = some (tyX2 k) := by decide +kernel
def RX3 : String := "TenRules$Kernel"
def TX3 : u_T := fun k => match k with
  | 0 => ("TenRules$Kernel", "arena", "LTenRules$Arena;", true)
  | 1 => ("TenRules$Kernel", "terms", "LTenRules$Terms;", true)
  | 2 => ("TenRules$Kernel", "survey", "LTenRules$Survey;", true)
  | 3 => ("TenRules$Kernel", "counts", "[I", true)
  | 4 => ("TenRules$Kernel", "markedCounts", "[I", true)
  | 5 => ("TenRules$Kernel", "spent", "I", false)
  | 6 => ("TenRules$Kernel", "row", "[I", true)
  | _ => ("TenRules$Kernel", "rowLength", "I", false)
def tyX3 : Nat → FieldType := fun k => match k with
  | 0 => .object "TenRules$Arena"
  | 1 => .object "TenRules$Terms"
  | 2 => .object "TenRules$Survey"
  | 3 => .array .int
  | 4 => .array .int
  | 5 => .int
  | 6 => .array .int
  | _ => .int
abbrev wsX30 : List Cond := u_ws RX3 TX3 8
theorem nmX3 : ∀ a, a < 8 → ∀ b, b < 8 → a ≠ b → (TX3 a).2.1 ≠ (TX3 b).2.1 := by decide +kernel
theorem tyX3_ok : ∀ k, k < 8 → parseFieldDescriptor (TX3 k).2.2.1 = some (tyX3 k) := by decide +kernel
def RX4 : String := "TenRules$LineReader"
def TX4 : u_T := fun k => match k with
  | 0 => ("TenRules$LineReader", "tokens", "LTenRules$Tokens;", true)
  | 1 => ("TenRules$LineReader", "termReader", "LTenRules$TermReader;", true)
  | 2 => ("TenRules$LineReader", "arena", "LTenRules$Arena;", true)
  | 3 => ("TenRules$LineReader", "terms", "LTenRules$Terms;", true)
  | 4 => ("TenRules$LineReader", "told", "LTenRules$Told;", true)
  | _ => ("TenRules$LineReader", "kernel", "LTenRules$Kernel;", true)
def tyX4 : Nat → FieldType := fun k => match k with
  | 0 => .object "TenRules$Tokens"
  | 1 => .object "TenRules$TermReader"
  | 2 => .object "TenRules$Arena"
  | 3 => .object "TenRules$Terms"
  | 4 => .object "TenRules$Told"
  | _ => .object "TenRules$Kernel"
abbrev wsX40 : List Cond := u_ws RX4 TX4 6
theorem nmX4 : ∀ a, a < 6 → ∀ b, b < 6 → a ≠ b → (TX4 a).2.1 ≠ (TX4 b).2.1 := by decide +kernel
theorem tyX4_ok : ∀ k, k < 6 → parseFieldDescriptor (TX4 k).2.2.1 = some (tyX4 k) := by decide +kernel
def RX5 : String := "TenRules$Survey"
def TX5 : u_T := fun k => match k with
  | 0 => ("TenRules$Survey", "arena", "LTenRules$Arena;", true)
  | 1 => ("TenRules$Survey", "terms", "LTenRules$Terms;", true)
  | _ => ("TenRules$Survey", "told", "LTenRules$Told;", true)
def tyX5 : Nat → FieldType := fun k => match k with
  | 0 => .object "TenRules$Arena"
  | 1 => .object "TenRules$Terms"
  | _ => .object "TenRules$Told"
abbrev wsX50 : List Cond := u_ws RX5 TX5 3
theorem nmX5 : ∀ a, a < 3 → ∀ b, b < 3 → a ≠ b → (TX5 a).2.1 ≠ (TX5 b).2.1 := by decide +kernel
theorem tyX5_ok : ∀ k, k < 3 → parseFieldDescriptor (TX5 k).2.2.1 = some (tyX5 k) := by decide +kernel
def RX6 : String := "TenRules$TermReader"
def TX6 : u_T := fun k => match k with
  | 0 => ("TenRules$TermReader", "tokens", "LTenRules$Tokens;", true)
  | 1 => ("TenRules$TermReader", "arena", "LTenRules$Arena;", true)
  | 2 => ("TenRules$TermReader", "terms", "LTenRules$Terms;", true)
  | 3 => ("TenRules$TermReader", "told", "LTenRules$Told;", true)
  | 4 => ("TenRules$TermReader", "boundNames", "[I", true)
  | 5 => ("TenRules$TermReader", "boundTypes", "[I", true)
  | 6 => ("TenRules$TermReader", "boundCount", "I", false)
  | 7 => ("TenRules$TermReader", "atoms", "[I", true)
  | _ => ("TenRules$TermReader", "atomCount", "I", false)
def tyX6 : Nat → FieldType := fun k => match k with
  | 0 => .object "TenRules$Tokens"
  | 1 => .object "TenRules$Arena"
  | 2 => .object "TenRules$Terms"
  | 3 => .object "TenRules$Told"
  | 4 => .array .int
  | 5 => .array .int
  | 6 => .int
  | 7 => .array .int
  | _ => .int
abbrev wsX60 : List Cond := u_ws RX6 TX6 9
theorem nmX6 : ∀ a, a < 9 → ∀ b, b < 9 → a ≠ b → (TX6 a).2.1 ≠ (TX6 b).2.1 := by decide +kernel
theorem tyX6_ok : ∀ k, k < 9 → parseFieldDescriptor (TX6 k).2.2.1 = some (tyX6 k) := by decide +kernel
def RX7 : String := "TenRules$Terms"
def TX7 : u_T := fun k => match k with
  | _ => ("TenRules$Terms", "arena", "LTenRules$Arena;", true)
def tyX7 : Nat → FieldType := fun k => match k with
  | _ => .object "TenRules$Arena"
abbrev wsX70 : List Cond := u_ws RX7 TX7 1
theorem nmX7 : ∀ a, a < 1 → ∀ b, b < 1 → a ≠ b → (TX7 a).2.1 ≠ (TX7 b).2.1 := by decide +kernel
theorem tyX7_ok : ∀ k, k < 1 → parseFieldDescriptor (TX7 k).2.2.1 = some (tyX7 k) := by decide +kernel
def RX8 : String := "TenRules$Tokens"
def TX8 : u_T := fun k => match k with
  | 0 => ("TenRules$Tokens", "tape", "[I", true)
  | 1 => ("TenRules$Tokens", "words", "[I", true)
  | 2 => ("TenRules$Tokens", "kinds", "[I", true)
  | 3 => ("TenRules$Tokens", "places", "[I", true)
  | 4 => ("TenRules$Tokens", "values", "[I", true)
  | 5 => ("TenRules$Tokens", "count", "I", false)
  | 6 => ("TenRules$Tokens", "at", "I", false)
  | 7 => ("TenRules$Tokens", "kind", "I", false)
  | 8 => ("TenRules$Tokens", "place", "I", false)
  | 9 => ("TenRules$Tokens", "value", "I", false)
  | 10 => ("TenRules$Tokens", "fault", "I", false)
  | _ => ("TenRules$Tokens", "faultPlace", "I", false)
def tyX8 : Nat → FieldType := fun k => match k with
  | 0 => .array .int
  | 1 => .array .int
  | 2 => .array .int
  | 3 => .array .int
  | 4 => .array .int
  | 5 => .int
  | 6 => .int
  | 7 => .int
  | 8 => .int
  | 9 => .int
  | 10 => .int
  | _ => .int
abbrev wsX80 : List Cond := u_ws RX8 TX8 12
theorem nmX8 : ∀ a, a < 12 → ∀ b, b < 12 → a ≠ b → (TX8 a).2.1 ≠ (TX8 b).2.1 := by decide +kernel
theorem tyX8_ok : ∀ k, k < 12 → parseFieldDescriptor (TX8 k).2.2.1 = some (tyX8 k) := by decide +kernel
def RX9 : String := "TenRules$Told"
def TX9 : u_T := fun k => match k with
  | 0 => ("TenRules$Told", "arena", "LTenRules$Arena;", true)
  | 1 => ("TenRules$Told", "varNames", "[I", true)
  | 2 => ("TenRules$Told", "varTypes", "[I", true)
  | 3 => ("TenRules$Told", "constNames", "[I", true)
  | 4 => ("TenRules$Told", "constTypes", "[I", true)
  | 5 => ("TenRules$Told", "constTheorems", "[I", true)
  | 6 => ("TenRules$Told", "theoremNodes", "[I", true)
  | 7 => ("TenRules$Told", "theoremNames", "[I", true)
  | 8 => ("TenRules$Told", "theoremMakers", "[I", true)
  | 9 => ("TenRules$Told", "varCount", "I", false)
  | 10 => ("TenRules$Told", "constCount", "I", false)
  | 11 => ("TenRules$Told", "theoremCount", "I", false)
  | 12 => ("TenRules$Told", "markedVars", "I", false)
  | 13 => ("TenRules$Told", "markedConsts", "I", false)
  | _ => ("TenRules$Told", "markedTheorems", "I", false)
def tyX9 : Nat → FieldType := fun k => match k with
  | 0 => .object "TenRules$Arena"
  | 1 => .array .int
  | 2 => .array .int
  | 3 => .array .int
  | 4 => .array .int
  | 5 => .array .int
  | 6 => .array .int
  | 7 => .array .int
  | 8 => .array .int
  | 9 => .int
  | 10 => .int
  | 11 => .int
  | 12 => .int
  | 13 => .int
  | _ => .int
abbrev wsX90 : List Cond := u_ws RX9 TX9 15
theorem nmX9 : ∀ a, a < 15 → ∀ b, b < 15 → a ≠ b → (TX9 a).2.1 ≠ (TX9 b).2.1 := by decide +kernel
theorem tyX9_ok : ∀ k, k < 15 → parseFieldDescriptor (TX9 k).2.2.1 = some (tyX9 k) := by decide +kernel
def RX10 : String := "TenRules$Writer"
def TX10 : u_T := fun k => match k with
  | 0 => ("TenRules$Writer", "arena", "LTenRules$Arena;", true)
  | 1 => ("TenRules$Writer", "told", "LTenRules$Told;", true)
  | 2 => ("TenRules$Writer", "row", "[I", true)
  | _ => ("TenRules$Writer", "length", "I", false)
def tyX10 : Nat → FieldType := fun k => match k with
  | 0 => .object "TenRules$Arena"
  | 1 => .object "TenRules$Told"
  | 2 => .array .int
  | _ => .int
abbrev wsX100 : List Cond := u_ws RX10 TX10 4
theorem nmX10 : ∀ a, a < 4 → ∀ b, b < 4 → a ≠ b → (TX10 a).2.1 ≠ (TX10 b).2.1 := by decide +kernel
theorem tyX10_ok : ∀ k, k < 4 → parseFieldDescriptor (TX10 k).2.2.1 = some (tyX10 k) := by decide +kernel
def RX11 : String := "TenRules"
def TX11 : u_T := fun k => match k with
  | 0 => ("TenRules", "tape", "[I", true)
  | 1 => ("TenRules", "tapeLength", "I", false)
  | 2 => ("TenRules", "faultNumber", "I", false)
  | 3 => ("TenRules", "faultPlace", "I", false)
  | 4 => ("TenRules", "troubleNumber", "I", false)
  | 5 => ("TenRules", "arena", "LTenRules$Arena;", true)
  | 6 => ("TenRules", "terms", "LTenRules$Terms;", true)
  | 7 => ("TenRules", "told", "LTenRules$Told;", true)
  | 8 => ("TenRules", "survey", "LTenRules$Survey;", true)
  | 9 => ("TenRules", "kernel", "LTenRules$Kernel;", true)
  | 10 => ("TenRules", "tokens", "LTenRules$Tokens;", true)
  | 11 => ("TenRules", "termReader", "LTenRules$TermReader;", true)
  | 12 => ("TenRules", "lineReader", "LTenRules$LineReader;", true)
  | 13 => ("TenRules", "conv", "LTenRules$Conv;", true)
  | 14 => ("TenRules", "engine", "LTenRules$Engine;", true)
  | _ => ("TenRules", "writer", "LTenRules$Writer;", true)
def tyX11 : Nat → FieldType := fun k => match k with
  | 0 => .array .int
  | 1 => .int
  | 2 => .int
  | 3 => .int
  | 4 => .int
  | 5 => .object "TenRules$Arena"
  | 6 => .object "TenRules$Terms"
  | 7 => .object "TenRules$Told"
  | 8 => .object "TenRules$Survey"
  | 9 => .object "TenRules$Kernel"
  | 10 => .object "TenRules$Tokens"
  | 11 => .object "TenRules$TermReader"
  | 12 => .object "TenRules$LineReader"
  | 13 => .object "TenRules$Conv"
  | 14 => .object "TenRules$Engine"
  | _ => .object "TenRules$Writer"
abbrev wsX110 : List Cond := u_ws RX11 TX11 16
theorem nmX11 : ∀ a, a < 16 → ∀ b, b < 16 → a ≠ b → (TX11 a).2.1 ≠ (TX11 b).2.1 := by decide +kernel
theorem tyX11_ok : ∀ k, k < 16 → parseFieldDescriptor (TX11 k).2.2.1 = some (tyX11 k) := by decide +kernel
def RX12 : String := "TenRulesModel"
def TX12 : u_T := fun k => match k with
  | 0 => ("TenRulesModel", "thrown", "I", false)
  | 1 => ("TenRulesModel", "trouble", "I", false)
  | 2 => ("TenRulesModel", "wrongAt", "I", false)
  | 3 => ("TenRulesModel", "tape", "[I", true)
  | 4 => ("TenRulesModel", "taped", "I", false)
  | 5 => ("TenRulesModel", "size", "I", false)
  | 6 => ("TenRulesModel", "spot", "I", false)
  | 7 => ("TenRulesModel", "fault", "I", false)
  | 8 => ("TenRulesModel", "faultAt", "I", false)
  | 9 => ("TenRulesModel", "token", "I", false)
  | 10 => ("TenRulesModel", "at", "I", false)
  | 11 => ("TenRulesModel", "sign", "I", false)
  | 12 => ("TenRulesModel", "word", "J", false)
  | 13 => ("TenRulesModel", "nested", "I", false)
  | 14 => ("TenRulesModel", "takes", "[I", true)
  | 15 => ("TenRulesModel", "gives", "[I", true)
  | 16 => ("TenRulesModel", "nextType", "[I", true)
  | 17 => ("TenRulesModel", "heads", "[I", true)
  | 18 => ("TenRulesModel", "types", "I", false)
  | 19 => ("TenRulesModel", "letters", "I", false)
  | 20 => ("TenRulesModel", "varName", "[J", true)
  | 21 => ("TenRulesModel", "constName", "[J", true)
  | 22 => ("TenRulesModel", "thmName", "[J", true)
  | 23 => ("TenRulesModel", "varType", "[I", true)
  | 24 => ("TenRulesModel", "constType", "[I", true)
  | 25 => ("TenRulesModel", "constThm", "[I", true)
  | 26 => ("TenRulesModel", "vars", "I", false)
  | 27 => ("TenRulesModel", "consts", "I", false)
  | 28 => ("TenRulesModel", "thms", "I", false)
  | 29 => ("TenRulesModel", "freshVars", "I", false)
  | 30 => ("TenRulesModel", "read", "[I", true)
  | 31 => ("TenRulesModel", "boundType", "[I", true)
  | 32 => ("TenRulesModel", "boundName", "[J", true)
  | 33 => ("TenRulesModel", "signs", "I", false)
  | 34 => ("TenRulesModel", "depth", "I", false)
  | 35 => ("TenRulesModel", "termAt", "I", false)
  | 36 => ("TenRulesModel", "m", "[I", true)
  | 37 => ("TenRulesModel", "len", "[I", true)
  | 38 => ("TenRulesModel", "regLen", "[I", true)
  | 39 => ("TenRulesModel", "hyps", "[I", true)
  | 40 => ("TenRulesModel", "madeBy", "[I", true)
  | 41 => ("TenRulesModel", "top", "I", false)
  | 42 => ("TenRulesModel", "regTop", "I", false)
  | 43 => ("TenRulesModel", "roundType", "[I", true)
  | 44 => ("TenRulesModel", "round", "I", false)
  | 45 => ("TenRulesModel", "typed", "I", false)
  | 46 => ("TenRulesModel", "ink", "[I", true)
  | 47 => ("TenRulesModel", "inked", "[I", true)
  | 48 => ("TenRulesModel", "inkRow", "I", false)
  | 49 => ("TenRulesModel", "calls", "[I", true)
  | 50 => ("TenRulesModel", "used", "[I", true)
  | 51 => ("TenRulesModel", "usedNow", "I", false)
  | 52 => ("TenRulesModel", "isFull", "Z", false)
  | 53 => ("TenRulesModel", "outAt", "I", false)
  | 54 => ("TenRulesModel", "outMany", "I", false)
  | 55 => ("TenRulesModel", "conv", "[I", true)
  | 56 => ("TenRulesModel", "first", "[I", true)
  | 57 => ("TenRulesModel", "second", "[I", true)
  | 58 => ("TenRulesModel", "convs", "I", false)
  | 59 => ("TenRulesModel", "found", "[I", true)
  | 60 => ("TenRulesModel", "free", "I", false)
  | 61 => ("TenRulesModel", "betas", "I", false)
  | 62 => ("TenRulesModel", "defs", "I", false)
  | 63 => ("TenRulesModel", "etas", "I", false)
  | _ => ("TenRulesModel", "deepest", "I", false)
def tyX12 : Nat → FieldType := fun k => match k with
  | 0 => .int
  | 1 => .int
  | 2 => .int
  | 3 => .array .int
  | 4 => .int
  | 5 => .int
  | 6 => .int
  | 7 => .int
  | 8 => .int
  | 9 => .int
  | 10 => .int
  | 11 => .int
  | 12 => .long
  | 13 => .int
  | 14 => .array .int
  | 15 => .array .int
  | 16 => .array .int
  | 17 => .array .int
  | 18 => .int
  | 19 => .int
  | 20 => .array .long
  | 21 => .array .long
  | 22 => .array .long
  | 23 => .array .int
  | 24 => .array .int
  | 25 => .array .int
  | 26 => .int
  | 27 => .int
  | 28 => .int
  | 29 => .int
  | 30 => .array .int
  | 31 => .array .int
  | 32 => .array .long
  | 33 => .int
  | 34 => .int
  | 35 => .int
  | 36 => .array .int
  | 37 => .array .int
  | 38 => .array .int
  | 39 => .array .int
  | 40 => .array .int
  | 41 => .int
  | 42 => .int
  | 43 => .array .int
  | 44 => .int
  | 45 => .int
  | 46 => .array .int
  | 47 => .array .int
  | 48 => .int
  | 49 => .array .int
  | 50 => .array .int
  | 51 => .int
  | 52 => .boolean
  | 53 => .int
  | 54 => .int
  | 55 => .array .int
  | 56 => .array .int
  | 57 => .array .int
  | 58 => .int
  | 59 => .array .int
  | 60 => .int
  | 61 => .int
  | 62 => .int
  | 63 => .int
  | _ => .int
abbrev wsX120 : List Cond := u_ws RX12 TX12 65
theorem nmX12 : ∀ a, a < 65 → ∀ b, b < 65 → a ≠ b → (TX12 a).2.1 ≠ (TX12 b).2.1 := by decide +kernel
theorem tyX12_ok : ∀ k, k < 65 → parseFieldDescriptor (TX12 k).2.2.1 = some (tyX12 k) := by decide +kernel
def RL : String := "TenRulesLaw"
def RJ7 : String := "java/util/Arrays"
abbrev cJ7_fill_53178 : ByteArray := prog_31_method_103_code
def yJ7_fill_53178 : MethodName := ⟨RJ7, "fill", "([II)V"⟩
abbrev cX8_init : ByteArray := prog_10_method_1_code
def yX8_init : MethodName := ⟨RX8, "<init>", "([I)V"⟩
abbrev cX8_isLetter : ByteArray := prog_10_method_13_code
def yX8_isLetter : MethodName := ⟨RX8, "isLetter", "(I)Z"⟩
abbrev cX8_padded : ByteArray := prog_10_method_14_code
def yX8_padded : MethodName := ⟨RX8, "padded", "(II)I"⟩
def RJ0 : String := "java/lang/String"
abbrev cJ0_length_8abf5 : ByteArray := prog_24_method_54_code
def yJ0_length_8abf5 : MethodName := ⟨RJ0, "length", "()I"⟩
abbrev cJ0_charAt_5068e : ByteArray := prog_24_method_56_code
def yJ0_charAt_5068e : MethodName := ⟨RJ0, "charAt", "(I)C"⟩
abbrev cJ0_coder_7d493 : ByteArray := prog_24_method_152_code
def yJ0_coder_7d493 : MethodName := ⟨RJ0, "coder", "()B"⟩
abbrev cJ0_isLatin1_aae02 : ByteArray := prog_24_method_154_code
def yJ0_isLatin1_aae02 : MethodName := ⟨RJ0, "isLatin1", "()Z"⟩
def RJ1 : String := "java/lang/StringLatin1"
abbrev cJ1_charAt_3b067 : ByteArray := prog_25_method_2_code
def yJ1_charAt_3b067 : MethodName := ⟨RJ1, "charAt", "([BI)C"⟩
abbrev cJ0_checkIndex_df160 : ByteArray := prog_24_method_155_code
def yJ0_checkIndex_df160 : MethodName := ⟨RJ0, "checkIndex", "(II)V"⟩
def RJ3 : String := "jdk/internal/util/Preconditions"
abbrev cJ3_checkIndex_8e157 : ByteArray := prog_33_method_11_code
def yJ3_checkIndex_8e157 : MethodName := ⟨RJ3, "checkIndex", "(IILjava/util/function/BiFunction;)I"⟩
abbrev cX0_init : ByteArray := prog_2_method_1_code
def yX0_init : MethodName := ⟨RX0, "<init>", "()V"⟩
abbrev cX0_node : ByteArray := prog_2_method_10_code
def yX0_node : MethodName := ⟨RX0, "node", "(IIII)I"⟩
abbrev cX0_link : ByteArray := prog_2_method_11_code
def yX0_link : MethodName := ⟨RX0, "link", "(I)V"⟩
abbrev cX0_measure : ByteArray := prog_2_method_13_code
def yX0_measure : MethodName := ⟨RX0, "measure", "(I)V"⟩
abbrev cX7_init : ByteArray := prog_9_method_1_code
def yX7_init : MethodName := ⟨RX7, "<init>", "(LTenRules$Arena;)V"⟩
abbrev cX9_init : ByteArray := prog_11_method_1_code
def yX9_init : MethodName := ⟨RX9, "<init>", "(LTenRules$Arena;)V"⟩
abbrev cX5_init : ByteArray := prog_7_method_1_code
def yX5_init : MethodName := ⟨RX5, "<init>", "(LTenRules$Arena;LTenRules$Terms;LTenRules$Told;)V"⟩
abbrev cX3_init : ByteArray := prog_5_method_1_code
def yX3_init : MethodName := ⟨RX3, "<init>", "(LTenRules$Arena;LTenRules$Terms;LTenRules$Survey;)V"⟩
abbrev cX6_init : ByteArray := prog_8_method_1_code
def yX6_init : MethodName := ⟨RX6, "<init>", "(LTenRules$Tokens;LTenRules$Arena;LTenRules$Terms;LTenRules$Told;)V"⟩
abbrev cX4_init : ByteArray := prog_6_method_1_code
def yX4_init : MethodName := ⟨RX4, "<init>", "(LTenRules$Tokens;LTenRules$TermReader;LTenRules$Arena;LTenRules$Terms;LTenRules$Told;LTenRules$Kernel;)V"⟩
abbrev cX1_init : ByteArray := prog_3_method_1_code
def yX1_init : MethodName := ⟨RX1, "<init>", "(LTenRules$Tokens;LTenRules$Told;)V"⟩
abbrev cX2_init : ByteArray := prog_4_method_1_code
def yX2_init : MethodName := ⟨RX2, "<init>", "(LTenRules$Arena;LTenRules$Terms;LTenRules$Told;LTenRules$Kernel;LTenRules$Conv;)V"⟩
abbrev cX10_init : ByteArray := prog_12_method_1_code
def yX10_init : MethodName := ⟨RX10, "<init>", "(LTenRules$Arena;LTenRules$Told;)V"⟩
abbrev cX11_init : ByteArray := prog_1_method_1_code
def yX11_init : MethodName := ⟨RX11, "<init>", "()V"⟩
abbrev cX12_init : ByteArray := prog_14_method_1_code
def yX12_init : MethodName := ⟨RX12, "<init>", "()V"⟩
abbrev cX11_lay : ByteArray := prog_1_method_37_code
def yX11_lay : MethodName := ⟨RX11, "lay", "(I)V"⟩
abbrev cX11_feed : ByteArray := prog_1_method_2_code
def yX11_feed : MethodName := ⟨RX11, "feed", "(IIIII)I"⟩
abbrev cX12_feed : ByteArray := prog_14_method_6_code
def yX12_feed : MethodName := ⟨RX12, "feed", "(IIIII)I"⟩
abbrev cX11_opens : ByteArray := prog_1_method_42_code
def yX11_opens : MethodName := ⟨RX11, "opens", "(I)Z"⟩
abbrev cX11_begin : ByteArray := prog_1_method_40_code
def yX11_begin : MethodName := ⟨RX11, "begin", "()V"⟩
abbrev cX0_mark : ByteArray := prog_2_method_15_code
def yX0_mark : MethodName := ⟨RX0, "mark", "()V"⟩
abbrev cX9_mark : ByteArray := prog_11_method_3_code
def yX9_mark : MethodName := ⟨RX9, "mark", "()V"⟩
abbrev cX3_mark : ByteArray := prog_5_method_3_code
def yX3_mark : MethodName := ⟨RX3, "mark", "()V"⟩
abbrev cX8_start : ByteArray := prog_10_method_2_code
def yX8_start : MethodName := ⟨RX8, "start", "(I)V"⟩
abbrev cX8_add : ByteArray := prog_10_method_5_code
def yX8_add : MethodName := ⟨RX8, "add", "(III)V"⟩
abbrev cX8_advance : ByteArray := prog_10_method_6_code
def yX8_advance : MethodName := ⟨RX8, "advance", "()V"⟩
abbrev cX4_readLines : ByteArray := prog_6_method_2_code
def yX4_readLines : MethodName := ⟨RX4, "readLines", "()V"⟩
abbrev cX8_wordHere : ByteArray := prog_10_method_8_code
def yX8_wordHere : MethodName := ⟨RX8, "wordHere", "()I"⟩
abbrev cX8_refuse : ByteArray := prog_10_method_7_code
def yX8_refuse : MethodName := ⟨RX8, "refuse", "(II)I"⟩
abbrev cX11_wasReadWell : ByteArray := prog_1_method_44_code
def yX11_wasReadWell : MethodName := ⟨RX11, "wasReadWell", "()Z"⟩
abbrev cX11_takeBack : ByteArray := prog_1_method_41_code
def yX11_takeBack : MethodName := ⟨RX11, "takeBack", "()V"⟩
abbrev cX9_goBack : ByteArray := prog_11_method_4_code
def yX9_goBack : MethodName := ⟨RX9, "goBack", "()V"⟩
abbrev cX3_goBack : ByteArray := prog_5_method_4_code
def yX3_goBack : MethodName := ⟨RX3, "goBack", "()V"⟩
abbrev cX0_cut : ByteArray := prog_2_method_16_code
def yX0_cut : MethodName := ⟨RX0, "cut", "()V"⟩
abbrev cX0_unlink : ByteArray := prog_2_method_18_code
def yX0_unlink : MethodName := ⟨RX0, "unlink", "()V"⟩
abbrev cX11_refused : ByteArray := prog_1_method_39_code
def yX11_refused : MethodName := ⟨RX11, "refused", "(I)I"⟩
abbrev cX11_theory : ByteArray := prog_1_method_3_code
def yX11_theory : MethodName := ⟨RX11, "theory", "(I)I"⟩
abbrev cX12_isLong : ByteArray := prog_14_method_20_code
def yX12_isLong : MethodName := ⟨RX12, "isLong", "(I)Z"⟩
abbrev cX12_in : ByteArray := prog_14_method_5_code
def yX12_in : MethodName := ⟨RX12, "in", "(III)Z"⟩
abbrev cX12_beginsRules : ByteArray := prog_14_method_68_code
def yX12_beginsRules : MethodName := ⟨RX12, "beginsRules", "()V"⟩
abbrev cX12_begins : ByteArray := prog_14_method_19_code
def yX12_begins : MethodName := ⟨RX12, "begins", "(I)V"⟩
abbrev cX12_goOn : ByteArray := prog_14_method_10_code
def yX12_goOn : MethodName := ⟨RX12, "goOn", "()V"⟩
abbrev cX12_readLine : ByteArray := prog_14_method_137_code
def yX12_readLine : MethodName := ⟨RX12, "readLine", "()V"⟩
abbrev cX12_isWord : ByteArray := prog_14_method_12_code
def yX12_isWord : MethodName := ⟨RX12, "isWord", "(Ljava/lang/String;)Z"⟩
abbrev cX12_flaw : ByteArray := prog_14_method_8_code
def yX12_flaw : MethodName := ⟨RX12, "flaw", "(I)V"⟩
abbrev cX12_flawAt : ByteArray := prog_14_method_7_code
def yX12_flawAt : MethodName := ⟨RX12, "flawAt", "(II)V"⟩
abbrev cX12_isSign : ByteArray := prog_14_method_13_code
def yX12_isSign : MethodName := ⟨RX12, "isSign", "(I)Z"⟩
abbrev cX12_needsEnd : ByteArray := prog_14_method_45_code
def yX12_needsEnd : MethodName := ⟨RX12, "needsEnd", "()V"⟩
abbrev cX12_faulty : ByteArray := prog_14_method_21_code
def yX12_faulty : MethodName := ⟨RX12, "faulty", "()I"⟩
abbrev cX12_theory : ByteArray := prog_14_method_138_code
def yX12_theory : MethodName := ⟨RX12, "theory", "(I)I"⟩
abbrev cX12_refused : ByteArray := prog_14_method_3_code
def yX12_refused : MethodName := ⟨RX12, "refused", "(I)I"⟩
abbrev cX11_readTerm : ByteArray := prog_1_method_45_code
def yX11_readTerm : MethodName := ⟨RX11, "readTerm", "(I)I"⟩
abbrev cX6_readWhole : ByteArray := prog_8_method_2_code
def yX6_readWhole : MethodName := ⟨RX6, "readWhole", "(I)I"⟩
abbrev cX6_readTermAt : ByteArray := prog_8_method_3_code
def yX6_readTermAt : MethodName := ⟨RX6, "readTermAt", "(I)I"⟩
abbrev cX6_readSide : ByteArray := prog_8_method_4_code
def yX6_readSide : MethodName := ⟨RX6, "readSide", "(I)I"⟩
abbrev cX6_readPiece : ByteArray := prog_8_method_6_code
def yX6_readPiece : MethodName := ⟨RX6, "readPiece", "(I)I"⟩
abbrev cX6_beginsPiece : ByteArray := prog_8_method_5_code
def yX6_beginsPiece : MethodName := ⟨RX6, "beginsPiece", "()Z"⟩
abbrev cX8_takeEnd : ByteArray := prog_10_method_11_code
def yX8_takeEnd : MethodName := ⟨RX8, "takeEnd", "()V"⟩
abbrev cX11_write : ByteArray := prog_1_method_13_code
def yX11_write : MethodName := ⟨RX11, "write", "(I)I"⟩
abbrev cX12_readsTerm : ByteArray := prog_14_method_149_code
def yX12_readsTerm : MethodName := ⟨RX12, "readsTerm", "(I)I"⟩
abbrev cX12_newReg : ByteArray := prog_14_method_49_code
def yX12_newReg : MethodName := ⟨RX12, "newReg", "()I"⟩
abbrev cX12_readTerm : ByteArray := prog_14_method_44_code
def yX12_readTerm : MethodName := ⟨RX12, "readTerm", "(II)I"⟩
abbrev cX12_readPieces : ByteArray := prog_14_method_42_code
def yX12_readPieces : MethodName := ⟨RX12, "readPieces", "()I"⟩
abbrev cX12_readSide : ByteArray := prog_14_method_41_code
def yX12_readSide : MethodName := ⟨RX12, "readSide", "()I"⟩
abbrev cX12_readPiece : ByteArray := prog_14_method_40_code
def yX12_readPiece : MethodName := ⟨RX12, "readPiece", "()I"⟩
abbrev cX12_isName : ByteArray := prog_14_method_17_code
def yX12_isName : MethodName := ⟨RX12, "isName", "()Z"⟩
abbrev cX12_beginsPiece : ByteArray := prog_14_method_37_code
def yX12_beginsPiece : MethodName := ⟨RX12, "beginsPiece", "()Z"⟩
abbrev cX12_write : ByteArray := prog_14_method_152_code
def yX12_write : MethodName := ⟨RX12, "write", "(I)I"⟩
abbrev cX11_writeType : ByteArray := prog_1_method_14_code
def yX11_writeType : MethodName := ⟨RX11, "writeType", "(I)I"⟩
abbrev cX12_writeType : ByteArray := prog_14_method_153_code
def yX12_writeType : MethodName := ⟨RX12, "writeType", "(I)I"⟩
abbrev cX11_refl : ByteArray := prog_1_method_18_code
def yX11_refl : MethodName := ⟨RX11, "refl", "(I)I"⟩
abbrev cX12_callsOnTape : ByteArray := prog_14_method_159_code
def yX12_callsOnTape : MethodName := ⟨RX12, "callsOnTape", "(IIII)I"⟩
abbrev cX12_refl_ : ByteArray := prog_14_method_161_code
def yX12_refl_ : MethodName := ⟨RX12, "refl", "(I)I"⟩
abbrev cX11_beta : ByteArray := prog_1_method_22_code
def yX11_beta : MethodName := ⟨RX11, "beta", "(I)I"⟩
abbrev cX12_beta_ : ByteArray := prog_14_method_165_code
def yX12_beta_ : MethodName := ⟨RX12, "beta", "(I)I"⟩
abbrev cX11_assume : ByteArray := prog_1_method_23_code
def yX11_assume : MethodName := ⟨RX11, "assume", "(I)I"⟩
abbrev cX12_assume_ : ByteArray := prog_14_method_166_code
def yX12_assume_ : MethodName := ⟨RX12, "assume", "(I)I"⟩
abbrev cX11_eta : ByteArray := prog_1_method_27_code
def yX11_eta : MethodName := ⟨RX11, "eta", "(I)I"⟩
abbrev cX12_eta_ : ByteArray := prog_14_method_170_code
def yX12_eta_ : MethodName := ⟨RX12, "eta", "(I)I"⟩
abbrev cX11_normal : ByteArray := prog_1_method_31_code
def yX11_normal : MethodName := ⟨RX11, "normal", "(I)I"⟩
abbrev cX12_normal_ : ByteArray := prog_14_method_178_code
def yX12_normal_ : MethodName := ⟨RX12, "normal", "(I)I"⟩
abbrev cX11_decide : ByteArray := prog_1_method_32_code
def yX11_decide : MethodName := ⟨RX11, "decide", "(I)I"⟩
abbrev cX12_decide : ByteArray := prog_14_method_179_code
def yX12_decide : MethodName := ⟨RX12, "decide", "(I)I"⟩
abbrev cX1_read : ByteArray := prog_3_method_8_code
def yX1_read : MethodName := ⟨RX1, "read", "()I"⟩
abbrev cX1_readConv : ByteArray := prog_3_method_9_code
def yX1_readConv : MethodName := ⟨RX1, "readConv", "(I)I"⟩
abbrev cX1_readStep : ByteArray := prog_3_method_10_code
def yX1_readStep : MethodName := ⟨RX1, "readStep", "(I)I"⟩
abbrev cX1_readFirst : ByteArray := prog_3_method_11_code
def yX1_readFirst : MethodName := ⟨RX1, "readFirst", "(I)I"⟩
abbrev cX1_opOfWord : ByteArray := prog_3_method_13_code
def yX1_opOfWord : MethodName := ⟨RX1, "opOfWord", "(I)I"⟩
abbrev cX11_convert : ByteArray := prog_1_method_29_code
def yX11_convert : MethodName := ⟨RX11, "convert", "(I)I"⟩
abbrev cX12_readConv : ByteArray := prog_14_method_111_code
def yX12_readConv : MethodName := ⟨RX12, "readConv", "()I"⟩
abbrev cX12_readStep : ByteArray := prog_14_method_110_code
def yX12_readStep : MethodName := ⟨RX12, "readStep", "()I"⟩
abbrev cX12_readFirst : ByteArray := prog_14_method_109_code
def yX12_readFirst : MethodName := ⟨RX12, "readFirst", "()I"⟩
abbrev cX12_passes : ByteArray := prog_14_method_15_code
def yX12_passes : MethodName := ⟨RX12, "passes", "(Ljava/lang/String;)Z"⟩
abbrev cX12_needs : ByteArray := prog_14_method_14_code
def yX12_needs : MethodName := ⟨RX12, "needs", "(I)V"⟩
abbrev cX12_convert : ByteArray := prog_14_method_174_code
def yX12_convert : MethodName := ⟨RX12, "convert", "(I)I"⟩
abbrev cX9_clear : ByteArray := prog_11_method_2_code
def yX9_clear : MethodName := ⟨RX9, "clear", "()V"⟩
abbrev cX3_clear : ByteArray := prog_5_method_2_code
def yX3_clear : MethodName := ⟨RX3, "clear", "()V"⟩
abbrev cX0_clear : ByteArray := prog_2_method_17_code
def yX0_clear : MethodName := ⟨RX0, "clear", "()V"⟩
abbrev cX11_fresh : ByteArray := prog_1_method_4_code
def yX11_fresh : MethodName := ⟨RX11, "fresh", "()I"⟩
abbrev cX12_fresh : ByteArray := prog_14_method_139_code
def yX12_fresh : MethodName := ⟨RX12, "fresh", "()I"⟩
abbrev cX11_fault : ByteArray := prog_1_method_5_code
def yX11_fault : MethodName := ⟨RX11, "fault", "()I"⟩
abbrev cX12_fault : ByteArray := prog_14_method_22_code
def yX12_fault : MethodName := ⟨RX12, "fault", "()I"⟩
abbrev cX11_where : ByteArray := prog_1_method_6_code
def yX11_where : MethodName := ⟨RX11, "where", "()I"⟩
abbrev cX12_where : ByteArray := prog_14_method_23_code
def yX12_where : MethodName := ⟨RX12, "where", "()I"⟩
abbrev cX11_size : ByteArray := prog_1_method_35_code
def yX11_size : MethodName := ⟨RX11, "size", "()I"⟩
abbrev cX12_size : ByteArray := prog_14_method_182_code
def yX12_size : MethodName := ⟨RX12, "size", "()I"⟩
abbrev cX11_trouble : ByteArray := prog_1_method_36_code
def yX11_trouble : MethodName := ⟨RX11, "trouble", "()I"⟩
abbrev cX12_trouble : ByteArray := prog_14_method_183_code
def yX12_trouble : MethodName := ⟨RX12, "trouble", "()I"⟩
abbrev cX11_answered : ByteArray := prog_1_method_38_code
def yX11_answered : MethodName := ⟨RX11, "answered", "(I)I"⟩
abbrev cX11_about : ByteArray := prog_1_method_7_code
def yX11_about : MethodName := ⟨RX11, "about", "(I)I"⟩
abbrev cX12_good : ByteArray := prog_14_method_4_code
def yX12_good : MethodName := ⟨RX12, "good", "(I)I"⟩
abbrev cX12_about : ByteArray := prog_14_method_141_code
def yX12_about : MethodName := ⟨RX12, "about", "(I)I"⟩
abbrev cX9_definedCount : ByteArray := prog_11_method_17_code
def yX9_definedCount : MethodName := ⟨RX9, "definedCount", "()I"⟩
abbrev cX3_countOfAll : ByteArray := prog_5_method_6_code
def yX3_countOfAll : MethodName := ⟨RX3, "countOfAll", "()I"⟩
abbrev cX3_countOf : ByteArray := prog_5_method_5_code
def yX3_countOf : MethodName := ⟨RX3, "countOf", "(I)I"⟩
abbrev cX11_used : ByteArray := prog_1_method_8_code
def yX11_used : MethodName := ⟨RX11, "used", "(I)I"⟩
abbrev cX12_used : ByteArray := prog_14_method_142_code
def yX12_used : MethodName := ⟨RX12, "used", "(I)I"⟩
abbrev cX9_hasTheorem : ByteArray := prog_11_method_7_code
def yX9_hasTheorem : MethodName := ⟨RX9, "hasTheorem", "(I)Z"⟩
abbrev cX11_theorem : ByteArray := prog_1_method_9_code
def yX11_theorem : MethodName := ⟨RX11, "theorem", "(II)I"⟩
abbrev cX12_isThm : ByteArray := prog_14_method_140_code
def yX12_isThm : MethodName := ⟨RX12, "isThm", "(I)Z"⟩
abbrev cX12_theorem : ByteArray := prog_14_method_145_code
def yX12_theorem : MethodName := ⟨RX12, "theorem", "(II)I"⟩
abbrev cX11_same : ByteArray := prog_1_method_10_code
def yX11_same : MethodName := ⟨RX11, "same", "(II)I"⟩
abbrev cX12_same : ByteArray := prog_14_method_147_code
def yX12_same : MethodName := ⟨RX12, "same", "(II)I"⟩
abbrev cX11_writeOf : ByteArray := prog_1_method_15_code
def yX11_writeOf : MethodName := ⟨RX11, "writeOf", "(II)I"⟩
abbrev cX12_writeOf : ByteArray := prog_14_method_154_code
def yX12_writeOf : MethodName := ⟨RX12, "writeOf", "(II)I"⟩
abbrev cX11_writeSide : ByteArray := prog_1_method_16_code
def yX11_writeSide : MethodName := ⟨RX11, "writeSide", "(II)I"⟩
abbrev cX12_writeSide : ByteArray := prog_14_method_155_code
def yX12_writeSide : MethodName := ⟨RX12, "writeSide", "(II)I"⟩
abbrev cX11_opensTheorems : ByteArray := prog_1_method_43_code
def yX11_opensTheorems : MethodName := ⟨RX11, "opensTheorems", "(II)Z"⟩
abbrev cX11_trans : ByteArray := prog_1_method_19_code
def yX11_trans : MethodName := ⟨RX11, "trans", "(II)I"⟩
abbrev cX12_callsOnTwo : ByteArray := prog_14_method_160_code
def yX12_callsOnTwo : MethodName := ⟨RX12, "callsOnTwo", "(III)I"⟩
abbrev cX12_trans_ : ByteArray := prog_14_method_162_code
def yX12_trans_ : MethodName := ⟨RX12, "trans", "(II)I"⟩
abbrev cX11_comb : ByteArray := prog_1_method_20_code
def yX11_comb : MethodName := ⟨RX11, "comb", "(II)I"⟩
abbrev cX12_comb_ : ByteArray := prog_14_method_163_code
def yX12_comb_ : MethodName := ⟨RX12, "comb", "(II)I"⟩
abbrev cX9_hasVar : ByteArray := prog_11_method_5_code
def yX9_hasVar : MethodName := ⟨RX9, "hasVar", "(I)Z"⟩
abbrev cX11_abs : ByteArray := prog_1_method_21_code
def yX11_abs : MethodName := ⟨RX11, "abs", "(II)I"⟩
abbrev cX12_abs : ByteArray := prog_14_method_164_code
def yX12_abs : MethodName := ⟨RX12, "abs", "(II)I"⟩
abbrev cX11_eqmp : ByteArray := prog_1_method_24_code
def yX11_eqmp : MethodName := ⟨RX11, "eqmp", "(II)I"⟩
abbrev cX12_eqmp_ : ByteArray := prog_14_method_167_code
def yX12_eqmp_ : MethodName := ⟨RX12, "eqmp", "(II)I"⟩
abbrev cX11_deduct : ByteArray := prog_1_method_25_code
def yX11_deduct : MethodName := ⟨RX11, "deduct", "(II)I"⟩
abbrev cX12_deduct_ : ByteArray := prog_14_method_168_code
def yX12_deduct_ : MethodName := ⟨RX12, "deduct", "(II)I"⟩
abbrev cX11_rewrite : ByteArray := prog_1_method_30_code
def yX11_rewrite : MethodName := ⟨RX11, "rewrite", "(II)I"⟩
abbrev cX12_rewrite : ByteArray := prog_14_method_176_code
def yX12_rewrite : MethodName := ⟨RX12, "rewrite", "(II)I"⟩
abbrev cX11_better : ByteArray := prog_1_method_11_code
def yX11_better : MethodName := ⟨RX11, "better", "(I)I"⟩
abbrev cX12_better : ByteArray := prog_14_method_148_code
def yX12_better : MethodName := ⟨RX12, "better", "(I)I"⟩
abbrev cX11_sym : ByteArray := prog_1_method_28_code
def yX11_sym : MethodName := ⟨RX11, "sym", "(I)I"⟩
abbrev cX12_sym : ByteArray := prog_14_method_172_code
def yX12_sym : MethodName := ⟨RX12, "sym", "(I)I"⟩
abbrev cX11_unfold : ByteArray := prog_1_method_33_code
def yX11_unfold : MethodName := ⟨RX11, "unfold", "(I)I"⟩
abbrev cX12_unfold : ByteArray := prog_14_method_180_code
def yX12_unfold : MethodName := ⟨RX12, "unfold", "(I)I"⟩
abbrev cX11_inst : ByteArray := prog_1_method_26_code
def yX11_inst : MethodName := ⟨RX11, "inst", "(III)I"⟩
abbrev cX12_inst_ : ByteArray := prog_14_method_169_code
def yX12_inst_ : MethodName := ⟨RX12, "inst", "(III)I"⟩
abbrev cX11_term : ByteArray := prog_1_method_12_code
def yX11_term : MethodName := ⟨RX11, "term", "(II)I"⟩
abbrev cX12_term : ByteArray := prog_14_method_151_code
def yX12_term : MethodName := ⟨RX12, "term", "(II)I"⟩
abbrev cX11_octet : ByteArray := prog_1_method_17_code
def yX11_octet : MethodName := ⟨RX11, "octet", "(I)I"⟩
abbrev cX12_octet : ByteArray := prog_14_method_156_code
def yX12_octet : MethodName := ⟨RX12, "octet", "(I)I"⟩
abbrev cX10_byteAt : ByteArray := prog_12_method_3_code
def yX10_byteAt : MethodName := ⟨RX10, "byteAt", "(I)I"⟩
abbrev cX11_named : ByteArray := prog_1_method_34_code
def yX11_named : MethodName := ⟨RX11, "named", "(I)I"⟩
abbrev cL_named : ByteArray := method_3_code
def yL_named : MethodName := ⟨RL, "named", "(LTenRules;I[J)I"⟩
abbrev cL_law : ByteArray := code
def yL_law : MethodName := ⟨RL, "law", "([I)Z"⟩
abbrev cX8_onlyName : ByteArray := prog_10_method_12_code
def yX8_onlyName : MethodName := ⟨RX8, "onlyName", "(I)I"⟩
abbrev cX8_nameHere : ByteArray := prog_10_method_9_code
def yX8_nameHere : MethodName := ⟨RX8, "nameHere", "()I"⟩
abbrev cX12_named : ByteArray := prog_14_method_181_code
def yX12_named : MethodName := ⟨RX12, "named", "(I)I"⟩
abbrev cX12_thrown : ByteArray := prog_14_method_2_code
def yX12_thrown : MethodName := ⟨RX12, "thrown", "()I"⟩
abbrev vwCl : List vw_C := [(RX0, TX0, 14), (RX1, TX1, 6), (RX2, TX2, 12), (RX3, TX3, 8), (RX4, TX4, 6), (RX5, TX5, 3), (RX6, TX6, 9), (RX7, TX7, 1), (RX8, TX8, 12), (RX9, TX9, 15), (RX10, TX10, 4), (RX11, TX11, 16), (RX12, TX12, 65)]
theorem dJ0_charAt_5068e_0 : decode cJ0_charAt_5068e 0 = .ok (.aload_n 0, 1) := by decide +kernel
theorem dJ0_charAt_5068e_1 : decode cJ0_charAt_5068e 1 = .ok (.invokevirtual 492, 3) := by decide +kernel
theorem dJ0_charAt_5068e_4 : decode cJ0_charAt_5068e 4 = .ok (.ifCond .eq 12, 3) := by decide +kernel
theorem dJ0_charAt_5068e_7 : decode cJ0_charAt_5068e 7 = .ok (.aload_n 0, 1) := by decide +kernel
theorem dJ0_charAt_5068e_8 : decode cJ0_charAt_5068e 8 = .ok (.getfield 9, 3) := by decide +kernel
theorem dJ0_charAt_5068e_11 : decode cJ0_charAt_5068e 11 = .ok (.iload_n 1, 1) := by decide +kernel
theorem dJ0_charAt_5068e_12 : decode cJ0_charAt_5068e 12 = .ok (.invokestatic 495, 3) := by decide +kernel
theorem dJ0_charAt_5068e_15 : decode cJ0_charAt_5068e 15 = .ok (.ireturn, 1) := by decide +kernel
theorem dJ0_charAt_5068e_16 : decode cJ0_charAt_5068e 16 = .ok (.aload_n 0, 1) := by decide +kernel
theorem dJ0_charAt_5068e_17 : decode cJ0_charAt_5068e 17 = .ok (.getfield 9, 3) := by decide +kernel
theorem dJ0_charAt_5068e_20 : decode cJ0_charAt_5068e 20 = .ok (.iload_n 1, 1) := by decide +kernel
theorem dJ0_charAt_5068e_21 : decode cJ0_charAt_5068e 21 = .ok (.invokestatic 498, 3) := by decide +kernel
theorem dJ0_charAt_5068e_24 : decode cJ0_charAt_5068e 24 = .ok (.ireturn, 1) := by decide +kernel
theorem dJ0_checkIndex_df160_0 : decode cJ0_checkIndex_df160 0 = .ok (.iload_n 0, 1) := by decide +kernel
theorem dJ0_checkIndex_df160_1 : decode cJ0_checkIndex_df160 1 = .ok (.iload_n 1, 1) := by decide +kernel
theorem dJ0_checkIndex_df160_2 : decode cJ0_checkIndex_df160 2 = .ok (.getstatic 1053, 3) := by decide +kernel
theorem dJ0_checkIndex_df160_5 : decode cJ0_checkIndex_df160 5 = .ok (.invokestatic 1059, 3) := by decide +kernel
theorem dJ0_checkIndex_df160_8 : decode cJ0_checkIndex_df160 8 = .ok (.pop, 1) := by decide +kernel
theorem dJ0_checkIndex_df160_9 : decode cJ0_checkIndex_df160 9 = .ok (.return_, 1) := by decide +kernel
theorem dJ0_coder_7d493_0 : decode cJ0_coder_7d493 0 = .ok (.getstatic 38, 3) := by decide +kernel
theorem dJ0_coder_7d493_3 : decode cJ0_coder_7d493 3 = .ok (.ifCond .eq 10, 3) := by decide +kernel
theorem dJ0_coder_7d493_6 : decode cJ0_coder_7d493 6 = .ok (.aload_n 0, 1) := by decide +kernel
theorem dJ0_coder_7d493_7 : decode cJ0_coder_7d493 7 = .ok (.getfield 15, 3) := by decide +kernel
theorem dJ0_coder_7d493_10 : decode cJ0_coder_7d493 10 = .ok (.goto 4, 3) := by decide +kernel
theorem dJ0_coder_7d493_13 : decode cJ0_coder_7d493 13 = .ok (.iconst 1, 1) := by decide +kernel
theorem dJ0_coder_7d493_14 : decode cJ0_coder_7d493 14 = .ok (.ireturn, 1) := by decide +kernel
theorem dJ0_isLatin1_aae02_0 : decode cJ0_isLatin1_aae02 0 = .ok (.getstatic 38, 3) := by decide +kernel
theorem dJ0_isLatin1_aae02_3 : decode cJ0_isLatin1_aae02 3 = .ok (.ifCond .eq 14, 3) := by decide +kernel
theorem dJ0_isLatin1_aae02_6 : decode cJ0_isLatin1_aae02 6 = .ok (.aload_n 0, 1) := by decide +kernel
theorem dJ0_isLatin1_aae02_7 : decode cJ0_isLatin1_aae02 7 = .ok (.getfield 15, 3) := by decide +kernel
theorem dJ0_isLatin1_aae02_10 : decode cJ0_isLatin1_aae02 10 = .ok (.ifCond .ne 7, 3) := by decide +kernel
theorem dJ0_isLatin1_aae02_13 : decode cJ0_isLatin1_aae02 13 = .ok (.iconst 1, 1) := by decide +kernel
theorem dJ0_isLatin1_aae02_14 : decode cJ0_isLatin1_aae02 14 = .ok (.goto 4, 3) := by decide +kernel
theorem dJ0_isLatin1_aae02_17 : decode cJ0_isLatin1_aae02 17 = .ok (.iconst 0, 1) := by decide +kernel
theorem dJ0_isLatin1_aae02_18 : decode cJ0_isLatin1_aae02 18 = .ok (.ireturn, 1) := by decide +kernel
theorem dJ0_length_8abf5_0 : decode cJ0_length_8abf5 0 = .ok (.aload_n 0, 1) := by decide +kernel
theorem dJ0_length_8abf5_1 : decode cJ0_length_8abf5 1 = .ok (.getfield 9, 3) := by decide +kernel
theorem dJ0_length_8abf5_4 : decode cJ0_length_8abf5 4 = .ok (.arraylength, 1) := by decide +kernel
theorem dJ0_length_8abf5_5 : decode cJ0_length_8abf5 5 = .ok (.aload_n 0, 1) := by decide +kernel
theorem dJ0_length_8abf5_6 : decode cJ0_length_8abf5 6 = .ok (.invokevirtual 335, 3) := by decide +kernel
theorem dJ0_length_8abf5_9 : decode cJ0_length_8abf5 9 = .ok (.ishr, 1) := by decide +kernel
theorem dJ0_length_8abf5_10 : decode cJ0_length_8abf5 10 = .ok (.ireturn, 1) := by decide +kernel
theorem dJ1_charAt_3b067_0 : decode cJ1_charAt_3b067 0 = .ok (.iload_n 1, 1) := by decide +kernel
theorem dJ1_charAt_3b067_1 : decode cJ1_charAt_3b067 1 = .ok (.aload_n 0, 1) := by decide +kernel
theorem dJ1_charAt_3b067_2 : decode cJ1_charAt_3b067 2 = .ok (.arraylength, 1) := by decide +kernel
theorem dJ1_charAt_3b067_3 : decode cJ1_charAt_3b067 3 = .ok (.invokestatic 9, 3) := by decide +kernel
theorem dJ1_charAt_3b067_6 : decode cJ1_charAt_3b067 6 = .ok (.aload_n 0, 1) := by decide +kernel
theorem dJ1_charAt_3b067_7 : decode cJ1_charAt_3b067 7 = .ok (.iload_n 1, 1) := by decide +kernel
theorem dJ1_charAt_3b067_8 : decode cJ1_charAt_3b067 8 = .ok (.baload, 1) := by decide +kernel
theorem dJ1_charAt_3b067_9 : decode cJ1_charAt_3b067 9 = .ok (.sipush 255, 3) := by decide +kernel
theorem dJ1_charAt_3b067_12 : decode cJ1_charAt_3b067 12 = .ok (.iand, 1) := by decide +kernel
theorem dJ1_charAt_3b067_13 : decode cJ1_charAt_3b067 13 = .ok (.i2c, 1) := by decide +kernel
theorem dJ1_charAt_3b067_14 : decode cJ1_charAt_3b067 14 = .ok (.ireturn, 1) := by decide +kernel
theorem dJ3_checkIndex_8e157_0 : decode cJ3_checkIndex_8e157 0 = .ok (.iload_n 0, 1) := by decide +kernel
theorem dJ3_checkIndex_8e157_1 : decode cJ3_checkIndex_8e157 1 = .ok (.ifCond .lt 8, 3) := by decide +kernel
theorem dJ3_checkIndex_8e157_4 : decode cJ3_checkIndex_8e157 4 = .ok (.iload_n 0, 1) := by decide +kernel
theorem dJ3_checkIndex_8e157_5 : decode cJ3_checkIndex_8e157 5 = .ok (.iload_n 1, 1) := by decide +kernel
theorem dJ3_checkIndex_8e157_6 : decode cJ3_checkIndex_8e157 6 = .ok (.if_icmp .lt 10, 3) := by decide +kernel
theorem dJ3_checkIndex_8e157_9 : decode cJ3_checkIndex_8e157 9 = .ok (.aload_n 2, 1) := by decide +kernel
theorem dJ3_checkIndex_8e157_10 : decode cJ3_checkIndex_8e157 10 = .ok (.iload_n 0, 1) := by decide +kernel
theorem dJ3_checkIndex_8e157_11 : decode cJ3_checkIndex_8e157 11 = .ok (.iload_n 1, 1) := by decide +kernel
theorem dJ3_checkIndex_8e157_12 : decode cJ3_checkIndex_8e157 12 = .ok (.invokestatic 95, 3) := by decide +kernel
theorem dJ3_checkIndex_8e157_15 : decode cJ3_checkIndex_8e157 15 = .ok (.athrow, 1) := by decide +kernel
theorem dJ3_checkIndex_8e157_16 : decode cJ3_checkIndex_8e157 16 = .ok (.iload_n 0, 1) := by decide +kernel
theorem dJ3_checkIndex_8e157_17 : decode cJ3_checkIndex_8e157 17 = .ok (.ireturn, 1) := by decide +kernel
theorem dJ7_fill_53178_0 : decode cJ7_fill_53178 0 = .ok (.iconst 0, 1) := by decide +kernel
theorem dJ7_fill_53178_1 : decode cJ7_fill_53178 1 = .ok (.istore_n 2, 1) := by decide +kernel
theorem dJ7_fill_53178_2 : decode cJ7_fill_53178 2 = .ok (.aload_n 0, 1) := by decide +kernel
theorem dJ7_fill_53178_3 : decode cJ7_fill_53178 3 = .ok (.arraylength, 1) := by decide +kernel
theorem dJ7_fill_53178_4 : decode cJ7_fill_53178 4 = .ok (.istore_n 3, 1) := by decide +kernel
theorem dJ7_fill_53178_5 : decode cJ7_fill_53178 5 = .ok (.iload_n 2, 1) := by decide +kernel
theorem dJ7_fill_53178_6 : decode cJ7_fill_53178 6 = .ok (.iload_n 3, 1) := by decide +kernel
theorem dJ7_fill_53178_7 : decode cJ7_fill_53178 7 = .ok (.if_icmp .ge 13, 3) := by decide +kernel
theorem dJ7_fill_53178_10 : decode cJ7_fill_53178 10 = .ok (.aload_n 0, 1) := by decide +kernel
theorem dJ7_fill_53178_11 : decode cJ7_fill_53178 11 = .ok (.iload_n 2, 1) := by decide +kernel
theorem dJ7_fill_53178_12 : decode cJ7_fill_53178 12 = .ok (.iload_n 1, 1) := by decide +kernel
theorem dJ7_fill_53178_13 : decode cJ7_fill_53178 13 = .ok (.iastore, 1) := by decide +kernel
theorem dJ7_fill_53178_14 : decode cJ7_fill_53178 14 = .ok (.iinc 2 1, 3) := by decide +kernel
theorem dJ7_fill_53178_17 : decode cJ7_fill_53178 17 = .ok (.goto (-12), 3) := by decide +kernel
theorem dJ7_fill_53178_20 : decode cJ7_fill_53178 20 = .ok (.return_, 1) := by decide +kernel
theorem dL_law_0 : decode cL_law 0 = .ok (.new 8, 3) := by decide +kernel
theorem dL_law_3 : decode cL_law 3 = .ok (.dup, 1) := by decide +kernel
theorem dL_law_4 : decode cL_law 4 = .ok (.invokespecial 15, 3) := by decide +kernel
theorem dL_law_7 : decode cL_law 7 = .ok (.astore_n 1, 1) := by decide +kernel
theorem dL_law_8 : decode cL_law 8 = .ok (.new 16, 3) := by decide +kernel
theorem dL_law_11 : decode cL_law 11 = .ok (.dup, 1) := by decide +kernel
theorem dL_law_12 : decode cL_law 12 = .ok (.invokespecial 18, 3) := by decide +kernel
theorem dL_law_15 : decode cL_law 15 = .ok (.astore_n 2, 1) := by decide +kernel
theorem dL_law_16 : decode cL_law 16 = .ok (.iconst 1, 1) := by decide +kernel
theorem dL_law_17 : decode cL_law 17 = .ok (.newarray .long, 2) := by decide +kernel
theorem dL_law_19 : decode cL_law 19 = .ok (.astore_n 3, 1) := by decide +kernel
theorem dL_law_20 : decode cL_law 20 = .ok (.iconst 0, 1) := by decide +kernel
theorem dL_law_21 : decode cL_law 21 = .ok (.istore 4, 2) := by decide +kernel
theorem dL_law_23 : decode cL_law 23 = .ok (.iload 4, 2) := by decide +kernel
theorem dL_law_25 : decode cL_law 25 = .ok (.aload_n 0, 1) := by decide +kernel
theorem dL_law_26 : decode cL_law 26 = .ok (.arraylength, 1) := by decide +kernel
theorem dL_law_27 : decode cL_law 27 = .ok (.bipush 6, 2) := by decide +kernel
theorem dL_law_29 : decode cL_law 29 = .ok (.isub, 1) := by decide +kernel
theorem dL_law_30 : decode cL_law 30 = .ok (.if_icmp .gt 1222, 3) := by decide +kernel
theorem dL_law_33 : decode cL_law 33 = .ok (.aload_n 0, 1) := by decide +kernel
theorem dL_law_34 : decode cL_law 34 = .ok (.iload 4, 2) := by decide +kernel
theorem dL_law_36 : decode cL_law 36 = .ok (.iaload, 1) := by decide +kernel
theorem dL_law_37 : decode cL_law 37 = .ok (.bipush 63, 2) := by decide +kernel
theorem dL_law_39 : decode cL_law 39 = .ok (.iand, 1) := by decide +kernel
theorem dL_law_40 : decode cL_law 40 = .ok (.tableswitch 1206 0 34 #[156, 229, 254, 267, 280, 293, 318, 343, 380, 417, 442, 479, 504, 529, 566, 603, 628, 653, 690, 727, 764, 789, 814, 851, 888, 937, 962, 987, 1012, 1049, 1074, 1099, 1124, 1180, 1193], 156) := by decide +kernel
theorem dL_law_196 : decode cL_law 196 = .ok (.aload_n 1, 1) := by decide +kernel
theorem dL_law_197 : decode cL_law 197 = .ok (.aload_n 0, 1) := by decide +kernel
theorem dL_law_198 : decode cL_law 198 = .ok (.iload 4, 2) := by decide +kernel
theorem dL_law_200 : decode cL_law 200 = .ok (.iconst 1, 1) := by decide +kernel
theorem dL_law_201 : decode cL_law 201 = .ok (.iadd, 1) := by decide +kernel
theorem dL_law_202 : decode cL_law 202 = .ok (.iaload, 1) := by decide +kernel
theorem dL_law_203 : decode cL_law 203 = .ok (.aload_n 0, 1) := by decide +kernel
theorem dL_law_204 : decode cL_law 204 = .ok (.iload 4, 2) := by decide +kernel
theorem dL_law_206 : decode cL_law 206 = .ok (.iconst 2, 1) := by decide +kernel
theorem dL_law_207 : decode cL_law 207 = .ok (.iadd, 1) := by decide +kernel
theorem dL_law_208 : decode cL_law 208 = .ok (.iaload, 1) := by decide +kernel
theorem dL_law_209 : decode cL_law 209 = .ok (.aload_n 0, 1) := by decide +kernel
theorem dL_law_210 : decode cL_law 210 = .ok (.iload 4, 2) := by decide +kernel
theorem dL_law_212 : decode cL_law 212 = .ok (.iconst 3, 1) := by decide +kernel
theorem dL_law_213 : decode cL_law 213 = .ok (.iadd, 1) := by decide +kernel
theorem dL_law_214 : decode cL_law 214 = .ok (.iaload, 1) := by decide +kernel
theorem dL_law_215 : decode cL_law 215 = .ok (.aload_n 0, 1) := by decide +kernel
theorem dL_law_216 : decode cL_law 216 = .ok (.iload 4, 2) := by decide +kernel
theorem dL_law_218 : decode cL_law 218 = .ok (.iconst 4, 1) := by decide +kernel
theorem dL_law_219 : decode cL_law 219 = .ok (.iadd, 1) := by decide +kernel
theorem dL_law_220 : decode cL_law 220 = .ok (.iaload, 1) := by decide +kernel
theorem dL_law_221 : decode cL_law 221 = .ok (.aload_n 0, 1) := by decide +kernel
theorem dL_law_222 : decode cL_law 222 = .ok (.iload 4, 2) := by decide +kernel
theorem dL_law_224 : decode cL_law 224 = .ok (.iconst 5, 1) := by decide +kernel
theorem dL_law_225 : decode cL_law 225 = .ok (.iadd, 1) := by decide +kernel
theorem dL_law_226 : decode cL_law 226 = .ok (.iaload, 1) := by decide +kernel
theorem dL_law_227 : decode cL_law 227 = .ok (.invokevirtual 19, 3) := by decide +kernel
theorem dL_law_230 : decode cL_law 230 = .ok (.aload_n 2, 1) := by decide +kernel
theorem dL_law_231 : decode cL_law 231 = .ok (.aload_n 0, 1) := by decide +kernel
theorem dL_law_232 : decode cL_law 232 = .ok (.iload 4, 2) := by decide +kernel
theorem dL_law_234 : decode cL_law 234 = .ok (.iconst 1, 1) := by decide +kernel
theorem dL_law_235 : decode cL_law 235 = .ok (.iadd, 1) := by decide +kernel
theorem dL_law_236 : decode cL_law 236 = .ok (.iaload, 1) := by decide +kernel
theorem dL_law_237 : decode cL_law 237 = .ok (.aload_n 0, 1) := by decide +kernel
theorem dL_law_238 : decode cL_law 238 = .ok (.iload 4, 2) := by decide +kernel
theorem dL_law_240 : decode cL_law 240 = .ok (.iconst 2, 1) := by decide +kernel
theorem dL_law_241 : decode cL_law 241 = .ok (.iadd, 1) := by decide +kernel
theorem dL_law_242 : decode cL_law 242 = .ok (.iaload, 1) := by decide +kernel
theorem dL_law_243 : decode cL_law 243 = .ok (.aload_n 0, 1) := by decide +kernel
theorem dL_law_244 : decode cL_law 244 = .ok (.iload 4, 2) := by decide +kernel
theorem dL_law_246 : decode cL_law 246 = .ok (.iconst 3, 1) := by decide +kernel
theorem dL_law_247 : decode cL_law 247 = .ok (.iadd, 1) := by decide +kernel
theorem dL_law_248 : decode cL_law 248 = .ok (.iaload, 1) := by decide +kernel
theorem dL_law_249 : decode cL_law 249 = .ok (.aload_n 0, 1) := by decide +kernel
theorem dL_law_250 : decode cL_law 250 = .ok (.iload 4, 2) := by decide +kernel
theorem dL_law_252 : decode cL_law 252 = .ok (.iconst 4, 1) := by decide +kernel
theorem dL_law_253 : decode cL_law 253 = .ok (.iadd, 1) := by decide +kernel
theorem dL_law_254 : decode cL_law 254 = .ok (.iaload, 1) := by decide +kernel
theorem dL_law_255 : decode cL_law 255 = .ok (.aload_n 0, 1) := by decide +kernel
theorem dL_law_256 : decode cL_law 256 = .ok (.iload 4, 2) := by decide +kernel
theorem dL_law_258 : decode cL_law 258 = .ok (.iconst 5, 1) := by decide +kernel
theorem dL_law_259 : decode cL_law 259 = .ok (.iadd, 1) := by decide +kernel
theorem dL_law_260 : decode cL_law 260 = .ok (.iaload, 1) := by decide +kernel
theorem dL_law_261 : decode cL_law 261 = .ok (.invokevirtual 23, 3) := by decide +kernel
theorem dL_law_264 : decode cL_law 264 = .ok (.if_icmp .eq 982, 3) := by decide +kernel
theorem dL_law_269 : decode cL_law 269 = .ok (.aload_n 1, 1) := by decide +kernel
theorem dL_law_270 : decode cL_law 270 = .ok (.aload_n 0, 1) := by decide +kernel
theorem dL_law_271 : decode cL_law 271 = .ok (.iload 4, 2) := by decide +kernel
theorem dL_law_273 : decode cL_law 273 = .ok (.iconst 1, 1) := by decide +kernel
theorem dL_law_274 : decode cL_law 274 = .ok (.iadd, 1) := by decide +kernel
theorem dL_law_275 : decode cL_law 275 = .ok (.iaload, 1) := by decide +kernel
theorem dL_law_276 : decode cL_law 276 = .ok (.invokevirtual 24, 3) := by decide +kernel
theorem dL_law_279 : decode cL_law 279 = .ok (.aload_n 2, 1) := by decide +kernel
theorem dL_law_280 : decode cL_law 280 = .ok (.aload_n 0, 1) := by decide +kernel
theorem dL_law_281 : decode cL_law 281 = .ok (.iload 4, 2) := by decide +kernel
theorem dL_law_283 : decode cL_law 283 = .ok (.iconst 1, 1) := by decide +kernel
theorem dL_law_284 : decode cL_law 284 = .ok (.iadd, 1) := by decide +kernel
theorem dL_law_285 : decode cL_law 285 = .ok (.iaload, 1) := by decide +kernel
theorem dL_law_286 : decode cL_law 286 = .ok (.invokevirtual 27, 3) := by decide +kernel
theorem dL_law_289 : decode cL_law 289 = .ok (.if_icmp .eq 957, 3) := by decide +kernel
theorem dL_law_294 : decode cL_law 294 = .ok (.aload_n 1, 1) := by decide +kernel
theorem dL_law_295 : decode cL_law 295 = .ok (.invokevirtual 28, 3) := by decide +kernel
theorem dL_law_298 : decode cL_law 298 = .ok (.aload_n 2, 1) := by decide +kernel
theorem dL_law_299 : decode cL_law 299 = .ok (.invokevirtual 32, 3) := by decide +kernel
theorem dL_law_302 : decode cL_law 302 = .ok (.if_icmp .eq 944, 3) := by decide +kernel
theorem dL_law_307 : decode cL_law 307 = .ok (.aload_n 1, 1) := by decide +kernel
theorem dL_law_308 : decode cL_law 308 = .ok (.invokevirtual 33, 3) := by decide +kernel
theorem dL_law_311 : decode cL_law 311 = .ok (.aload_n 2, 1) := by decide +kernel
theorem dL_law_312 : decode cL_law 312 = .ok (.invokevirtual 36, 3) := by decide +kernel
theorem dL_law_315 : decode cL_law 315 = .ok (.if_icmp .eq 931, 3) := by decide +kernel
theorem dL_law_320 : decode cL_law 320 = .ok (.aload_n 1, 1) := by decide +kernel
theorem dL_law_321 : decode cL_law 321 = .ok (.invokevirtual 37, 3) := by decide +kernel
theorem dL_law_324 : decode cL_law 324 = .ok (.aload_n 2, 1) := by decide +kernel
theorem dL_law_325 : decode cL_law 325 = .ok (.invokevirtual 40, 3) := by decide +kernel
theorem dL_law_328 : decode cL_law 328 = .ok (.if_icmp .eq 918, 3) := by decide +kernel
theorem dL_law_333 : decode cL_law 333 = .ok (.aload_n 1, 1) := by decide +kernel
theorem dL_law_334 : decode cL_law 334 = .ok (.aload_n 0, 1) := by decide +kernel
theorem dL_law_335 : decode cL_law 335 = .ok (.iload 4, 2) := by decide +kernel
theorem dL_law_337 : decode cL_law 337 = .ok (.iconst 1, 1) := by decide +kernel
theorem dL_law_338 : decode cL_law 338 = .ok (.iadd, 1) := by decide +kernel
theorem dL_law_339 : decode cL_law 339 = .ok (.iaload, 1) := by decide +kernel
theorem dL_law_340 : decode cL_law 340 = .ok (.invokevirtual 41, 3) := by decide +kernel
theorem dL_law_343 : decode cL_law 343 = .ok (.aload_n 2, 1) := by decide +kernel
theorem dL_law_344 : decode cL_law 344 = .ok (.aload_n 0, 1) := by decide +kernel
theorem dL_law_345 : decode cL_law 345 = .ok (.iload 4, 2) := by decide +kernel
theorem dL_law_347 : decode cL_law 347 = .ok (.iconst 1, 1) := by decide +kernel
theorem dL_law_348 : decode cL_law 348 = .ok (.iadd, 1) := by decide +kernel
theorem dL_law_349 : decode cL_law 349 = .ok (.iaload, 1) := by decide +kernel
theorem dL_law_350 : decode cL_law 350 = .ok (.invokevirtual 44, 3) := by decide +kernel
theorem dL_law_353 : decode cL_law 353 = .ok (.if_icmp .eq 893, 3) := by decide +kernel
theorem dL_law_358 : decode cL_law 358 = .ok (.aload_n 1, 1) := by decide +kernel
theorem dL_law_359 : decode cL_law 359 = .ok (.aload_n 0, 1) := by decide +kernel
theorem dL_law_360 : decode cL_law 360 = .ok (.iload 4, 2) := by decide +kernel
theorem dL_law_362 : decode cL_law 362 = .ok (.iconst 1, 1) := by decide +kernel
theorem dL_law_363 : decode cL_law 363 = .ok (.iadd, 1) := by decide +kernel
theorem dL_law_364 : decode cL_law 364 = .ok (.iaload, 1) := by decide +kernel
theorem dL_law_365 : decode cL_law 365 = .ok (.invokevirtual 45, 3) := by decide +kernel
theorem dL_law_368 : decode cL_law 368 = .ok (.aload_n 2, 1) := by decide +kernel
theorem dL_law_369 : decode cL_law 369 = .ok (.aload_n 0, 1) := by decide +kernel
theorem dL_law_370 : decode cL_law 370 = .ok (.iload 4, 2) := by decide +kernel
theorem dL_law_372 : decode cL_law 372 = .ok (.iconst 1, 1) := by decide +kernel
theorem dL_law_373 : decode cL_law 373 = .ok (.iadd, 1) := by decide +kernel
theorem dL_law_374 : decode cL_law 374 = .ok (.iaload, 1) := by decide +kernel
theorem dL_law_375 : decode cL_law 375 = .ok (.invokevirtual 48, 3) := by decide +kernel
theorem dL_law_378 : decode cL_law 378 = .ok (.if_icmp .eq 868, 3) := by decide +kernel
theorem dL_law_383 : decode cL_law 383 = .ok (.aload_n 1, 1) := by decide +kernel
theorem dL_law_384 : decode cL_law 384 = .ok (.aload_n 0, 1) := by decide +kernel
theorem dL_law_385 : decode cL_law 385 = .ok (.iload 4, 2) := by decide +kernel
theorem dL_law_387 : decode cL_law 387 = .ok (.iconst 1, 1) := by decide +kernel
theorem dL_law_388 : decode cL_law 388 = .ok (.iadd, 1) := by decide +kernel
theorem dL_law_389 : decode cL_law 389 = .ok (.iaload, 1) := by decide +kernel
theorem dL_law_390 : decode cL_law 390 = .ok (.aload_n 0, 1) := by decide +kernel
theorem dL_law_391 : decode cL_law 391 = .ok (.iload 4, 2) := by decide +kernel
theorem dL_law_393 : decode cL_law 393 = .ok (.iconst 2, 1) := by decide +kernel
theorem dL_law_394 : decode cL_law 394 = .ok (.iadd, 1) := by decide +kernel
theorem dL_law_395 : decode cL_law 395 = .ok (.iaload, 1) := by decide +kernel
theorem dL_law_396 : decode cL_law 396 = .ok (.invokevirtual 49, 3) := by decide +kernel
theorem dL_law_399 : decode cL_law 399 = .ok (.aload_n 2, 1) := by decide +kernel
theorem dL_law_400 : decode cL_law 400 = .ok (.aload_n 0, 1) := by decide +kernel
theorem dL_law_401 : decode cL_law 401 = .ok (.iload 4, 2) := by decide +kernel
theorem dL_law_403 : decode cL_law 403 = .ok (.iconst 1, 1) := by decide +kernel
theorem dL_law_404 : decode cL_law 404 = .ok (.iadd, 1) := by decide +kernel
theorem dL_law_405 : decode cL_law 405 = .ok (.iaload, 1) := by decide +kernel
theorem dL_law_406 : decode cL_law 406 = .ok (.aload_n 0, 1) := by decide +kernel
theorem dL_law_407 : decode cL_law 407 = .ok (.iload 4, 2) := by decide +kernel
theorem dL_law_409 : decode cL_law 409 = .ok (.iconst 2, 1) := by decide +kernel
theorem dL_law_410 : decode cL_law 410 = .ok (.iadd, 1) := by decide +kernel
theorem dL_law_411 : decode cL_law 411 = .ok (.iaload, 1) := by decide +kernel
theorem dL_law_412 : decode cL_law 412 = .ok (.invokevirtual 53, 3) := by decide +kernel
theorem dL_law_415 : decode cL_law 415 = .ok (.if_icmp .eq 831, 3) := by decide +kernel
theorem dL_law_420 : decode cL_law 420 = .ok (.aload_n 1, 1) := by decide +kernel
theorem dL_law_421 : decode cL_law 421 = .ok (.aload_n 0, 1) := by decide +kernel
theorem dL_law_422 : decode cL_law 422 = .ok (.iload 4, 2) := by decide +kernel
theorem dL_law_424 : decode cL_law 424 = .ok (.iconst 1, 1) := by decide +kernel
theorem dL_law_425 : decode cL_law 425 = .ok (.iadd, 1) := by decide +kernel
theorem dL_law_426 : decode cL_law 426 = .ok (.iaload, 1) := by decide +kernel
theorem dL_law_427 : decode cL_law 427 = .ok (.aload_n 0, 1) := by decide +kernel
theorem dL_law_428 : decode cL_law 428 = .ok (.iload 4, 2) := by decide +kernel
theorem dL_law_430 : decode cL_law 430 = .ok (.iconst 2, 1) := by decide +kernel
theorem dL_law_431 : decode cL_law 431 = .ok (.iadd, 1) := by decide +kernel
theorem dL_law_432 : decode cL_law 432 = .ok (.iaload, 1) := by decide +kernel
theorem dL_law_433 : decode cL_law 433 = .ok (.invokevirtual 54, 3) := by decide +kernel
theorem dL_law_436 : decode cL_law 436 = .ok (.aload_n 2, 1) := by decide +kernel
theorem dL_law_437 : decode cL_law 437 = .ok (.aload_n 0, 1) := by decide +kernel
theorem dL_law_438 : decode cL_law 438 = .ok (.iload 4, 2) := by decide +kernel
theorem dL_law_440 : decode cL_law 440 = .ok (.iconst 1, 1) := by decide +kernel
theorem dL_law_441 : decode cL_law 441 = .ok (.iadd, 1) := by decide +kernel
theorem dL_law_442 : decode cL_law 442 = .ok (.iaload, 1) := by decide +kernel
theorem dL_law_443 : decode cL_law 443 = .ok (.aload_n 0, 1) := by decide +kernel
theorem dL_law_444 : decode cL_law 444 = .ok (.iload 4, 2) := by decide +kernel
theorem dL_law_446 : decode cL_law 446 = .ok (.iconst 2, 1) := by decide +kernel
theorem dL_law_447 : decode cL_law 447 = .ok (.iadd, 1) := by decide +kernel
theorem dL_law_448 : decode cL_law 448 = .ok (.iaload, 1) := by decide +kernel
theorem dL_law_449 : decode cL_law 449 = .ok (.invokevirtual 57, 3) := by decide +kernel
theorem dL_law_452 : decode cL_law 452 = .ok (.if_icmp .eq 794, 3) := by decide +kernel
theorem dL_law_457 : decode cL_law 457 = .ok (.aload_n 1, 1) := by decide +kernel
theorem dL_law_458 : decode cL_law 458 = .ok (.aload_n 0, 1) := by decide +kernel
theorem dL_law_459 : decode cL_law 459 = .ok (.iload 4, 2) := by decide +kernel
theorem dL_law_461 : decode cL_law 461 = .ok (.iconst 1, 1) := by decide +kernel
theorem dL_law_462 : decode cL_law 462 = .ok (.iadd, 1) := by decide +kernel
theorem dL_law_463 : decode cL_law 463 = .ok (.iaload, 1) := by decide +kernel
theorem dL_law_464 : decode cL_law 464 = .ok (.invokevirtual 58, 3) := by decide +kernel
theorem dL_law_467 : decode cL_law 467 = .ok (.aload_n 2, 1) := by decide +kernel
theorem dL_law_468 : decode cL_law 468 = .ok (.aload_n 0, 1) := by decide +kernel
theorem dL_law_469 : decode cL_law 469 = .ok (.iload 4, 2) := by decide +kernel
theorem dL_law_471 : decode cL_law 471 = .ok (.iconst 1, 1) := by decide +kernel
theorem dL_law_472 : decode cL_law 472 = .ok (.iadd, 1) := by decide +kernel
theorem dL_law_473 : decode cL_law 473 = .ok (.iaload, 1) := by decide +kernel
theorem dL_law_474 : decode cL_law 474 = .ok (.invokevirtual 61, 3) := by decide +kernel
theorem dL_law_477 : decode cL_law 477 = .ok (.if_icmp .eq 769, 3) := by decide +kernel
theorem dL_law_482 : decode cL_law 482 = .ok (.aload_n 1, 1) := by decide +kernel
theorem dL_law_483 : decode cL_law 483 = .ok (.aload_n 0, 1) := by decide +kernel
theorem dL_law_484 : decode cL_law 484 = .ok (.iload 4, 2) := by decide +kernel
theorem dL_law_486 : decode cL_law 486 = .ok (.iconst 1, 1) := by decide +kernel
theorem dL_law_487 : decode cL_law 487 = .ok (.iadd, 1) := by decide +kernel
theorem dL_law_488 : decode cL_law 488 = .ok (.iaload, 1) := by decide +kernel
theorem dL_law_489 : decode cL_law 489 = .ok (.aload_n 0, 1) := by decide +kernel
theorem dL_law_490 : decode cL_law 490 = .ok (.iload 4, 2) := by decide +kernel
theorem dL_law_492 : decode cL_law 492 = .ok (.iconst 2, 1) := by decide +kernel
theorem dL_law_493 : decode cL_law 493 = .ok (.iadd, 1) := by decide +kernel
theorem dL_law_494 : decode cL_law 494 = .ok (.iaload, 1) := by decide +kernel
theorem dL_law_495 : decode cL_law 495 = .ok (.invokevirtual 62, 3) := by decide +kernel
theorem dL_law_498 : decode cL_law 498 = .ok (.aload_n 2, 1) := by decide +kernel
theorem dL_law_499 : decode cL_law 499 = .ok (.aload_n 0, 1) := by decide +kernel
theorem dL_law_500 : decode cL_law 500 = .ok (.iload 4, 2) := by decide +kernel
theorem dL_law_502 : decode cL_law 502 = .ok (.iconst 1, 1) := by decide +kernel
theorem dL_law_503 : decode cL_law 503 = .ok (.iadd, 1) := by decide +kernel
theorem dL_law_504 : decode cL_law 504 = .ok (.iaload, 1) := by decide +kernel
theorem dL_law_505 : decode cL_law 505 = .ok (.aload_n 0, 1) := by decide +kernel
theorem dL_law_506 : decode cL_law 506 = .ok (.iload 4, 2) := by decide +kernel
theorem dL_law_508 : decode cL_law 508 = .ok (.iconst 2, 1) := by decide +kernel
theorem dL_law_509 : decode cL_law 509 = .ok (.iadd, 1) := by decide +kernel
theorem dL_law_510 : decode cL_law 510 = .ok (.iaload, 1) := by decide +kernel
theorem dL_law_511 : decode cL_law 511 = .ok (.invokevirtual 65, 3) := by decide +kernel
theorem dL_law_514 : decode cL_law 514 = .ok (.if_icmp .eq 732, 3) := by decide +kernel
theorem dL_law_519 : decode cL_law 519 = .ok (.aload_n 1, 1) := by decide +kernel
theorem dL_law_520 : decode cL_law 520 = .ok (.aload_n 0, 1) := by decide +kernel
theorem dL_law_521 : decode cL_law 521 = .ok (.iload 4, 2) := by decide +kernel
theorem dL_law_523 : decode cL_law 523 = .ok (.iconst 1, 1) := by decide +kernel
theorem dL_law_524 : decode cL_law 524 = .ok (.iadd, 1) := by decide +kernel
theorem dL_law_525 : decode cL_law 525 = .ok (.iaload, 1) := by decide +kernel
theorem dL_law_526 : decode cL_law 526 = .ok (.invokevirtual 66, 3) := by decide +kernel
theorem dL_law_529 : decode cL_law 529 = .ok (.aload_n 2, 1) := by decide +kernel
theorem dL_law_530 : decode cL_law 530 = .ok (.aload_n 0, 1) := by decide +kernel
theorem dL_law_531 : decode cL_law 531 = .ok (.iload 4, 2) := by decide +kernel
theorem dL_law_533 : decode cL_law 533 = .ok (.iconst 1, 1) := by decide +kernel
theorem dL_law_534 : decode cL_law 534 = .ok (.iadd, 1) := by decide +kernel
theorem dL_law_535 : decode cL_law 535 = .ok (.iaload, 1) := by decide +kernel
theorem dL_law_536 : decode cL_law 536 = .ok (.invokevirtual 69, 3) := by decide +kernel
theorem dL_law_539 : decode cL_law 539 = .ok (.if_icmp .eq 707, 3) := by decide +kernel
theorem dL_law_544 : decode cL_law 544 = .ok (.aload_n 1, 1) := by decide +kernel
theorem dL_law_545 : decode cL_law 545 = .ok (.aload_n 0, 1) := by decide +kernel
theorem dL_law_546 : decode cL_law 546 = .ok (.iload 4, 2) := by decide +kernel
theorem dL_law_548 : decode cL_law 548 = .ok (.iconst 1, 1) := by decide +kernel
theorem dL_law_549 : decode cL_law 549 = .ok (.iadd, 1) := by decide +kernel
theorem dL_law_550 : decode cL_law 550 = .ok (.iaload, 1) := by decide +kernel
theorem dL_law_551 : decode cL_law 551 = .ok (.invokevirtual 70, 3) := by decide +kernel
theorem dL_law_554 : decode cL_law 554 = .ok (.aload_n 2, 1) := by decide +kernel
theorem dL_law_555 : decode cL_law 555 = .ok (.aload_n 0, 1) := by decide +kernel
theorem dL_law_556 : decode cL_law 556 = .ok (.iload 4, 2) := by decide +kernel
theorem dL_law_558 : decode cL_law 558 = .ok (.iconst 1, 1) := by decide +kernel
theorem dL_law_559 : decode cL_law 559 = .ok (.iadd, 1) := by decide +kernel
theorem dL_law_560 : decode cL_law 560 = .ok (.iaload, 1) := by decide +kernel
theorem dL_law_561 : decode cL_law 561 = .ok (.invokevirtual 73, 3) := by decide +kernel
theorem dL_law_564 : decode cL_law 564 = .ok (.if_icmp .eq 682, 3) := by decide +kernel
theorem dL_law_569 : decode cL_law 569 = .ok (.aload_n 1, 1) := by decide +kernel
theorem dL_law_570 : decode cL_law 570 = .ok (.aload_n 0, 1) := by decide +kernel
theorem dL_law_571 : decode cL_law 571 = .ok (.iload 4, 2) := by decide +kernel
theorem dL_law_573 : decode cL_law 573 = .ok (.iconst 1, 1) := by decide +kernel
theorem dL_law_574 : decode cL_law 574 = .ok (.iadd, 1) := by decide +kernel
theorem dL_law_575 : decode cL_law 575 = .ok (.iaload, 1) := by decide +kernel
theorem dL_law_576 : decode cL_law 576 = .ok (.aload_n 0, 1) := by decide +kernel
theorem dL_law_577 : decode cL_law 577 = .ok (.iload 4, 2) := by decide +kernel
theorem dL_law_579 : decode cL_law 579 = .ok (.iconst 2, 1) := by decide +kernel
theorem dL_law_580 : decode cL_law 580 = .ok (.iadd, 1) := by decide +kernel
theorem dL_law_581 : decode cL_law 581 = .ok (.iaload, 1) := by decide +kernel
theorem dL_law_582 : decode cL_law 582 = .ok (.invokevirtual 74, 3) := by decide +kernel
theorem dL_law_585 : decode cL_law 585 = .ok (.aload_n 2, 1) := by decide +kernel
theorem dL_law_586 : decode cL_law 586 = .ok (.aload_n 0, 1) := by decide +kernel
theorem dL_law_587 : decode cL_law 587 = .ok (.iload 4, 2) := by decide +kernel
theorem dL_law_589 : decode cL_law 589 = .ok (.iconst 1, 1) := by decide +kernel
theorem dL_law_590 : decode cL_law 590 = .ok (.iadd, 1) := by decide +kernel
theorem dL_law_591 : decode cL_law 591 = .ok (.iaload, 1) := by decide +kernel
theorem dL_law_592 : decode cL_law 592 = .ok (.aload_n 0, 1) := by decide +kernel
theorem dL_law_593 : decode cL_law 593 = .ok (.iload 4, 2) := by decide +kernel
theorem dL_law_595 : decode cL_law 595 = .ok (.iconst 2, 1) := by decide +kernel
theorem dL_law_596 : decode cL_law 596 = .ok (.iadd, 1) := by decide +kernel
theorem dL_law_597 : decode cL_law 597 = .ok (.iaload, 1) := by decide +kernel
theorem dL_law_598 : decode cL_law 598 = .ok (.invokevirtual 77, 3) := by decide +kernel
theorem dL_law_601 : decode cL_law 601 = .ok (.if_icmp .eq 645, 3) := by decide +kernel
theorem dL_law_606 : decode cL_law 606 = .ok (.aload_n 1, 1) := by decide +kernel
theorem dL_law_607 : decode cL_law 607 = .ok (.aload_n 0, 1) := by decide +kernel
theorem dL_law_608 : decode cL_law 608 = .ok (.iload 4, 2) := by decide +kernel
theorem dL_law_610 : decode cL_law 610 = .ok (.iconst 1, 1) := by decide +kernel
theorem dL_law_611 : decode cL_law 611 = .ok (.iadd, 1) := by decide +kernel
theorem dL_law_612 : decode cL_law 612 = .ok (.iaload, 1) := by decide +kernel
theorem dL_law_613 : decode cL_law 613 = .ok (.aload_n 0, 1) := by decide +kernel
theorem dL_law_614 : decode cL_law 614 = .ok (.iload 4, 2) := by decide +kernel
theorem dL_law_616 : decode cL_law 616 = .ok (.iconst 2, 1) := by decide +kernel
theorem dL_law_617 : decode cL_law 617 = .ok (.iadd, 1) := by decide +kernel
theorem dL_law_618 : decode cL_law 618 = .ok (.iaload, 1) := by decide +kernel
theorem dL_law_619 : decode cL_law 619 = .ok (.invokevirtual 78, 3) := by decide +kernel
theorem dL_law_622 : decode cL_law 622 = .ok (.aload_n 2, 1) := by decide +kernel
theorem dL_law_623 : decode cL_law 623 = .ok (.aload_n 0, 1) := by decide +kernel
theorem dL_law_624 : decode cL_law 624 = .ok (.iload 4, 2) := by decide +kernel
theorem dL_law_626 : decode cL_law 626 = .ok (.iconst 1, 1) := by decide +kernel
theorem dL_law_627 : decode cL_law 627 = .ok (.iadd, 1) := by decide +kernel
theorem dL_law_628 : decode cL_law 628 = .ok (.iaload, 1) := by decide +kernel
theorem dL_law_629 : decode cL_law 629 = .ok (.aload_n 0, 1) := by decide +kernel
theorem dL_law_630 : decode cL_law 630 = .ok (.iload 4, 2) := by decide +kernel
theorem dL_law_632 : decode cL_law 632 = .ok (.iconst 2, 1) := by decide +kernel
theorem dL_law_633 : decode cL_law 633 = .ok (.iadd, 1) := by decide +kernel
theorem dL_law_634 : decode cL_law 634 = .ok (.iaload, 1) := by decide +kernel
theorem dL_law_635 : decode cL_law 635 = .ok (.invokevirtual 81, 3) := by decide +kernel
theorem dL_law_638 : decode cL_law 638 = .ok (.if_icmp .eq 608, 3) := by decide +kernel
theorem dL_law_643 : decode cL_law 643 = .ok (.aload_n 1, 1) := by decide +kernel
theorem dL_law_644 : decode cL_law 644 = .ok (.aload_n 0, 1) := by decide +kernel
theorem dL_law_645 : decode cL_law 645 = .ok (.iload 4, 2) := by decide +kernel
theorem dL_law_647 : decode cL_law 647 = .ok (.iconst 1, 1) := by decide +kernel
theorem dL_law_648 : decode cL_law 648 = .ok (.iadd, 1) := by decide +kernel
theorem dL_law_649 : decode cL_law 649 = .ok (.iaload, 1) := by decide +kernel
theorem dL_law_650 : decode cL_law 650 = .ok (.invokevirtual 82, 3) := by decide +kernel
theorem dL_law_653 : decode cL_law 653 = .ok (.aload_n 2, 1) := by decide +kernel
theorem dL_law_654 : decode cL_law 654 = .ok (.aload_n 0, 1) := by decide +kernel
theorem dL_law_655 : decode cL_law 655 = .ok (.iload 4, 2) := by decide +kernel
theorem dL_law_657 : decode cL_law 657 = .ok (.iconst 1, 1) := by decide +kernel
theorem dL_law_658 : decode cL_law 658 = .ok (.iadd, 1) := by decide +kernel
theorem dL_law_659 : decode cL_law 659 = .ok (.iaload, 1) := by decide +kernel
theorem dL_law_660 : decode cL_law 660 = .ok (.invokevirtual 85, 3) := by decide +kernel
theorem dL_law_663 : decode cL_law 663 = .ok (.if_icmp .eq 583, 3) := by decide +kernel
theorem dL_law_668 : decode cL_law 668 = .ok (.aload_n 1, 1) := by decide +kernel
theorem dL_law_669 : decode cL_law 669 = .ok (.aload_n 0, 1) := by decide +kernel
theorem dL_law_670 : decode cL_law 670 = .ok (.iload 4, 2) := by decide +kernel
theorem dL_law_672 : decode cL_law 672 = .ok (.iconst 1, 1) := by decide +kernel
theorem dL_law_673 : decode cL_law 673 = .ok (.iadd, 1) := by decide +kernel
theorem dL_law_674 : decode cL_law 674 = .ok (.iaload, 1) := by decide +kernel
theorem dL_law_675 : decode cL_law 675 = .ok (.invokevirtual 86, 3) := by decide +kernel
theorem dL_law_678 : decode cL_law 678 = .ok (.aload_n 2, 1) := by decide +kernel
theorem dL_law_679 : decode cL_law 679 = .ok (.aload_n 0, 1) := by decide +kernel
theorem dL_law_680 : decode cL_law 680 = .ok (.iload 4, 2) := by decide +kernel
theorem dL_law_682 : decode cL_law 682 = .ok (.iconst 1, 1) := by decide +kernel
theorem dL_law_683 : decode cL_law 683 = .ok (.iadd, 1) := by decide +kernel
theorem dL_law_684 : decode cL_law 684 = .ok (.iaload, 1) := by decide +kernel
theorem dL_law_685 : decode cL_law 685 = .ok (.invokevirtual 89, 3) := by decide +kernel
theorem dL_law_688 : decode cL_law 688 = .ok (.if_icmp .eq 558, 3) := by decide +kernel
theorem dL_law_693 : decode cL_law 693 = .ok (.aload_n 1, 1) := by decide +kernel
theorem dL_law_694 : decode cL_law 694 = .ok (.aload_n 0, 1) := by decide +kernel
theorem dL_law_695 : decode cL_law 695 = .ok (.iload 4, 2) := by decide +kernel
theorem dL_law_697 : decode cL_law 697 = .ok (.iconst 1, 1) := by decide +kernel
theorem dL_law_698 : decode cL_law 698 = .ok (.iadd, 1) := by decide +kernel
theorem dL_law_699 : decode cL_law 699 = .ok (.iaload, 1) := by decide +kernel
theorem dL_law_700 : decode cL_law 700 = .ok (.aload_n 0, 1) := by decide +kernel
theorem dL_law_701 : decode cL_law 701 = .ok (.iload 4, 2) := by decide +kernel
theorem dL_law_703 : decode cL_law 703 = .ok (.iconst 2, 1) := by decide +kernel
theorem dL_law_704 : decode cL_law 704 = .ok (.iadd, 1) := by decide +kernel
theorem dL_law_705 : decode cL_law 705 = .ok (.iaload, 1) := by decide +kernel
theorem dL_law_706 : decode cL_law 706 = .ok (.invokevirtual 90, 3) := by decide +kernel
theorem dL_law_709 : decode cL_law 709 = .ok (.aload_n 2, 1) := by decide +kernel
theorem dL_law_710 : decode cL_law 710 = .ok (.aload_n 0, 1) := by decide +kernel
theorem dL_law_711 : decode cL_law 711 = .ok (.iload 4, 2) := by decide +kernel
theorem dL_law_713 : decode cL_law 713 = .ok (.iconst 1, 1) := by decide +kernel
theorem dL_law_714 : decode cL_law 714 = .ok (.iadd, 1) := by decide +kernel
theorem dL_law_715 : decode cL_law 715 = .ok (.iaload, 1) := by decide +kernel
theorem dL_law_716 : decode cL_law 716 = .ok (.aload_n 0, 1) := by decide +kernel
theorem dL_law_717 : decode cL_law 717 = .ok (.iload 4, 2) := by decide +kernel
theorem dL_law_719 : decode cL_law 719 = .ok (.iconst 2, 1) := by decide +kernel
theorem dL_law_720 : decode cL_law 720 = .ok (.iadd, 1) := by decide +kernel
theorem dL_law_721 : decode cL_law 721 = .ok (.iaload, 1) := by decide +kernel
theorem dL_law_722 : decode cL_law 722 = .ok (.invokevirtual 93, 3) := by decide +kernel
theorem dL_law_725 : decode cL_law 725 = .ok (.if_icmp .eq 521, 3) := by decide +kernel
theorem dL_law_730 : decode cL_law 730 = .ok (.aload_n 1, 1) := by decide +kernel
theorem dL_law_731 : decode cL_law 731 = .ok (.aload_n 0, 1) := by decide +kernel
theorem dL_law_732 : decode cL_law 732 = .ok (.iload 4, 2) := by decide +kernel
theorem dL_law_734 : decode cL_law 734 = .ok (.iconst 1, 1) := by decide +kernel
theorem dL_law_735 : decode cL_law 735 = .ok (.iadd, 1) := by decide +kernel
theorem dL_law_736 : decode cL_law 736 = .ok (.iaload, 1) := by decide +kernel
theorem dL_law_737 : decode cL_law 737 = .ok (.aload_n 0, 1) := by decide +kernel
theorem dL_law_738 : decode cL_law 738 = .ok (.iload 4, 2) := by decide +kernel
theorem dL_law_740 : decode cL_law 740 = .ok (.iconst 2, 1) := by decide +kernel
theorem dL_law_741 : decode cL_law 741 = .ok (.iadd, 1) := by decide +kernel
theorem dL_law_742 : decode cL_law 742 = .ok (.iaload, 1) := by decide +kernel
theorem dL_law_743 : decode cL_law 743 = .ok (.invokevirtual 94, 3) := by decide +kernel
theorem dL_law_746 : decode cL_law 746 = .ok (.aload_n 2, 1) := by decide +kernel
theorem dL_law_747 : decode cL_law 747 = .ok (.aload_n 0, 1) := by decide +kernel
theorem dL_law_748 : decode cL_law 748 = .ok (.iload 4, 2) := by decide +kernel
theorem dL_law_750 : decode cL_law 750 = .ok (.iconst 1, 1) := by decide +kernel
theorem dL_law_751 : decode cL_law 751 = .ok (.iadd, 1) := by decide +kernel
theorem dL_law_752 : decode cL_law 752 = .ok (.iaload, 1) := by decide +kernel
theorem dL_law_753 : decode cL_law 753 = .ok (.aload_n 0, 1) := by decide +kernel
theorem dL_law_754 : decode cL_law 754 = .ok (.iload 4, 2) := by decide +kernel
theorem dL_law_756 : decode cL_law 756 = .ok (.iconst 2, 1) := by decide +kernel
theorem dL_law_757 : decode cL_law 757 = .ok (.iadd, 1) := by decide +kernel
theorem dL_law_758 : decode cL_law 758 = .ok (.iaload, 1) := by decide +kernel
theorem dL_law_759 : decode cL_law 759 = .ok (.invokevirtual 97, 3) := by decide +kernel
theorem dL_law_762 : decode cL_law 762 = .ok (.if_icmp .eq 484, 3) := by decide +kernel
theorem dL_law_767 : decode cL_law 767 = .ok (.aload_n 1, 1) := by decide +kernel
theorem dL_law_768 : decode cL_law 768 = .ok (.aload_n 0, 1) := by decide +kernel
theorem dL_law_769 : decode cL_law 769 = .ok (.iload 4, 2) := by decide +kernel
theorem dL_law_771 : decode cL_law 771 = .ok (.iconst 1, 1) := by decide +kernel
theorem dL_law_772 : decode cL_law 772 = .ok (.iadd, 1) := by decide +kernel
theorem dL_law_773 : decode cL_law 773 = .ok (.iaload, 1) := by decide +kernel
theorem dL_law_774 : decode cL_law 774 = .ok (.aload_n 0, 1) := by decide +kernel
theorem dL_law_775 : decode cL_law 775 = .ok (.iload 4, 2) := by decide +kernel
theorem dL_law_777 : decode cL_law 777 = .ok (.iconst 2, 1) := by decide +kernel
theorem dL_law_778 : decode cL_law 778 = .ok (.iadd, 1) := by decide +kernel
theorem dL_law_779 : decode cL_law 779 = .ok (.iaload, 1) := by decide +kernel
theorem dL_law_780 : decode cL_law 780 = .ok (.invokevirtual 98, 3) := by decide +kernel
theorem dL_law_783 : decode cL_law 783 = .ok (.aload_n 2, 1) := by decide +kernel
theorem dL_law_784 : decode cL_law 784 = .ok (.aload_n 0, 1) := by decide +kernel
theorem dL_law_785 : decode cL_law 785 = .ok (.iload 4, 2) := by decide +kernel
theorem dL_law_787 : decode cL_law 787 = .ok (.iconst 1, 1) := by decide +kernel
theorem dL_law_788 : decode cL_law 788 = .ok (.iadd, 1) := by decide +kernel
theorem dL_law_789 : decode cL_law 789 = .ok (.iaload, 1) := by decide +kernel
theorem dL_law_790 : decode cL_law 790 = .ok (.aload_n 0, 1) := by decide +kernel
theorem dL_law_791 : decode cL_law 791 = .ok (.iload 4, 2) := by decide +kernel
theorem dL_law_793 : decode cL_law 793 = .ok (.iconst 2, 1) := by decide +kernel
theorem dL_law_794 : decode cL_law 794 = .ok (.iadd, 1) := by decide +kernel
theorem dL_law_795 : decode cL_law 795 = .ok (.iaload, 1) := by decide +kernel
theorem dL_law_796 : decode cL_law 796 = .ok (.invokevirtual 101, 3) := by decide +kernel
theorem dL_law_799 : decode cL_law 799 = .ok (.if_icmp .eq 447, 3) := by decide +kernel
theorem dL_law_804 : decode cL_law 804 = .ok (.aload_n 1, 1) := by decide +kernel
theorem dL_law_805 : decode cL_law 805 = .ok (.aload_n 0, 1) := by decide +kernel
theorem dL_law_806 : decode cL_law 806 = .ok (.iload 4, 2) := by decide +kernel
theorem dL_law_808 : decode cL_law 808 = .ok (.iconst 1, 1) := by decide +kernel
theorem dL_law_809 : decode cL_law 809 = .ok (.iadd, 1) := by decide +kernel
theorem dL_law_810 : decode cL_law 810 = .ok (.iaload, 1) := by decide +kernel
theorem dL_law_811 : decode cL_law 811 = .ok (.invokevirtual 102, 3) := by decide +kernel
theorem dL_law_814 : decode cL_law 814 = .ok (.aload_n 2, 1) := by decide +kernel
theorem dL_law_815 : decode cL_law 815 = .ok (.aload_n 0, 1) := by decide +kernel
theorem dL_law_816 : decode cL_law 816 = .ok (.iload 4, 2) := by decide +kernel
theorem dL_law_818 : decode cL_law 818 = .ok (.iconst 1, 1) := by decide +kernel
theorem dL_law_819 : decode cL_law 819 = .ok (.iadd, 1) := by decide +kernel
theorem dL_law_820 : decode cL_law 820 = .ok (.iaload, 1) := by decide +kernel
theorem dL_law_821 : decode cL_law 821 = .ok (.invokevirtual 105, 3) := by decide +kernel
theorem dL_law_824 : decode cL_law 824 = .ok (.if_icmp .eq 422, 3) := by decide +kernel
theorem dL_law_829 : decode cL_law 829 = .ok (.aload_n 1, 1) := by decide +kernel
theorem dL_law_830 : decode cL_law 830 = .ok (.aload_n 0, 1) := by decide +kernel
theorem dL_law_831 : decode cL_law 831 = .ok (.iload 4, 2) := by decide +kernel
theorem dL_law_833 : decode cL_law 833 = .ok (.iconst 1, 1) := by decide +kernel
theorem dL_law_834 : decode cL_law 834 = .ok (.iadd, 1) := by decide +kernel
theorem dL_law_835 : decode cL_law 835 = .ok (.iaload, 1) := by decide +kernel
theorem dL_law_836 : decode cL_law 836 = .ok (.invokevirtual 106, 3) := by decide +kernel
theorem dL_law_839 : decode cL_law 839 = .ok (.aload_n 2, 1) := by decide +kernel
theorem dL_law_840 : decode cL_law 840 = .ok (.aload_n 0, 1) := by decide +kernel
theorem dL_law_841 : decode cL_law 841 = .ok (.iload 4, 2) := by decide +kernel
theorem dL_law_843 : decode cL_law 843 = .ok (.iconst 1, 1) := by decide +kernel
theorem dL_law_844 : decode cL_law 844 = .ok (.iadd, 1) := by decide +kernel
theorem dL_law_845 : decode cL_law 845 = .ok (.iaload, 1) := by decide +kernel
theorem dL_law_846 : decode cL_law 846 = .ok (.invokevirtual 109, 3) := by decide +kernel
theorem dL_law_849 : decode cL_law 849 = .ok (.if_icmp .eq 397, 3) := by decide +kernel
theorem dL_law_854 : decode cL_law 854 = .ok (.aload_n 1, 1) := by decide +kernel
theorem dL_law_855 : decode cL_law 855 = .ok (.aload_n 0, 1) := by decide +kernel
theorem dL_law_856 : decode cL_law 856 = .ok (.iload 4, 2) := by decide +kernel
theorem dL_law_858 : decode cL_law 858 = .ok (.iconst 1, 1) := by decide +kernel
theorem dL_law_859 : decode cL_law 859 = .ok (.iadd, 1) := by decide +kernel
theorem dL_law_860 : decode cL_law 860 = .ok (.iaload, 1) := by decide +kernel
theorem dL_law_861 : decode cL_law 861 = .ok (.aload_n 0, 1) := by decide +kernel
theorem dL_law_862 : decode cL_law 862 = .ok (.iload 4, 2) := by decide +kernel
theorem dL_law_864 : decode cL_law 864 = .ok (.iconst 2, 1) := by decide +kernel
theorem dL_law_865 : decode cL_law 865 = .ok (.iadd, 1) := by decide +kernel
theorem dL_law_866 : decode cL_law 866 = .ok (.iaload, 1) := by decide +kernel
theorem dL_law_867 : decode cL_law 867 = .ok (.invokevirtual 110, 3) := by decide +kernel
theorem dL_law_870 : decode cL_law 870 = .ok (.aload_n 2, 1) := by decide +kernel
theorem dL_law_871 : decode cL_law 871 = .ok (.aload_n 0, 1) := by decide +kernel
theorem dL_law_872 : decode cL_law 872 = .ok (.iload 4, 2) := by decide +kernel
theorem dL_law_874 : decode cL_law 874 = .ok (.iconst 1, 1) := by decide +kernel
theorem dL_law_875 : decode cL_law 875 = .ok (.iadd, 1) := by decide +kernel
theorem dL_law_876 : decode cL_law 876 = .ok (.iaload, 1) := by decide +kernel
theorem dL_law_877 : decode cL_law 877 = .ok (.aload_n 0, 1) := by decide +kernel
theorem dL_law_878 : decode cL_law 878 = .ok (.iload 4, 2) := by decide +kernel
theorem dL_law_880 : decode cL_law 880 = .ok (.iconst 2, 1) := by decide +kernel
theorem dL_law_881 : decode cL_law 881 = .ok (.iadd, 1) := by decide +kernel
theorem dL_law_882 : decode cL_law 882 = .ok (.iaload, 1) := by decide +kernel
theorem dL_law_883 : decode cL_law 883 = .ok (.invokevirtual 113, 3) := by decide +kernel
theorem dL_law_886 : decode cL_law 886 = .ok (.if_icmp .eq 360, 3) := by decide +kernel
theorem dL_law_891 : decode cL_law 891 = .ok (.aload_n 1, 1) := by decide +kernel
theorem dL_law_892 : decode cL_law 892 = .ok (.aload_n 0, 1) := by decide +kernel
theorem dL_law_893 : decode cL_law 893 = .ok (.iload 4, 2) := by decide +kernel
theorem dL_law_895 : decode cL_law 895 = .ok (.iconst 1, 1) := by decide +kernel
theorem dL_law_896 : decode cL_law 896 = .ok (.iadd, 1) := by decide +kernel
theorem dL_law_897 : decode cL_law 897 = .ok (.iaload, 1) := by decide +kernel
theorem dL_law_898 : decode cL_law 898 = .ok (.aload_n 0, 1) := by decide +kernel
theorem dL_law_899 : decode cL_law 899 = .ok (.iload 4, 2) := by decide +kernel
theorem dL_law_901 : decode cL_law 901 = .ok (.iconst 2, 1) := by decide +kernel
theorem dL_law_902 : decode cL_law 902 = .ok (.iadd, 1) := by decide +kernel
theorem dL_law_903 : decode cL_law 903 = .ok (.iaload, 1) := by decide +kernel
theorem dL_law_904 : decode cL_law 904 = .ok (.invokevirtual 114, 3) := by decide +kernel
theorem dL_law_907 : decode cL_law 907 = .ok (.aload_n 2, 1) := by decide +kernel
theorem dL_law_908 : decode cL_law 908 = .ok (.aload_n 0, 1) := by decide +kernel
theorem dL_law_909 : decode cL_law 909 = .ok (.iload 4, 2) := by decide +kernel
theorem dL_law_911 : decode cL_law 911 = .ok (.iconst 1, 1) := by decide +kernel
theorem dL_law_912 : decode cL_law 912 = .ok (.iadd, 1) := by decide +kernel
theorem dL_law_913 : decode cL_law 913 = .ok (.iaload, 1) := by decide +kernel
theorem dL_law_914 : decode cL_law 914 = .ok (.aload_n 0, 1) := by decide +kernel
theorem dL_law_915 : decode cL_law 915 = .ok (.iload 4, 2) := by decide +kernel
theorem dL_law_917 : decode cL_law 917 = .ok (.iconst 2, 1) := by decide +kernel
theorem dL_law_918 : decode cL_law 918 = .ok (.iadd, 1) := by decide +kernel
theorem dL_law_919 : decode cL_law 919 = .ok (.iaload, 1) := by decide +kernel
theorem dL_law_920 : decode cL_law 920 = .ok (.invokevirtual 117, 3) := by decide +kernel
theorem dL_law_923 : decode cL_law 923 = .ok (.if_icmp .eq 323, 3) := by decide +kernel
theorem dL_law_928 : decode cL_law 928 = .ok (.aload_n 1, 1) := by decide +kernel
theorem dL_law_929 : decode cL_law 929 = .ok (.aload_n 0, 1) := by decide +kernel
theorem dL_law_930 : decode cL_law 930 = .ok (.iload 4, 2) := by decide +kernel
theorem dL_law_932 : decode cL_law 932 = .ok (.iconst 1, 1) := by decide +kernel
theorem dL_law_933 : decode cL_law 933 = .ok (.iadd, 1) := by decide +kernel
theorem dL_law_934 : decode cL_law 934 = .ok (.iaload, 1) := by decide +kernel
theorem dL_law_935 : decode cL_law 935 = .ok (.aload_n 0, 1) := by decide +kernel
theorem dL_law_936 : decode cL_law 936 = .ok (.iload 4, 2) := by decide +kernel
theorem dL_law_938 : decode cL_law 938 = .ok (.iconst 2, 1) := by decide +kernel
theorem dL_law_939 : decode cL_law 939 = .ok (.iadd, 1) := by decide +kernel
theorem dL_law_940 : decode cL_law 940 = .ok (.iaload, 1) := by decide +kernel
theorem dL_law_941 : decode cL_law 941 = .ok (.aload_n 0, 1) := by decide +kernel
theorem dL_law_942 : decode cL_law 942 = .ok (.iload 4, 2) := by decide +kernel
theorem dL_law_944 : decode cL_law 944 = .ok (.iconst 3, 1) := by decide +kernel
theorem dL_law_945 : decode cL_law 945 = .ok (.iadd, 1) := by decide +kernel
theorem dL_law_946 : decode cL_law 946 = .ok (.iaload, 1) := by decide +kernel
theorem dL_law_947 : decode cL_law 947 = .ok (.invokevirtual 118, 3) := by decide +kernel
theorem dL_law_950 : decode cL_law 950 = .ok (.aload_n 2, 1) := by decide +kernel
theorem dL_law_951 : decode cL_law 951 = .ok (.aload_n 0, 1) := by decide +kernel
theorem dL_law_952 : decode cL_law 952 = .ok (.iload 4, 2) := by decide +kernel
theorem dL_law_954 : decode cL_law 954 = .ok (.iconst 1, 1) := by decide +kernel
theorem dL_law_955 : decode cL_law 955 = .ok (.iadd, 1) := by decide +kernel
theorem dL_law_956 : decode cL_law 956 = .ok (.iaload, 1) := by decide +kernel
theorem dL_law_957 : decode cL_law 957 = .ok (.aload_n 0, 1) := by decide +kernel
theorem dL_law_958 : decode cL_law 958 = .ok (.iload 4, 2) := by decide +kernel
theorem dL_law_960 : decode cL_law 960 = .ok (.iconst 2, 1) := by decide +kernel
theorem dL_law_961 : decode cL_law 961 = .ok (.iadd, 1) := by decide +kernel
theorem dL_law_962 : decode cL_law 962 = .ok (.iaload, 1) := by decide +kernel
theorem dL_law_963 : decode cL_law 963 = .ok (.aload_n 0, 1) := by decide +kernel
theorem dL_law_964 : decode cL_law 964 = .ok (.iload 4, 2) := by decide +kernel
theorem dL_law_966 : decode cL_law 966 = .ok (.iconst 3, 1) := by decide +kernel
theorem dL_law_967 : decode cL_law 967 = .ok (.iadd, 1) := by decide +kernel
theorem dL_law_968 : decode cL_law 968 = .ok (.iaload, 1) := by decide +kernel
theorem dL_law_969 : decode cL_law 969 = .ok (.invokevirtual 122, 3) := by decide +kernel
theorem dL_law_972 : decode cL_law 972 = .ok (.if_icmp .eq 274, 3) := by decide +kernel
theorem dL_law_977 : decode cL_law 977 = .ok (.aload_n 1, 1) := by decide +kernel
theorem dL_law_978 : decode cL_law 978 = .ok (.aload_n 0, 1) := by decide +kernel
theorem dL_law_979 : decode cL_law 979 = .ok (.iload 4, 2) := by decide +kernel
theorem dL_law_981 : decode cL_law 981 = .ok (.iconst 1, 1) := by decide +kernel
theorem dL_law_982 : decode cL_law 982 = .ok (.iadd, 1) := by decide +kernel
theorem dL_law_983 : decode cL_law 983 = .ok (.iaload, 1) := by decide +kernel
theorem dL_law_984 : decode cL_law 984 = .ok (.invokevirtual 123, 3) := by decide +kernel
theorem dL_law_987 : decode cL_law 987 = .ok (.aload_n 2, 1) := by decide +kernel
theorem dL_law_988 : decode cL_law 988 = .ok (.aload_n 0, 1) := by decide +kernel
theorem dL_law_989 : decode cL_law 989 = .ok (.iload 4, 2) := by decide +kernel
theorem dL_law_991 : decode cL_law 991 = .ok (.iconst 1, 1) := by decide +kernel
theorem dL_law_992 : decode cL_law 992 = .ok (.iadd, 1) := by decide +kernel
theorem dL_law_993 : decode cL_law 993 = .ok (.iaload, 1) := by decide +kernel
theorem dL_law_994 : decode cL_law 994 = .ok (.invokevirtual 126, 3) := by decide +kernel
theorem dL_law_997 : decode cL_law 997 = .ok (.if_icmp .eq 249, 3) := by decide +kernel
theorem dL_law_1002 : decode cL_law 1002 = .ok (.aload_n 1, 1) := by decide +kernel
theorem dL_law_1003 : decode cL_law 1003 = .ok (.aload_n 0, 1) := by decide +kernel
theorem dL_law_1004 : decode cL_law 1004 = .ok (.iload 4, 2) := by decide +kernel
theorem dL_law_1006 : decode cL_law 1006 = .ok (.iconst 1, 1) := by decide +kernel
theorem dL_law_1007 : decode cL_law 1007 = .ok (.iadd, 1) := by decide +kernel
theorem dL_law_1008 : decode cL_law 1008 = .ok (.iaload, 1) := by decide +kernel
theorem dL_law_1009 : decode cL_law 1009 = .ok (.invokevirtual 127, 3) := by decide +kernel
theorem dL_law_1012 : decode cL_law 1012 = .ok (.aload_n 2, 1) := by decide +kernel
theorem dL_law_1013 : decode cL_law 1013 = .ok (.aload_n 0, 1) := by decide +kernel
theorem dL_law_1014 : decode cL_law 1014 = .ok (.iload 4, 2) := by decide +kernel
theorem dL_law_1016 : decode cL_law 1016 = .ok (.iconst 1, 1) := by decide +kernel
theorem dL_law_1017 : decode cL_law 1017 = .ok (.iadd, 1) := by decide +kernel
theorem dL_law_1018 : decode cL_law 1018 = .ok (.iaload, 1) := by decide +kernel
theorem dL_law_1019 : decode cL_law 1019 = .ok (.invokevirtual 130, 3) := by decide +kernel
theorem dL_law_1022 : decode cL_law 1022 = .ok (.if_icmp .eq 224, 3) := by decide +kernel
theorem dL_law_1027 : decode cL_law 1027 = .ok (.aload_n 1, 1) := by decide +kernel
theorem dL_law_1028 : decode cL_law 1028 = .ok (.aload_n 0, 1) := by decide +kernel
theorem dL_law_1029 : decode cL_law 1029 = .ok (.iload 4, 2) := by decide +kernel
theorem dL_law_1031 : decode cL_law 1031 = .ok (.iconst 1, 1) := by decide +kernel
theorem dL_law_1032 : decode cL_law 1032 = .ok (.iadd, 1) := by decide +kernel
theorem dL_law_1033 : decode cL_law 1033 = .ok (.iaload, 1) := by decide +kernel
theorem dL_law_1034 : decode cL_law 1034 = .ok (.invokevirtual 131, 3) := by decide +kernel
theorem dL_law_1037 : decode cL_law 1037 = .ok (.aload_n 2, 1) := by decide +kernel
theorem dL_law_1038 : decode cL_law 1038 = .ok (.aload_n 0, 1) := by decide +kernel
theorem dL_law_1039 : decode cL_law 1039 = .ok (.iload 4, 2) := by decide +kernel
theorem dL_law_1041 : decode cL_law 1041 = .ok (.iconst 1, 1) := by decide +kernel
theorem dL_law_1042 : decode cL_law 1042 = .ok (.iadd, 1) := by decide +kernel
theorem dL_law_1043 : decode cL_law 1043 = .ok (.iaload, 1) := by decide +kernel
theorem dL_law_1044 : decode cL_law 1044 = .ok (.invokevirtual 134, 3) := by decide +kernel
theorem dL_law_1047 : decode cL_law 1047 = .ok (.if_icmp .eq 199, 3) := by decide +kernel
theorem dL_law_1052 : decode cL_law 1052 = .ok (.aload_n 1, 1) := by decide +kernel
theorem dL_law_1053 : decode cL_law 1053 = .ok (.aload_n 0, 1) := by decide +kernel
theorem dL_law_1054 : decode cL_law 1054 = .ok (.iload 4, 2) := by decide +kernel
theorem dL_law_1056 : decode cL_law 1056 = .ok (.iconst 1, 1) := by decide +kernel
theorem dL_law_1057 : decode cL_law 1057 = .ok (.iadd, 1) := by decide +kernel
theorem dL_law_1058 : decode cL_law 1058 = .ok (.iaload, 1) := by decide +kernel
theorem dL_law_1059 : decode cL_law 1059 = .ok (.aload_n 0, 1) := by decide +kernel
theorem dL_law_1060 : decode cL_law 1060 = .ok (.iload 4, 2) := by decide +kernel
theorem dL_law_1062 : decode cL_law 1062 = .ok (.iconst 2, 1) := by decide +kernel
theorem dL_law_1063 : decode cL_law 1063 = .ok (.iadd, 1) := by decide +kernel
theorem dL_law_1064 : decode cL_law 1064 = .ok (.iaload, 1) := by decide +kernel
theorem dL_law_1065 : decode cL_law 1065 = .ok (.invokevirtual 135, 3) := by decide +kernel
theorem dL_law_1068 : decode cL_law 1068 = .ok (.aload_n 2, 1) := by decide +kernel
theorem dL_law_1069 : decode cL_law 1069 = .ok (.aload_n 0, 1) := by decide +kernel
theorem dL_law_1070 : decode cL_law 1070 = .ok (.iload 4, 2) := by decide +kernel
theorem dL_law_1072 : decode cL_law 1072 = .ok (.iconst 1, 1) := by decide +kernel
theorem dL_law_1073 : decode cL_law 1073 = .ok (.iadd, 1) := by decide +kernel
theorem dL_law_1074 : decode cL_law 1074 = .ok (.iaload, 1) := by decide +kernel
theorem dL_law_1075 : decode cL_law 1075 = .ok (.aload_n 0, 1) := by decide +kernel
theorem dL_law_1076 : decode cL_law 1076 = .ok (.iload 4, 2) := by decide +kernel
theorem dL_law_1078 : decode cL_law 1078 = .ok (.iconst 2, 1) := by decide +kernel
theorem dL_law_1079 : decode cL_law 1079 = .ok (.iadd, 1) := by decide +kernel
theorem dL_law_1080 : decode cL_law 1080 = .ok (.iaload, 1) := by decide +kernel
theorem dL_law_1081 : decode cL_law 1081 = .ok (.invokevirtual 138, 3) := by decide +kernel
theorem dL_law_1084 : decode cL_law 1084 = .ok (.if_icmp .eq 162, 3) := by decide +kernel
theorem dL_law_1089 : decode cL_law 1089 = .ok (.aload_n 1, 1) := by decide +kernel
theorem dL_law_1090 : decode cL_law 1090 = .ok (.aload_n 0, 1) := by decide +kernel
theorem dL_law_1091 : decode cL_law 1091 = .ok (.iload 4, 2) := by decide +kernel
theorem dL_law_1093 : decode cL_law 1093 = .ok (.iconst 1, 1) := by decide +kernel
theorem dL_law_1094 : decode cL_law 1094 = .ok (.iadd, 1) := by decide +kernel
theorem dL_law_1095 : decode cL_law 1095 = .ok (.iaload, 1) := by decide +kernel
theorem dL_law_1096 : decode cL_law 1096 = .ok (.invokevirtual 139, 3) := by decide +kernel
theorem dL_law_1099 : decode cL_law 1099 = .ok (.aload_n 2, 1) := by decide +kernel
theorem dL_law_1100 : decode cL_law 1100 = .ok (.aload_n 0, 1) := by decide +kernel
theorem dL_law_1101 : decode cL_law 1101 = .ok (.iload 4, 2) := by decide +kernel
theorem dL_law_1103 : decode cL_law 1103 = .ok (.iconst 1, 1) := by decide +kernel
theorem dL_law_1104 : decode cL_law 1104 = .ok (.iadd, 1) := by decide +kernel
theorem dL_law_1105 : decode cL_law 1105 = .ok (.iaload, 1) := by decide +kernel
theorem dL_law_1106 : decode cL_law 1106 = .ok (.invokevirtual 142, 3) := by decide +kernel
theorem dL_law_1109 : decode cL_law 1109 = .ok (.if_icmp .eq 137, 3) := by decide +kernel
theorem dL_law_1114 : decode cL_law 1114 = .ok (.aload_n 1, 1) := by decide +kernel
theorem dL_law_1115 : decode cL_law 1115 = .ok (.aload_n 0, 1) := by decide +kernel
theorem dL_law_1116 : decode cL_law 1116 = .ok (.iload 4, 2) := by decide +kernel
theorem dL_law_1118 : decode cL_law 1118 = .ok (.iconst 1, 1) := by decide +kernel
theorem dL_law_1119 : decode cL_law 1119 = .ok (.iadd, 1) := by decide +kernel
theorem dL_law_1120 : decode cL_law 1120 = .ok (.iaload, 1) := by decide +kernel
theorem dL_law_1121 : decode cL_law 1121 = .ok (.invokevirtual 143, 3) := by decide +kernel
theorem dL_law_1124 : decode cL_law 1124 = .ok (.aload_n 2, 1) := by decide +kernel
theorem dL_law_1125 : decode cL_law 1125 = .ok (.aload_n 0, 1) := by decide +kernel
theorem dL_law_1126 : decode cL_law 1126 = .ok (.iload 4, 2) := by decide +kernel
theorem dL_law_1128 : decode cL_law 1128 = .ok (.iconst 1, 1) := by decide +kernel
theorem dL_law_1129 : decode cL_law 1129 = .ok (.iadd, 1) := by decide +kernel
theorem dL_law_1130 : decode cL_law 1130 = .ok (.iaload, 1) := by decide +kernel
theorem dL_law_1131 : decode cL_law 1131 = .ok (.invokevirtual 146, 3) := by decide +kernel
theorem dL_law_1134 : decode cL_law 1134 = .ok (.if_icmp .eq 112, 3) := by decide +kernel
theorem dL_law_1139 : decode cL_law 1139 = .ok (.aload_n 1, 1) := by decide +kernel
theorem dL_law_1140 : decode cL_law 1140 = .ok (.aload_n 0, 1) := by decide +kernel
theorem dL_law_1141 : decode cL_law 1141 = .ok (.iload 4, 2) := by decide +kernel
theorem dL_law_1143 : decode cL_law 1143 = .ok (.iconst 1, 1) := by decide +kernel
theorem dL_law_1144 : decode cL_law 1144 = .ok (.iadd, 1) := by decide +kernel
theorem dL_law_1145 : decode cL_law 1145 = .ok (.iaload, 1) := by decide +kernel
theorem dL_law_1146 : decode cL_law 1146 = .ok (.invokevirtual 147, 3) := by decide +kernel
theorem dL_law_1149 : decode cL_law 1149 = .ok (.aload_n 2, 1) := by decide +kernel
theorem dL_law_1150 : decode cL_law 1150 = .ok (.aload_n 0, 1) := by decide +kernel
theorem dL_law_1151 : decode cL_law 1151 = .ok (.iload 4, 2) := by decide +kernel
theorem dL_law_1153 : decode cL_law 1153 = .ok (.iconst 1, 1) := by decide +kernel
theorem dL_law_1154 : decode cL_law 1154 = .ok (.iadd, 1) := by decide +kernel
theorem dL_law_1155 : decode cL_law 1155 = .ok (.iaload, 1) := by decide +kernel
theorem dL_law_1156 : decode cL_law 1156 = .ok (.invokevirtual 150, 3) := by decide +kernel
theorem dL_law_1159 : decode cL_law 1159 = .ok (.if_icmp .eq 87, 3) := by decide +kernel
theorem dL_law_1164 : decode cL_law 1164 = .ok (.aload_n 1, 1) := by decide +kernel
theorem dL_law_1165 : decode cL_law 1165 = .ok (.aload_n 0, 1) := by decide +kernel
theorem dL_law_1166 : decode cL_law 1166 = .ok (.iload 4, 2) := by decide +kernel
theorem dL_law_1168 : decode cL_law 1168 = .ok (.iconst 1, 1) := by decide +kernel
theorem dL_law_1169 : decode cL_law 1169 = .ok (.iadd, 1) := by decide +kernel
theorem dL_law_1170 : decode cL_law 1170 = .ok (.iaload, 1) := by decide +kernel
theorem dL_law_1171 : decode cL_law 1171 = .ok (.aload_n 3, 1) := by decide +kernel
theorem dL_law_1172 : decode cL_law 1172 = .ok (.invokestatic 151, 3) := by decide +kernel
theorem dL_law_1175 : decode cL_law 1175 = .ok (.istore 5, 2) := by decide +kernel
theorem dL_law_1177 : decode cL_law 1177 = .ok (.aload_n 2, 1) := by decide +kernel
theorem dL_law_1178 : decode cL_law 1178 = .ok (.aload_n 0, 1) := by decide +kernel
theorem dL_law_1179 : decode cL_law 1179 = .ok (.iload 4, 2) := by decide +kernel
theorem dL_law_1181 : decode cL_law 1181 = .ok (.iconst 1, 1) := by decide +kernel
theorem dL_law_1182 : decode cL_law 1182 = .ok (.iadd, 1) := by decide +kernel
theorem dL_law_1183 : decode cL_law 1183 = .ok (.iaload, 1) := by decide +kernel
theorem dL_law_1184 : decode cL_law 1184 = .ok (.invokevirtual 156, 3) := by decide +kernel
theorem dL_law_1187 : decode cL_law 1187 = .ok (.istore 6, 2) := by decide +kernel
theorem dL_law_1189 : decode cL_law 1189 = .ok (.aload_n 2, 1) := by decide +kernel
theorem dL_law_1190 : decode cL_law 1190 = .ok (.invokevirtual 157, 3) := by decide +kernel
theorem dL_law_1193 : decode cL_law 1193 = .ok (.iload 5, 2) := by decide +kernel
theorem dL_law_1195 : decode cL_law 1195 = .ok (.if_icmp .eq 5, 3) := by decide +kernel
theorem dL_law_1200 : decode cL_law 1200 = .ok (.iload 5, 2) := by decide +kernel
theorem dL_law_1202 : decode cL_law 1202 = .ok (.ifCond .ne 15, 3) := by decide +kernel
theorem dL_law_1217 : decode cL_law 1217 = .ok (.goto 29, 3) := by decide +kernel
theorem dL_law_1220 : decode cL_law 1220 = .ok (.aload_n 1, 1) := by decide +kernel
theorem dL_law_1221 : decode cL_law 1221 = .ok (.invokevirtual 160, 3) := by decide +kernel
theorem dL_law_1224 : decode cL_law 1224 = .ok (.aload_n 2, 1) := by decide +kernel
theorem dL_law_1225 : decode cL_law 1225 = .ok (.invokevirtual 163, 3) := by decide +kernel
theorem dL_law_1228 : decode cL_law 1228 = .ok (.if_icmp .eq 18, 3) := by decide +kernel
theorem dL_law_1233 : decode cL_law 1233 = .ok (.aload_n 1, 1) := by decide +kernel
theorem dL_law_1234 : decode cL_law 1234 = .ok (.invokevirtual 164, 3) := by decide +kernel
theorem dL_law_1237 : decode cL_law 1237 = .ok (.aload_n 2, 1) := by decide +kernel
theorem dL_law_1238 : decode cL_law 1238 = .ok (.invokevirtual 167, 3) := by decide +kernel
theorem dL_law_1241 : decode cL_law 1241 = .ok (.if_icmp .eq 5, 3) := by decide +kernel
theorem dL_law_1246 : decode cL_law 1246 = .ok (.iinc 4 6, 3) := by decide +kernel
theorem dL_law_1249 : decode cL_law 1249 = .ok (.goto (-1226), 3) := by decide +kernel
theorem dL_law_1252 : decode cL_law 1252 = .ok (.iconst 1, 1) := by decide +kernel
theorem dL_law_1253 : decode cL_law 1253 = .ok (.ireturn, 1) := by decide +kernel
theorem dL_named_0 : decode cL_named 0 = .ok (.aload_n 2, 1) := by decide +kernel
theorem dL_named_1 : decode cL_named 1 = .ok (.iconst 0, 1) := by decide +kernel
theorem dL_named_2 : decode cL_named 2 = .ok (.aload_n 0, 1) := by decide +kernel
theorem dL_named_3 : decode cL_named 3 = .ok (.iload_n 1, 1) := by decide +kernel
theorem dL_named_4 : decode cL_named 4 = .ok (.invokevirtual 7, 3) := by decide +kernel
theorem dL_named_7 : decode cL_named 7 = .ok (.i2l, 1) := by decide +kernel
theorem dL_named_8 : decode cL_named 8 = .ok (.lastore, 1) := by decide +kernel
theorem dL_named_9 : decode cL_named 9 = .ok (.goto 6, 3) := by decide +kernel
theorem dL_named_12 : decode cL_named 12 = .ok (.astore_n 3, 1) := by decide +kernel
theorem dL_named_13 : decode cL_named 13 = .ok (.iconst 1, 1) := by decide +kernel
theorem dL_named_14 : decode cL_named 14 = .ok (.ireturn, 1) := by decide +kernel
theorem dL_named_15 : decode cL_named 15 = .ok (.iconst 0, 1) := by decide +kernel
theorem dL_named_16 : decode cL_named 16 = .ok (.ireturn, 1) := by decide +kernel
theorem dX0_clear_0 : decode cX0_clear 0 = .ok (.aload_n 0, 1) := by decide +kernel
theorem dX0_clear_1 : decode cX0_clear 1 = .ok (.iconst 3, 1) := by decide +kernel
theorem dX0_clear_2 : decode cX0_clear 2 = .ok (.putfield 58, 3) := by decide +kernel
theorem dX0_clear_5 : decode cX0_clear 5 = .ok (.aload_n 0, 1) := by decide +kernel
theorem dX0_clear_6 : decode cX0_clear 6 = .ok (.invokevirtual 91, 3) := by decide +kernel
theorem dX0_clear_9 : decode cX0_clear 9 = .ok (.return_, 1) := by decide +kernel
theorem dX0_cut_0 : decode cX0_cut 0 = .ok (.aload_n 0, 1) := by decide +kernel
theorem dX0_cut_1 : decode cX0_cut 1 = .ok (.invokevirtual 88, 3) := by decide +kernel
theorem dX0_cut_4 : decode cX0_cut 4 = .ok (.aload_n 0, 1) := by decide +kernel
theorem dX0_cut_5 : decode cX0_cut 5 = .ok (.aload_n 0, 1) := by decide +kernel
theorem dX0_cut_6 : decode cX0_cut 6 = .ok (.getfield 58, 3) := by decide +kernel
theorem dX0_cut_9 : decode cX0_cut 9 = .ok (.putfield 62, 3) := by decide +kernel
theorem dX0_cut_12 : decode cX0_cut 12 = .ok (.return_, 1) := by decide +kernel
theorem dX0_init_0 : decode cX0_init 0 = .ok (.aload_n 0, 1) := by decide +kernel
theorem dX0_init_1 : decode cX0_init 1 = .ok (.invokespecial 3, 3) := by decide +kernel
theorem dX0_init_4 : decode cX0_init 4 = .ok (.aload_n 0, 1) := by decide +kernel
theorem dX0_init_5 : decode cX0_init 5 = .ok (.sipush 512, 3) := by decide +kernel
theorem dX0_init_8 : decode cX0_init 8 = .ok (.newarray .int, 2) := by decide +kernel
theorem dX0_init_10 : decode cX0_init 10 = .ok (.putfield 11, 3) := by decide +kernel
theorem dX0_init_13 : decode cX0_init 13 = .ok (.aload_n 0, 1) := by decide +kernel
theorem dX0_init_14 : decode cX0_init 14 = .ok (.sipush 512, 3) := by decide +kernel
theorem dX0_init_17 : decode cX0_init 17 = .ok (.newarray .int, 2) := by decide +kernel
theorem dX0_init_19 : decode cX0_init 19 = .ok (.putfield 15, 3) := by decide +kernel
theorem dX0_init_22 : decode cX0_init 22 = .ok (.aload_n 0, 1) := by decide +kernel
theorem dX0_init_23 : decode cX0_init 23 = .ok (.sipush 512, 3) := by decide +kernel
theorem dX0_init_26 : decode cX0_init 26 = .ok (.newarray .int, 2) := by decide +kernel
theorem dX0_init_28 : decode cX0_init 28 = .ok (.putfield 18, 3) := by decide +kernel
theorem dX0_init_31 : decode cX0_init 31 = .ok (.aload_n 0, 1) := by decide +kernel
theorem dX0_init_32 : decode cX0_init 32 = .ok (.sipush 512, 3) := by decide +kernel
theorem dX0_init_35 : decode cX0_init 35 = .ok (.newarray .int, 2) := by decide +kernel
theorem dX0_init_37 : decode cX0_init 37 = .ok (.putfield 21, 3) := by decide +kernel
theorem dX0_init_40 : decode cX0_init 40 = .ok (.aload_n 0, 1) := by decide +kernel
theorem dX0_init_41 : decode cX0_init 41 = .ok (.sipush 512, 3) := by decide +kernel
theorem dX0_init_44 : decode cX0_init 44 = .ok (.newarray .int, 2) := by decide +kernel
theorem dX0_init_46 : decode cX0_init 46 = .ok (.putfield 24, 3) := by decide +kernel
theorem dX0_init_49 : decode cX0_init 49 = .ok (.aload_n 0, 1) := by decide +kernel
theorem dX0_init_50 : decode cX0_init 50 = .ok (.sipush 512, 3) := by decide +kernel
theorem dX0_init_53 : decode cX0_init 53 = .ok (.newarray .int, 2) := by decide +kernel
theorem dX0_init_55 : decode cX0_init 55 = .ok (.putfield 27, 3) := by decide +kernel
theorem dX0_init_58 : decode cX0_init 58 = .ok (.aload_n 0, 1) := by decide +kernel
theorem dX0_init_59 : decode cX0_init 59 = .ok (.sipush 512, 3) := by decide +kernel
theorem dX0_init_62 : decode cX0_init 62 = .ok (.newarray .int, 2) := by decide +kernel
theorem dX0_init_64 : decode cX0_init 64 = .ok (.putfield 30, 3) := by decide +kernel
theorem dX0_init_67 : decode cX0_init 67 = .ok (.aload_n 0, 1) := by decide +kernel
theorem dX0_init_68 : decode cX0_init 68 = .ok (.sipush 512, 3) := by decide +kernel
theorem dX0_init_71 : decode cX0_init 71 = .ok (.newarray .int, 2) := by decide +kernel
theorem dX0_init_73 : decode cX0_init 73 = .ok (.putfield 33, 3) := by decide +kernel
theorem dX0_init_76 : decode cX0_init 76 = .ok (.aload_n 0, 1) := by decide +kernel
theorem dX0_init_77 : decode cX0_init 77 = .ok (.sipush 512, 3) := by decide +kernel
theorem dX0_init_80 : decode cX0_init 80 = .ok (.newarray .int, 2) := by decide +kernel
theorem dX0_init_82 : decode cX0_init 82 = .ok (.putfield 36, 3) := by decide +kernel
theorem dX0_init_85 : decode cX0_init 85 = .ok (.aload_n 0, 1) := by decide +kernel
theorem dX0_init_86 : decode cX0_init 86 = .ok (.sipush 512, 3) := by decide +kernel
theorem dX0_init_89 : decode cX0_init 89 = .ok (.newarray .int, 2) := by decide +kernel
theorem dX0_init_91 : decode cX0_init 91 = .ok (.putfield 39, 3) := by decide +kernel
theorem dX0_init_94 : decode cX0_init 94 = .ok (.aload_n 0, 1) := by decide +kernel
theorem dX0_init_95 : decode cX0_init 95 = .ok (.sipush 512, 3) := by decide +kernel
theorem dX0_init_98 : decode cX0_init 98 = .ok (.newarray .int, 2) := by decide +kernel
theorem dX0_init_100 : decode cX0_init 100 = .ok (.putfield 42, 3) := by decide +kernel
theorem dX0_init_103 : decode cX0_init 103 = .ok (.aload_n 0, 1) := by decide +kernel
theorem dX0_init_104 : decode cX0_init 104 = .ok (.sipush 512, 3) := by decide +kernel
theorem dX0_init_107 : decode cX0_init 107 = .ok (.newarray .int, 2) := by decide +kernel
theorem dX0_init_109 : decode cX0_init 109 = .ok (.putfield 45, 3) := by decide +kernel
theorem dX0_init_112 : decode cX0_init 112 = .ok (.aload_n 0, 1) := by decide +kernel
theorem dX0_init_113 : decode cX0_init 113 = .ok (.getfield 45, 3) := by decide +kernel
theorem dX0_init_116 : decode cX0_init 116 = .ok (.iconst (-1), 1) := by decide +kernel
theorem dX0_init_117 : decode cX0_init 117 = .ok (.invokestatic 48, 3) := by decide +kernel
theorem dX0_init_120 : decode cX0_init 120 = .ok (.aload_n 0, 1) := by decide +kernel
theorem dX0_init_121 : decode cX0_init 121 = .ok (.iconst 0, 1) := by decide +kernel
theorem dX0_init_122 : decode cX0_init 122 = .ok (.iconst 0, 1) := by decide +kernel
theorem dX0_init_123 : decode cX0_init 123 = .ok (.iconst 0, 1) := by decide +kernel
theorem dX0_init_124 : decode cX0_init 124 = .ok (.iconst 0, 1) := by decide +kernel
theorem dX0_init_125 : decode cX0_init 125 = .ok (.invokevirtual 54, 3) := by decide +kernel
theorem dX0_init_128 : decode cX0_init 128 = .ok (.pop, 1) := by decide +kernel
theorem dX0_init_129 : decode cX0_init 129 = .ok (.aload_n 0, 1) := by decide +kernel
theorem dX0_init_130 : decode cX0_init 130 = .ok (.iconst 1, 1) := by decide +kernel
theorem dX0_init_131 : decode cX0_init 131 = .ok (.iconst 0, 1) := by decide +kernel
theorem dX0_init_132 : decode cX0_init 132 = .ok (.bipush 111, 2) := by decide +kernel
theorem dX0_init_134 : decode cX0_init 134 = .ok (.iconst 0, 1) := by decide +kernel
theorem dX0_init_135 : decode cX0_init 135 = .ok (.invokevirtual 54, 3) := by decide +kernel
theorem dX0_init_138 : decode cX0_init 138 = .ok (.pop, 1) := by decide +kernel
theorem dX0_init_139 : decode cX0_init 139 = .ok (.aload_n 0, 1) := by decide +kernel
theorem dX0_init_140 : decode cX0_init 140 = .ok (.iconst 1, 1) := by decide +kernel
theorem dX0_init_141 : decode cX0_init 141 = .ok (.iconst 0, 1) := by decide +kernel
theorem dX0_init_142 : decode cX0_init 142 = .ok (.bipush 105, 2) := by decide +kernel
theorem dX0_init_144 : decode cX0_init 144 = .ok (.iconst 0, 1) := by decide +kernel
theorem dX0_init_145 : decode cX0_init 145 = .ok (.invokevirtual 54, 3) := by decide +kernel
theorem dX0_init_148 : decode cX0_init 148 = .ok (.pop, 1) := by decide +kernel
theorem dX0_init_149 : decode cX0_init 149 = .ok (.aload_n 0, 1) := by decide +kernel
theorem dX0_init_150 : decode cX0_init 150 = .ok (.iconst 3, 1) := by decide +kernel
theorem dX0_init_151 : decode cX0_init 151 = .ok (.putfield 58, 3) := by decide +kernel
theorem dX0_init_154 : decode cX0_init 154 = .ok (.return_, 1) := by decide +kernel
theorem dX0_link_0 : decode cX0_link 0 = .ok (.aload_n 0, 1) := by decide +kernel
theorem dX0_link_1 : decode cX0_link 1 = .ok (.getfield 36, 3) := by decide +kernel
theorem dX0_link_4 : decode cX0_link 4 = .ok (.iload_n 1, 1) := by decide +kernel
theorem dX0_link_5 : decode cX0_link 5 = .ok (.iaload, 1) := by decide +kernel
theorem dX0_link_6 : decode cX0_link 6 = .ok (.aload_n 0, 1) := by decide +kernel
theorem dX0_link_7 : decode cX0_link 7 = .ok (.getfield 45, 3) := by decide +kernel
theorem dX0_link_10 : decode cX0_link 10 = .ok (.arraylength, 1) := by decide +kernel
theorem dX0_link_11 : decode cX0_link 11 = .ok (.iconst 1, 1) := by decide +kernel
theorem dX0_link_12 : decode cX0_link 12 = .ok (.isub, 1) := by decide +kernel
theorem dX0_link_13 : decode cX0_link 13 = .ok (.iand, 1) := by decide +kernel
theorem dX0_link_14 : decode cX0_link 14 = .ok (.istore_n 2, 1) := by decide +kernel
theorem dX0_link_15 : decode cX0_link 15 = .ok (.aload_n 0, 1) := by decide +kernel
theorem dX0_link_16 : decode cX0_link 16 = .ok (.getfield 39, 3) := by decide +kernel
theorem dX0_link_19 : decode cX0_link 19 = .ok (.iload_n 1, 1) := by decide +kernel
theorem dX0_link_20 : decode cX0_link 20 = .ok (.aload_n 0, 1) := by decide +kernel
theorem dX0_link_21 : decode cX0_link 21 = .ok (.getfield 45, 3) := by decide +kernel
theorem dX0_link_24 : decode cX0_link 24 = .ok (.iload_n 2, 1) := by decide +kernel
theorem dX0_link_25 : decode cX0_link 25 = .ok (.iaload, 1) := by decide +kernel
theorem dX0_link_26 : decode cX0_link 26 = .ok (.iastore, 1) := by decide +kernel
theorem dX0_link_27 : decode cX0_link 27 = .ok (.aload_n 0, 1) := by decide +kernel
theorem dX0_link_28 : decode cX0_link 28 = .ok (.getfield 45, 3) := by decide +kernel
theorem dX0_link_31 : decode cX0_link 31 = .ok (.iload_n 2, 1) := by decide +kernel
theorem dX0_link_32 : decode cX0_link 32 = .ok (.iload_n 1, 1) := by decide +kernel
theorem dX0_link_33 : decode cX0_link 33 = .ok (.iastore, 1) := by decide +kernel
theorem dX0_link_34 : decode cX0_link 34 = .ok (.return_, 1) := by decide +kernel
theorem dX0_mark_0 : decode cX0_mark 0 = .ok (.aload_n 0, 1) := by decide +kernel
theorem dX0_mark_1 : decode cX0_mark 1 = .ok (.aload_n 0, 1) := by decide +kernel
theorem dX0_mark_2 : decode cX0_mark 2 = .ok (.getfield 62, 3) := by decide +kernel
theorem dX0_mark_5 : decode cX0_mark 5 = .ok (.putfield 58, 3) := by decide +kernel
theorem dX0_mark_8 : decode cX0_mark 8 = .ok (.return_, 1) := by decide +kernel
theorem dX0_measure_0 : decode cX0_measure 0 = .ok (.aload_n 0, 1) := by decide +kernel
theorem dX0_measure_1 : decode cX0_measure 1 = .ok (.getfield 18, 3) := by decide +kernel
theorem dX0_measure_4 : decode cX0_measure 4 = .ok (.iload_n 1, 1) := by decide +kernel
theorem dX0_measure_5 : decode cX0_measure 5 = .ok (.iaload, 1) := by decide +kernel
theorem dX0_measure_6 : decode cX0_measure 6 = .ok (.istore_n 2, 1) := by decide +kernel
theorem dX0_measure_7 : decode cX0_measure 7 = .ok (.aload_n 0, 1) := by decide +kernel
theorem dX0_measure_8 : decode cX0_measure 8 = .ok (.getfield 15, 3) := by decide +kernel
theorem dX0_measure_11 : decode cX0_measure 11 = .ok (.iload_n 1, 1) := by decide +kernel
theorem dX0_measure_12 : decode cX0_measure 12 = .ok (.iaload, 1) := by decide +kernel
theorem dX0_measure_13 : decode cX0_measure 13 = .ok (.ifCond .lt 22, 3) := by decide +kernel
theorem dX0_measure_16 : decode cX0_measure 16 = .ok (.aload_n 0, 1) := by decide +kernel
theorem dX0_measure_17 : decode cX0_measure 17 = .ok (.getfield 15, 3) := by decide +kernel
theorem dX0_measure_20 : decode cX0_measure 20 = .ok (.iload_n 1, 1) := by decide +kernel
theorem dX0_measure_21 : decode cX0_measure 21 = .ok (.iaload, 1) := by decide +kernel
theorem dX0_measure_22 : decode cX0_measure 22 = .ok (.iload_n 1, 1) := by decide +kernel
theorem dX0_measure_23 : decode cX0_measure 23 = .ok (.if_icmp .ge 12, 3) := by decide +kernel
theorem dX0_measure_26 : decode cX0_measure 26 = .ok (.aload_n 0, 1) := by decide +kernel
theorem dX0_measure_27 : decode cX0_measure 27 = .ok (.getfield 15, 3) := by decide +kernel
theorem dX0_measure_30 : decode cX0_measure 30 = .ok (.iload_n 1, 1) := by decide +kernel
theorem dX0_measure_31 : decode cX0_measure 31 = .ok (.iaload, 1) := by decide +kernel
theorem dX0_measure_32 : decode cX0_measure 32 = .ok (.goto 4, 3) := by decide +kernel
theorem dX0_measure_35 : decode cX0_measure 35 = .ok (.iconst 0, 1) := by decide +kernel
theorem dX0_measure_36 : decode cX0_measure 36 = .ok (.istore_n 3, 1) := by decide +kernel
theorem dX0_measure_37 : decode cX0_measure 37 = .ok (.iload_n 2, 1) := by decide +kernel
theorem dX0_measure_38 : decode cX0_measure 38 = .ok (.ifCond .lt 12, 3) := by decide +kernel
theorem dX0_measure_41 : decode cX0_measure 41 = .ok (.iload_n 2, 1) := by decide +kernel
theorem dX0_measure_42 : decode cX0_measure 42 = .ok (.iload_n 1, 1) := by decide +kernel
theorem dX0_measure_43 : decode cX0_measure 43 = .ok (.if_icmp .ge 7, 3) := by decide +kernel
theorem dX0_measure_50 : decode cX0_measure 50 = .ok (.iconst 0, 1) := by decide +kernel
theorem dX0_measure_51 : decode cX0_measure 51 = .ok (.istore 4, 2) := by decide +kernel
theorem dX0_measure_53 : decode cX0_measure 53 = .ok (.aload_n 0, 1) := by decide +kernel
theorem dX0_measure_54 : decode cX0_measure 54 = .ok (.getfield 11, 3) := by decide +kernel
theorem dX0_measure_57 : decode cX0_measure 57 = .ok (.iload_n 1, 1) := by decide +kernel
theorem dX0_measure_58 : decode cX0_measure 58 = .ok (.iaload, 1) := by decide +kernel
theorem dX0_measure_59 : decode cX0_measure 59 = .ok (.bipush 7, 2) := by decide +kernel
theorem dX0_measure_61 : decode cX0_measure 61 = .ok (.if_icmp .lt 7, 3) := by decide +kernel
theorem dX0_measure_68 : decode cX0_measure 68 = .ok (.iconst 0, 1) := by decide +kernel
theorem dX0_measure_69 : decode cX0_measure 69 = .ok (.istore 5, 2) := by decide +kernel
theorem dX0_measure_71 : decode cX0_measure 71 = .ok (.aload_n 0, 1) := by decide +kernel
theorem dX0_measure_72 : decode cX0_measure 72 = .ok (.getfield 30, 3) := by decide +kernel
theorem dX0_measure_75 : decode cX0_measure 75 = .ok (.iload_n 1, 1) := by decide +kernel
theorem dX0_measure_76 : decode cX0_measure 76 = .ok (.iload 5, 2) := by decide +kernel
theorem dX0_measure_78 : decode cX0_measure 78 = .ok (.ifCond .eq 20, 3) := by decide +kernel
theorem dX0_measure_98 : decode cX0_measure 98 = .ok (.iconst 0, 1) := by decide +kernel
theorem dX0_measure_99 : decode cX0_measure 99 = .ok (.iastore, 1) := by decide +kernel
theorem dX0_measure_100 : decode cX0_measure 100 = .ok (.aload_n 0, 1) := by decide +kernel
theorem dX0_measure_101 : decode cX0_measure 101 = .ok (.getfield 33, 3) := by decide +kernel
theorem dX0_measure_104 : decode cX0_measure 104 = .ok (.iload_n 1, 1) := by decide +kernel
theorem dX0_measure_105 : decode cX0_measure 105 = .ok (.iload 5, 2) := by decide +kernel
theorem dX0_measure_107 : decode cX0_measure 107 = .ok (.ifCond .eq 20, 3) := by decide +kernel
theorem dX0_measure_127 : decode cX0_measure 127 = .ok (.iconst 0, 1) := by decide +kernel
theorem dX0_measure_128 : decode cX0_measure 128 = .ok (.iastore, 1) := by decide +kernel
theorem dX0_measure_129 : decode cX0_measure 129 = .ok (.aload_n 0, 1) := by decide +kernel
theorem dX0_measure_130 : decode cX0_measure 130 = .ok (.getfield 24, 3) := by decide +kernel
theorem dX0_measure_133 : decode cX0_measure 133 = .ok (.iload_n 1, 1) := by decide +kernel
theorem dX0_measure_134 : decode cX0_measure 134 = .ok (.iconst 1, 1) := by decide +kernel
theorem dX0_measure_135 : decode cX0_measure 135 = .ok (.iastore, 1) := by decide +kernel
theorem dX0_measure_136 : decode cX0_measure 136 = .ok (.aload_n 0, 1) := by decide +kernel
theorem dX0_measure_137 : decode cX0_measure 137 = .ok (.getfield 27, 3) := by decide +kernel
theorem dX0_measure_140 : decode cX0_measure 140 = .ok (.iload_n 1, 1) := by decide +kernel
theorem dX0_measure_141 : decode cX0_measure 141 = .ok (.iconst 0, 1) := by decide +kernel
theorem dX0_measure_142 : decode cX0_measure 142 = .ok (.iastore, 1) := by decide +kernel
theorem dX0_measure_143 : decode cX0_measure 143 = .ok (.aload_n 0, 1) := by decide +kernel
theorem dX0_measure_144 : decode cX0_measure 144 = .ok (.getfield 11, 3) := by decide +kernel
theorem dX0_measure_147 : decode cX0_measure 147 = .ok (.iload_n 1, 1) := by decide +kernel
theorem dX0_measure_148 : decode cX0_measure 148 = .ok (.iaload, 1) := by decide +kernel
theorem dX0_measure_149 : decode cX0_measure 149 = .ok (.tableswitch 251 0 10 #[59, 251, 69, 92, 109, 251, 121, 133, 180, 217, 235], 59) := by decide +kernel
theorem dX0_measure_208 : decode cX0_measure 208 = .ok (.aload_n 0, 1) := by decide +kernel
theorem dX0_measure_209 : decode cX0_measure 209 = .ok (.getfield 24, 3) := by decide +kernel
theorem dX0_measure_212 : decode cX0_measure 212 = .ok (.iload_n 1, 1) := by decide +kernel
theorem dX0_measure_213 : decode cX0_measure 213 = .ok (.iconst 0, 1) := by decide +kernel
theorem dX0_measure_214 : decode cX0_measure 214 = .ok (.iastore, 1) := by decide +kernel
theorem dX0_measure_215 : decode cX0_measure 215 = .ok (.goto 185, 3) := by decide +kernel
theorem dX0_measure_400 : decode cX0_measure 400 = .ok (.return_, 1) := by decide +kernel
theorem dX0_node_0 : decode cX0_node 0 = .ok (.iload_n 1, 1) := by decide +kernel
theorem dX0_node_1 : decode cX0_node 1 = .ok (.sipush 7919, 3) := by decide +kernel
theorem dX0_node_4 : decode cX0_node 4 = .ok (.imul, 1) := by decide +kernel
theorem dX0_node_5 : decode cX0_node 5 = .ok (.iload_n 2, 1) := by decide +kernel
theorem dX0_node_6 : decode cX0_node 6 = .ok (.iadd, 1) := by decide +kernel
theorem dX0_node_7 : decode cX0_node 7 = .ok (.sipush 31337, 3) := by decide +kernel
theorem dX0_node_10 : decode cX0_node 10 = .ok (.imul, 1) := by decide +kernel
theorem dX0_node_11 : decode cX0_node 11 = .ok (.iload_n 3, 1) := by decide +kernel
theorem dX0_node_12 : decode cX0_node 12 = .ok (.iadd, 1) := by decide +kernel
theorem dX0_node_13 : decode cX0_node 13 = .ok (.istore 5, 2) := by decide +kernel
theorem dX0_node_15 : decode cX0_node 15 = .ok (.iload 5, 2) := by decide +kernel
theorem dX0_node_17 : decode cX0_node 17 = .ok (.iload 5, 2) := by decide +kernel
theorem dX0_node_19 : decode cX0_node 19 = .ok (.bipush 15, 2) := by decide +kernel
theorem dX0_node_21 : decode cX0_node 21 = .ok (.iushr, 1) := by decide +kernel
theorem dX0_node_22 : decode cX0_node 22 = .ok (.ixor, 1) := by decide +kernel
theorem dX0_node_23 : decode cX0_node 23 = .ok (.istore 5, 2) := by decide +kernel
theorem dX0_node_25 : decode cX0_node 25 = .ok (.aload_n 0, 1) := by decide +kernel
theorem dX0_node_26 : decode cX0_node 26 = .ok (.getfield 45, 3) := by decide +kernel
theorem dX0_node_29 : decode cX0_node 29 = .ok (.iload 5, 2) := by decide +kernel
theorem dX0_node_31 : decode cX0_node 31 = .ok (.aload_n 0, 1) := by decide +kernel
theorem dX0_node_32 : decode cX0_node 32 = .ok (.getfield 45, 3) := by decide +kernel
theorem dX0_node_35 : decode cX0_node 35 = .ok (.arraylength, 1) := by decide +kernel
theorem dX0_node_36 : decode cX0_node 36 = .ok (.iconst 1, 1) := by decide +kernel
theorem dX0_node_37 : decode cX0_node 37 = .ok (.isub, 1) := by decide +kernel
theorem dX0_node_38 : decode cX0_node 38 = .ok (.iand, 1) := by decide +kernel
theorem dX0_node_39 : decode cX0_node 39 = .ok (.iaload, 1) := by decide +kernel
theorem dX0_node_40 : decode cX0_node 40 = .ok (.istore 6, 2) := by decide +kernel
theorem dX0_node_42 : decode cX0_node 42 = .ok (.iconst 0, 1) := by decide +kernel
theorem dX0_node_43 : decode cX0_node 43 = .ok (.istore 7, 2) := by decide +kernel
theorem dX0_node_45 : decode cX0_node 45 = .ok (.iload 7, 2) := by decide +kernel
theorem dX0_node_47 : decode cX0_node 47 = .ok (.aload_n 0, 1) := by decide +kernel
theorem dX0_node_48 : decode cX0_node 48 = .ok (.getfield 62, 3) := by decide +kernel
theorem dX0_node_51 : decode cX0_node 51 = .ok (.if_icmp .ge 68, 3) := by decide +kernel
theorem dX0_node_54 : decode cX0_node 54 = .ok (.iload 6, 2) := by decide +kernel
theorem dX0_node_56 : decode cX0_node 56 = .ok (.ifCond .lt 63, 3) := by decide +kernel
theorem dX0_node_119 : decode cX0_node 119 = .ok (.aload_n 0, 1) := by decide +kernel
theorem dX0_node_120 : decode cX0_node 120 = .ok (.getfield 62, 3) := by decide +kernel
theorem dX0_node_123 : decode cX0_node 123 = .ok (.aload_n 0, 1) := by decide +kernel
theorem dX0_node_124 : decode cX0_node 124 = .ok (.getfield 11, 3) := by decide +kernel
theorem dX0_node_127 : decode cX0_node 127 = .ok (.arraylength, 1) := by decide +kernel
theorem dX0_node_128 : decode cX0_node 128 = .ok (.if_icmp .lt 7, 3) := by decide +kernel
theorem dX0_node_135 : decode cX0_node 135 = .ok (.aload_n 0, 1) := by decide +kernel
theorem dX0_node_136 : decode cX0_node 136 = .ok (.getfield 62, 3) := by decide +kernel
theorem dX0_node_139 : decode cX0_node 139 = .ok (.istore 7, 2) := by decide +kernel
theorem dX0_node_141 : decode cX0_node 141 = .ok (.aload_n 0, 1) := by decide +kernel
theorem dX0_node_142 : decode cX0_node 142 = .ok (.dup, 1) := by decide +kernel
theorem dX0_node_143 : decode cX0_node 143 = .ok (.getfield 62, 3) := by decide +kernel
theorem dX0_node_146 : decode cX0_node 146 = .ok (.iconst 1, 1) := by decide +kernel
theorem dX0_node_147 : decode cX0_node 147 = .ok (.iadd, 1) := by decide +kernel
theorem dX0_node_148 : decode cX0_node 148 = .ok (.putfield 62, 3) := by decide +kernel
theorem dX0_node_151 : decode cX0_node 151 = .ok (.aload_n 0, 1) := by decide +kernel
theorem dX0_node_152 : decode cX0_node 152 = .ok (.getfield 11, 3) := by decide +kernel
theorem dX0_node_155 : decode cX0_node 155 = .ok (.iload 7, 2) := by decide +kernel
theorem dX0_node_157 : decode cX0_node 157 = .ok (.iload_n 1, 1) := by decide +kernel
theorem dX0_node_158 : decode cX0_node 158 = .ok (.iastore, 1) := by decide +kernel
theorem dX0_node_159 : decode cX0_node 159 = .ok (.aload_n 0, 1) := by decide +kernel
theorem dX0_node_160 : decode cX0_node 160 = .ok (.getfield 15, 3) := by decide +kernel
theorem dX0_node_163 : decode cX0_node 163 = .ok (.iload 7, 2) := by decide +kernel
theorem dX0_node_165 : decode cX0_node 165 = .ok (.iload_n 2, 1) := by decide +kernel
theorem dX0_node_166 : decode cX0_node 166 = .ok (.iastore, 1) := by decide +kernel
theorem dX0_node_167 : decode cX0_node 167 = .ok (.aload_n 0, 1) := by decide +kernel
theorem dX0_node_168 : decode cX0_node 168 = .ok (.getfield 18, 3) := by decide +kernel
theorem dX0_node_171 : decode cX0_node 171 = .ok (.iload 7, 2) := by decide +kernel
theorem dX0_node_173 : decode cX0_node 173 = .ok (.iload_n 3, 1) := by decide +kernel
theorem dX0_node_174 : decode cX0_node 174 = .ok (.iastore, 1) := by decide +kernel
theorem dX0_node_175 : decode cX0_node 175 = .ok (.aload_n 0, 1) := by decide +kernel
theorem dX0_node_176 : decode cX0_node 176 = .ok (.getfield 21, 3) := by decide +kernel
theorem dX0_node_179 : decode cX0_node 179 = .ok (.iload 7, 2) := by decide +kernel
theorem dX0_node_181 : decode cX0_node 181 = .ok (.iload 4, 2) := by decide +kernel
theorem dX0_node_183 : decode cX0_node 183 = .ok (.iastore, 1) := by decide +kernel
theorem dX0_node_184 : decode cX0_node 184 = .ok (.aload_n 0, 1) := by decide +kernel
theorem dX0_node_185 : decode cX0_node 185 = .ok (.getfield 36, 3) := by decide +kernel
theorem dX0_node_188 : decode cX0_node 188 = .ok (.iload 7, 2) := by decide +kernel
theorem dX0_node_190 : decode cX0_node 190 = .ok (.iload 5, 2) := by decide +kernel
theorem dX0_node_192 : decode cX0_node 192 = .ok (.iastore, 1) := by decide +kernel
theorem dX0_node_193 : decode cX0_node 193 = .ok (.aload_n 0, 1) := by decide +kernel
theorem dX0_node_194 : decode cX0_node 194 = .ok (.iload 7, 2) := by decide +kernel
theorem dX0_node_196 : decode cX0_node 196 = .ok (.invokevirtual 68, 3) := by decide +kernel
theorem dX0_node_199 : decode cX0_node 199 = .ok (.aload_n 0, 1) := by decide +kernel
theorem dX0_node_200 : decode cX0_node 200 = .ok (.iload 7, 2) := by decide +kernel
theorem dX0_node_202 : decode cX0_node 202 = .ok (.invokevirtual 72, 3) := by decide +kernel
theorem dX0_node_205 : decode cX0_node 205 = .ok (.iload 7, 2) := by decide +kernel
theorem dX0_node_207 : decode cX0_node 207 = .ok (.ireturn, 1) := by decide +kernel
theorem dX0_unlink_0 : decode cX0_unlink 0 = .ok (.aload_n 0, 1) := by decide +kernel
theorem dX0_unlink_1 : decode cX0_unlink 1 = .ok (.getfield 62, 3) := by decide +kernel
theorem dX0_unlink_4 : decode cX0_unlink 4 = .ok (.iconst 1, 1) := by decide +kernel
theorem dX0_unlink_5 : decode cX0_unlink 5 = .ok (.isub, 1) := by decide +kernel
theorem dX0_unlink_6 : decode cX0_unlink 6 = .ok (.istore_n 1, 1) := by decide +kernel
theorem dX0_unlink_7 : decode cX0_unlink 7 = .ok (.iload_n 1, 1) := by decide +kernel
theorem dX0_unlink_8 : decode cX0_unlink 8 = .ok (.aload_n 0, 1) := by decide +kernel
theorem dX0_unlink_9 : decode cX0_unlink 9 = .ok (.getfield 58, 3) := by decide +kernel
theorem dX0_unlink_12 : decode cX0_unlink 12 = .ok (.if_icmp .lt 34, 3) := by decide +kernel
theorem dX0_unlink_46 : decode cX0_unlink 46 = .ok (.return_, 1) := by decide +kernel
theorem dX10_byteAt_0 : decode cX10_byteAt 0 = .ok (.iload_n 1, 1) := by decide +kernel
theorem dX10_byteAt_1 : decode cX10_byteAt 1 = .ok (.ifCond .lt 20, 3) := by decide +kernel
theorem dX10_byteAt_4 : decode cX10_byteAt 4 = .ok (.iload_n 1, 1) := by decide +kernel
theorem dX10_byteAt_5 : decode cX10_byteAt 5 = .ok (.aload_n 0, 1) := by decide +kernel
theorem dX10_byteAt_6 : decode cX10_byteAt 6 = .ok (.getfield 23, 3) := by decide +kernel
theorem dX10_byteAt_9 : decode cX10_byteAt 9 = .ok (.if_icmp .ge 12, 3) := by decide +kernel
theorem dX10_byteAt_21 : decode cX10_byteAt 21 = .ok (.bipush (-2), 2) := by decide +kernel
theorem dX10_byteAt_23 : decode cX10_byteAt 23 = .ok (.ireturn, 1) := by decide +kernel
theorem dX10_init_0 : decode cX10_init 0 = .ok (.aload_n 0, 1) := by decide +kernel
theorem dX10_init_1 : decode cX10_init 1 = .ok (.invokespecial 3, 3) := by decide +kernel
theorem dX10_init_4 : decode cX10_init 4 = .ok (.aload_n 0, 1) := by decide +kernel
theorem dX10_init_5 : decode cX10_init 5 = .ok (.sipush 4608, 3) := by decide +kernel
theorem dX10_init_8 : decode cX10_init 8 = .ok (.newarray .int, 2) := by decide +kernel
theorem dX10_init_10 : decode cX10_init 10 = .ok (.putfield 11, 3) := by decide +kernel
theorem dX10_init_13 : decode cX10_init 13 = .ok (.aload_n 0, 1) := by decide +kernel
theorem dX10_init_14 : decode cX10_init 14 = .ok (.aload_n 1, 1) := by decide +kernel
theorem dX10_init_15 : decode cX10_init 15 = .ok (.putfield 15, 3) := by decide +kernel
theorem dX10_init_18 : decode cX10_init 18 = .ok (.aload_n 0, 1) := by decide +kernel
theorem dX10_init_19 : decode cX10_init 19 = .ok (.aload_n 2, 1) := by decide +kernel
theorem dX10_init_20 : decode cX10_init 20 = .ok (.putfield 19, 3) := by decide +kernel
theorem dX10_init_23 : decode cX10_init 23 = .ok (.return_, 1) := by decide +kernel
theorem dX11_about_0 : decode cX11_about 0 = .ok (.iload_n 1, 1) := by decide +kernel
theorem dX11_about_1 : decode cX11_about 1 = .ok (.tableswitch 111 0 5 #[39, 51, 63, 75, 87, 99], 39) := by decide +kernel
theorem dX11_about_40 : decode cX11_about 40 = .ok (.aload_n 0, 1) := by decide +kernel
theorem dX11_about_41 : decode cX11_about 41 = .ok (.aload_n 0, 1) := by decide +kernel
theorem dX11_about_42 : decode cX11_about 42 = .ok (.getfield 32, 3) := by decide +kernel
theorem dX11_about_45 : decode cX11_about 45 = .ok (.getfield 154, 3) := by decide +kernel
theorem dX11_about_48 : decode cX11_about 48 = .ok (.invokevirtual 137, 3) := by decide +kernel
theorem dX11_about_51 : decode cX11_about 51 = .ok (.ireturn, 1) := by decide +kernel
theorem dX11_about_52 : decode cX11_about 52 = .ok (.aload_n 0, 1) := by decide +kernel
theorem dX11_about_53 : decode cX11_about 53 = .ok (.aload_n 0, 1) := by decide +kernel
theorem dX11_about_54 : decode cX11_about 54 = .ok (.getfield 32, 3) := by decide +kernel
theorem dX11_about_57 : decode cX11_about 57 = .ok (.getfield 157, 3) := by decide +kernel
theorem dX11_about_60 : decode cX11_about 60 = .ok (.invokevirtual 137, 3) := by decide +kernel
theorem dX11_about_63 : decode cX11_about 63 = .ok (.ireturn, 1) := by decide +kernel
theorem dX11_about_64 : decode cX11_about 64 = .ok (.aload_n 0, 1) := by decide +kernel
theorem dX11_about_65 : decode cX11_about 65 = .ok (.aload_n 0, 1) := by decide +kernel
theorem dX11_about_66 : decode cX11_about 66 = .ok (.getfield 32, 3) := by decide +kernel
theorem dX11_about_69 : decode cX11_about 69 = .ok (.getfield 134, 3) := by decide +kernel
theorem dX11_about_72 : decode cX11_about 72 = .ok (.invokevirtual 137, 3) := by decide +kernel
theorem dX11_about_75 : decode cX11_about 75 = .ok (.ireturn, 1) := by decide +kernel
theorem dX11_about_76 : decode cX11_about 76 = .ok (.aload_n 0, 1) := by decide +kernel
theorem dX11_about_77 : decode cX11_about 77 = .ok (.aload_n 0, 1) := by decide +kernel
theorem dX11_about_78 : decode cX11_about 78 = .ok (.getfield 32, 3) := by decide +kernel
theorem dX11_about_81 : decode cX11_about 81 = .ok (.invokevirtual 160, 3) := by decide +kernel
theorem dX11_about_84 : decode cX11_about 84 = .ok (.invokevirtual 137, 3) := by decide +kernel
theorem dX11_about_87 : decode cX11_about 87 = .ok (.ireturn, 1) := by decide +kernel
theorem dX11_about_88 : decode cX11_about 88 = .ok (.aload_n 0, 1) := by decide +kernel
theorem dX11_about_89 : decode cX11_about 89 = .ok (.aload_n 0, 1) := by decide +kernel
theorem dX11_about_90 : decode cX11_about 90 = .ok (.getfield 50, 3) := by decide +kernel
theorem dX11_about_93 : decode cX11_about 93 = .ok (.invokevirtual 164, 3) := by decide +kernel
theorem dX11_about_96 : decode cX11_about 96 = .ok (.invokevirtual 137, 3) := by decide +kernel
theorem dX11_about_99 : decode cX11_about 99 = .ok (.ireturn, 1) := by decide +kernel
theorem dX11_about_100 : decode cX11_about 100 = .ok (.aload_n 0, 1) := by decide +kernel
theorem dX11_about_101 : decode cX11_about 101 = .ok (.aload_n 0, 1) := by decide +kernel
theorem dX11_about_102 : decode cX11_about 102 = .ok (.getfield 104, 3) := by decide +kernel
theorem dX11_about_105 : decode cX11_about 105 = .ok (.getfield 167, 3) := by decide +kernel
theorem dX11_about_108 : decode cX11_about 108 = .ok (.invokevirtual 137, 3) := by decide +kernel
theorem dX11_about_111 : decode cX11_about 111 = .ok (.ireturn, 1) := by decide +kernel
theorem dX11_about_112 : decode cX11_about 112 = .ok (.aload_n 0, 1) := by decide +kernel
theorem dX11_about_113 : decode cX11_about 113 = .ok (.iconst 1, 1) := by decide +kernel
theorem dX11_about_114 : decode cX11_about 114 = .ok (.invokevirtual 120, 3) := by decide +kernel
theorem dX11_about_117 : decode cX11_about 117 = .ok (.ireturn, 1) := by decide +kernel
theorem dX11_abs_0 : decode cX11_abs 0 = .ok (.aload_n 0, 1) := by decide +kernel
theorem dX11_abs_1 : decode cX11_abs 1 = .ok (.getfield 32, 3) := by decide +kernel
theorem dX11_abs_4 : decode cX11_abs 4 = .ok (.iload_n 1, 1) := by decide +kernel
theorem dX11_abs_5 : decode cX11_abs 5 = .ok (.invokevirtual 258, 3) := by decide +kernel
theorem dX11_abs_8 : decode cX11_abs 8 = .ok (.ifCond .ne 9, 3) := by decide +kernel
theorem dX11_abs_11 : decode cX11_abs 11 = .ok (.aload_n 0, 1) := by decide +kernel
theorem dX11_abs_12 : decode cX11_abs 12 = .ok (.iconst 1, 1) := by decide +kernel
theorem dX11_abs_13 : decode cX11_abs 13 = .ok (.invokevirtual 120, 3) := by decide +kernel
theorem dX11_abs_16 : decode cX11_abs 16 = .ok (.ireturn, 1) := by decide +kernel
theorem dX11_answered_0 : decode cX11_answered 0 = .ok (.aload_n 0, 1) := by decide +kernel
theorem dX11_answered_1 : decode cX11_answered 1 = .ok (.iconst 0, 1) := by decide +kernel
theorem dX11_answered_2 : decode cX11_answered 2 = .ok (.putfield 148, 3) := by decide +kernel
theorem dX11_answered_5 : decode cX11_answered 5 = .ok (.iload_n 1, 1) := by decide +kernel
theorem dX11_answered_6 : decode cX11_answered 6 = .ok (.ireturn, 1) := by decide +kernel
theorem dX11_assume_0 : decode cX11_assume 0 = .ok (.aload_n 0, 1) := by decide +kernel
theorem dX11_assume_1 : decode cX11_assume 1 = .ok (.iload_n 1, 1) := by decide +kernel
theorem dX11_assume_2 : decode cX11_assume 2 = .ok (.invokevirtual 204, 3) := by decide +kernel
theorem dX11_assume_5 : decode cX11_assume 5 = .ok (.istore_n 2, 1) := by decide +kernel
theorem dX11_assume_6 : decode cX11_assume 6 = .ok (.iload_n 2, 1) := by decide +kernel
theorem dX11_assume_7 : decode cX11_assume 7 = .ok (.ifCond .ge 7, 3) := by decide +kernel
theorem dX11_assume_10 : decode cX11_assume 10 = .ok (.iconst (-1), 1) := by decide +kernel
theorem dX11_assume_11 : decode cX11_assume 11 = .ok (.goto 16, 3) := by decide +kernel
theorem dX11_assume_27 : decode cX11_assume 27 = .ok (.ireturn, 1) := by decide +kernel
theorem dX11_begin_0 : decode cX11_begin 0 = .ok (.aload_n 0, 1) := by decide +kernel
theorem dX11_begin_1 : decode cX11_begin 1 = .ok (.getfield 16, 3) := by decide +kernel
theorem dX11_begin_4 : decode cX11_begin 4 = .ok (.invokevirtual 225, 3) := by decide +kernel
theorem dX11_begin_7 : decode cX11_begin 7 = .ok (.aload_n 0, 1) := by decide +kernel
theorem dX11_begin_8 : decode cX11_begin 8 = .ok (.getfield 32, 3) := by decide +kernel
theorem dX11_begin_11 : decode cX11_begin 11 = .ok (.invokevirtual 326, 3) := by decide +kernel
theorem dX11_begin_14 : decode cX11_begin 14 = .ok (.aload_n 0, 1) := by decide +kernel
theorem dX11_begin_15 : decode cX11_begin 15 = .ok (.getfield 50, 3) := by decide +kernel
theorem dX11_begin_18 : decode cX11_begin 18 = .ok (.invokevirtual 327, 3) := by decide +kernel
theorem dX11_begin_21 : decode cX11_begin 21 = .ok (.return_, 1) := by decide +kernel
theorem dX11_beta_0 : decode cX11_beta 0 = .ok (.aload_n 0, 1) := by decide +kernel
theorem dX11_beta_1 : decode cX11_beta 1 = .ok (.iload_n 1, 1) := by decide +kernel
theorem dX11_beta_2 : decode cX11_beta 2 = .ok (.invokevirtual 204, 3) := by decide +kernel
theorem dX11_beta_5 : decode cX11_beta 5 = .ok (.istore_n 2, 1) := by decide +kernel
theorem dX11_beta_6 : decode cX11_beta 6 = .ok (.iload_n 2, 1) := by decide +kernel
theorem dX11_beta_7 : decode cX11_beta 7 = .ok (.ifCond .ge 7, 3) := by decide +kernel
theorem dX11_beta_10 : decode cX11_beta 10 = .ok (.iconst (-1), 1) := by decide +kernel
theorem dX11_beta_11 : decode cX11_beta 11 = .ok (.goto 16, 3) := by decide +kernel
theorem dX11_beta_27 : decode cX11_beta 27 = .ok (.ireturn, 1) := by decide +kernel
theorem dX11_better_0 : decode cX11_better 0 = .ok (.aload_n 0, 1) := by decide +kernel
theorem dX11_better_1 : decode cX11_better 1 = .ok (.getfield 32, 3) := by decide +kernel
theorem dX11_better_4 : decode cX11_better 4 = .ok (.iload_n 1, 1) := by decide +kernel
theorem dX11_better_5 : decode cX11_better 5 = .ok (.invokevirtual 173, 3) := by decide +kernel
theorem dX11_better_8 : decode cX11_better 8 = .ok (.ifCond .ne 9, 3) := by decide +kernel
theorem dX11_better_11 : decode cX11_better 11 = .ok (.aload_n 0, 1) := by decide +kernel
theorem dX11_better_12 : decode cX11_better 12 = .ok (.iconst 1, 1) := by decide +kernel
theorem dX11_better_13 : decode cX11_better 13 = .ok (.invokevirtual 120, 3) := by decide +kernel
theorem dX11_better_16 : decode cX11_better 16 = .ok (.ireturn, 1) := by decide +kernel
theorem dX11_comb_0 : decode cX11_comb 0 = .ok (.aload_n 0, 1) := by decide +kernel
theorem dX11_comb_1 : decode cX11_comb 1 = .ok (.iload_n 1, 1) := by decide +kernel
theorem dX11_comb_2 : decode cX11_comb 2 = .ok (.iload_n 2, 1) := by decide +kernel
theorem dX11_comb_3 : decode cX11_comb 3 = .ok (.invokevirtual 249, 3) := by decide +kernel
theorem dX11_comb_6 : decode cX11_comb 6 = .ok (.ifCond .ne 5, 3) := by decide +kernel
theorem dX11_comb_9 : decode cX11_comb 9 = .ok (.iconst (-1), 1) := by decide +kernel
theorem dX11_comb_10 : decode cX11_comb 10 = .ok (.ireturn, 1) := by decide +kernel
theorem dX11_convert_0 : decode cX11_convert 0 = .ok (.aload_n 0, 1) := by decide +kernel
theorem dX11_convert_1 : decode cX11_convert 1 = .ok (.iload_n 1, 1) := by decide +kernel
theorem dX11_convert_2 : decode cX11_convert 2 = .ok (.invokevirtual 116, 3) := by decide +kernel
theorem dX11_convert_5 : decode cX11_convert 5 = .ok (.ifCond .ne 9, 3) := by decide +kernel
theorem dX11_convert_8 : decode cX11_convert 8 = .ok (.aload_n 0, 1) := by decide +kernel
theorem dX11_convert_9 : decode cX11_convert 9 = .ok (.iconst 2, 1) := by decide +kernel
theorem dX11_convert_10 : decode cX11_convert 10 = .ok (.invokevirtual 120, 3) := by decide +kernel
theorem dX11_convert_13 : decode cX11_convert 13 = .ok (.ireturn, 1) := by decide +kernel
theorem dX11_convert_14 : decode cX11_convert 14 = .ok (.aload_n 0, 1) := by decide +kernel
theorem dX11_convert_15 : decode cX11_convert 15 = .ok (.getfield 86, 3) := by decide +kernel
theorem dX11_convert_18 : decode cX11_convert 18 = .ok (.invokevirtual 289, 3) := by decide +kernel
theorem dX11_convert_21 : decode cX11_convert 21 = .ok (.istore_n 2, 1) := by decide +kernel
theorem dX11_convert_22 : decode cX11_convert 22 = .ok (.iconst (-1), 1) := by decide +kernel
theorem dX11_convert_23 : decode cX11_convert 23 = .ok (.istore_n 3, 1) := by decide +kernel
theorem dX11_convert_24 : decode cX11_convert 24 = .ok (.iload_n 2, 1) := by decide +kernel
theorem dX11_convert_25 : decode cX11_convert 25 = .ok (.ifCond .lt 31, 3) := by decide +kernel
theorem dX11_convert_56 : decode cX11_convert 56 = .ok (.aload_n 0, 1) := by decide +kernel
theorem dX11_convert_57 : decode cX11_convert 57 = .ok (.invokevirtual 127, 3) := by decide +kernel
theorem dX11_convert_60 : decode cX11_convert 60 = .ok (.ifCond .ne 5, 3) := by decide +kernel
theorem dX11_convert_63 : decode cX11_convert 63 = .ok (.iconst (-1), 1) := by decide +kernel
theorem dX11_convert_64 : decode cX11_convert 64 = .ok (.ireturn, 1) := by decide +kernel
theorem dX11_decide_0 : decode cX11_decide 0 = .ok (.aload_n 0, 1) := by decide +kernel
theorem dX11_decide_1 : decode cX11_decide 1 = .ok (.iload_n 1, 1) := by decide +kernel
theorem dX11_decide_2 : decode cX11_decide 2 = .ok (.invokevirtual 204, 3) := by decide +kernel
theorem dX11_decide_5 : decode cX11_decide 5 = .ok (.istore_n 2, 1) := by decide +kernel
theorem dX11_decide_6 : decode cX11_decide 6 = .ok (.iload_n 2, 1) := by decide +kernel
theorem dX11_decide_7 : decode cX11_decide 7 = .ok (.ifCond .ge 5, 3) := by decide +kernel
theorem dX11_decide_10 : decode cX11_decide 10 = .ok (.iconst (-1), 1) := by decide +kernel
theorem dX11_decide_11 : decode cX11_decide 11 = .ok (.ireturn, 1) := by decide +kernel
theorem dX11_deduct_0 : decode cX11_deduct 0 = .ok (.aload_n 0, 1) := by decide +kernel
theorem dX11_deduct_1 : decode cX11_deduct 1 = .ok (.iload_n 1, 1) := by decide +kernel
theorem dX11_deduct_2 : decode cX11_deduct 2 = .ok (.iload_n 2, 1) := by decide +kernel
theorem dX11_deduct_3 : decode cX11_deduct 3 = .ok (.invokevirtual 249, 3) := by decide +kernel
theorem dX11_deduct_6 : decode cX11_deduct 6 = .ok (.ifCond .ne 5, 3) := by decide +kernel
theorem dX11_deduct_9 : decode cX11_deduct 9 = .ok (.iconst (-1), 1) := by decide +kernel
theorem dX11_deduct_10 : decode cX11_deduct 10 = .ok (.ireturn, 1) := by decide +kernel
theorem dX11_eqmp_0 : decode cX11_eqmp 0 = .ok (.aload_n 0, 1) := by decide +kernel
theorem dX11_eqmp_1 : decode cX11_eqmp 1 = .ok (.iload_n 1, 1) := by decide +kernel
theorem dX11_eqmp_2 : decode cX11_eqmp 2 = .ok (.iload_n 2, 1) := by decide +kernel
theorem dX11_eqmp_3 : decode cX11_eqmp 3 = .ok (.invokevirtual 249, 3) := by decide +kernel
theorem dX11_eqmp_6 : decode cX11_eqmp 6 = .ok (.ifCond .ne 5, 3) := by decide +kernel
theorem dX11_eqmp_9 : decode cX11_eqmp 9 = .ok (.iconst (-1), 1) := by decide +kernel
theorem dX11_eqmp_10 : decode cX11_eqmp 10 = .ok (.ireturn, 1) := by decide +kernel
theorem dX11_eta_0 : decode cX11_eta 0 = .ok (.aload_n 0, 1) := by decide +kernel
theorem dX11_eta_1 : decode cX11_eta 1 = .ok (.iload_n 1, 1) := by decide +kernel
theorem dX11_eta_2 : decode cX11_eta 2 = .ok (.invokevirtual 204, 3) := by decide +kernel
theorem dX11_eta_5 : decode cX11_eta 5 = .ok (.istore_n 2, 1) := by decide +kernel
theorem dX11_eta_6 : decode cX11_eta 6 = .ok (.iload_n 2, 1) := by decide +kernel
theorem dX11_eta_7 : decode cX11_eta 7 = .ok (.ifCond .ge 7, 3) := by decide +kernel
theorem dX11_eta_10 : decode cX11_eta 10 = .ok (.iconst (-1), 1) := by decide +kernel
theorem dX11_eta_11 : decode cX11_eta 11 = .ok (.goto 17, 3) := by decide +kernel
theorem dX11_eta_28 : decode cX11_eta 28 = .ok (.ireturn, 1) := by decide +kernel
theorem dX11_fault_0 : decode cX11_fault 0 = .ok (.aload_n 0, 1) := by decide +kernel
theorem dX11_fault_1 : decode cX11_fault 1 = .ok (.getfield 145, 3) := by decide +kernel
theorem dX11_fault_4 : decode cX11_fault 4 = .ok (.ireturn, 1) := by decide +kernel
theorem dX11_feed_0 : decode cX11_feed 0 = .ok (.aload_n 0, 1) := by decide +kernel
theorem dX11_feed_1 : decode cX11_feed 1 = .ok (.getfield 108, 3) := by decide +kernel
theorem dX11_feed_4 : decode cX11_feed 4 = .ok (.bipush 20, 2) := by decide +kernel
theorem dX11_feed_6 : decode cX11_feed 6 = .ok (.iadd, 1) := by decide +kernel
theorem dX11_feed_7 : decode cX11_feed 7 = .ok (.sipush 400, 3) := by decide +kernel
theorem dX11_feed_10 : decode cX11_feed 10 = .ok (.if_icmp .le 5, 3) := by decide +kernel
theorem dX11_feed_15 : decode cX11_feed 15 = .ok (.aload_n 0, 1) := by decide +kernel
theorem dX11_feed_16 : decode cX11_feed 16 = .ok (.iload_n 1, 1) := by decide +kernel
theorem dX11_feed_17 : decode cX11_feed 17 = .ok (.invokevirtual 112, 3) := by decide +kernel
theorem dX11_feed_20 : decode cX11_feed 20 = .ok (.aload_n 0, 1) := by decide +kernel
theorem dX11_feed_21 : decode cX11_feed 21 = .ok (.iload_n 2, 1) := by decide +kernel
theorem dX11_feed_22 : decode cX11_feed 22 = .ok (.invokevirtual 112, 3) := by decide +kernel
theorem dX11_feed_25 : decode cX11_feed 25 = .ok (.aload_n 0, 1) := by decide +kernel
theorem dX11_feed_26 : decode cX11_feed 26 = .ok (.iload_n 3, 1) := by decide +kernel
theorem dX11_feed_27 : decode cX11_feed 27 = .ok (.invokevirtual 112, 3) := by decide +kernel
theorem dX11_feed_30 : decode cX11_feed 30 = .ok (.aload_n 0, 1) := by decide +kernel
theorem dX11_feed_31 : decode cX11_feed 31 = .ok (.iload 4, 2) := by decide +kernel
theorem dX11_feed_33 : decode cX11_feed 33 = .ok (.invokevirtual 112, 3) := by decide +kernel
theorem dX11_feed_36 : decode cX11_feed 36 = .ok (.aload_n 0, 1) := by decide +kernel
theorem dX11_feed_37 : decode cX11_feed 37 = .ok (.iload 5, 2) := by decide +kernel
theorem dX11_feed_39 : decode cX11_feed 39 = .ok (.invokevirtual 112, 3) := by decide +kernel
theorem dX11_feed_42 : decode cX11_feed 42 = .ok (.aload_n 0, 1) := by decide +kernel
theorem dX11_feed_43 : decode cX11_feed 43 = .ok (.getfield 108, 3) := by decide +kernel
theorem dX11_feed_46 : decode cX11_feed 46 = .ok (.ireturn, 1) := by decide +kernel
theorem dX11_fresh_0 : decode cX11_fresh 0 = .ok (.aload_n 0, 1) := by decide +kernel
theorem dX11_fresh_1 : decode cX11_fresh 1 = .ok (.getfield 32, 3) := by decide +kernel
theorem dX11_fresh_4 : decode cX11_fresh 4 = .ok (.getfield 134, 3) := by decide +kernel
theorem dX11_fresh_7 : decode cX11_fresh 7 = .ok (.istore_n 1, 1) := by decide +kernel
theorem dX11_fresh_8 : decode cX11_fresh 8 = .ok (.aload_n 0, 1) := by decide +kernel
theorem dX11_fresh_9 : decode cX11_fresh 9 = .ok (.getfield 32, 3) := by decide +kernel
theorem dX11_fresh_12 : decode cX11_fresh 12 = .ok (.invokevirtual 140, 3) := by decide +kernel
theorem dX11_fresh_15 : decode cX11_fresh 15 = .ok (.aload_n 0, 1) := by decide +kernel
theorem dX11_fresh_16 : decode cX11_fresh 16 = .ok (.getfield 50, 3) := by decide +kernel
theorem dX11_fresh_19 : decode cX11_fresh 19 = .ok (.invokevirtual 143, 3) := by decide +kernel
theorem dX11_fresh_22 : decode cX11_fresh 22 = .ok (.aload_n 0, 1) := by decide +kernel
theorem dX11_fresh_23 : decode cX11_fresh 23 = .ok (.getfield 16, 3) := by decide +kernel
theorem dX11_fresh_26 : decode cX11_fresh 26 = .ok (.invokevirtual 144, 3) := by decide +kernel
theorem dX11_fresh_29 : decode cX11_fresh 29 = .ok (.iload_n 1, 1) := by decide +kernel
theorem dX11_fresh_30 : decode cX11_fresh 30 = .ok (.ireturn, 1) := by decide +kernel
theorem dX11_init_0 : decode cX11_init 0 = .ok (.aload_n 0, 1) := by decide +kernel
theorem dX11_init_1 : decode cX11_init 1 = .ok (.invokespecial 1, 3) := by decide +kernel
theorem dX11_init_4 : decode cX11_init 4 = .ok (.aload_n 0, 1) := by decide +kernel
theorem dX11_init_5 : decode cX11_init 5 = .ok (.sipush 400, 3) := by decide +kernel
theorem dX11_init_8 : decode cX11_init 8 = .ok (.newarray .int, 2) := by decide +kernel
theorem dX11_init_10 : decode cX11_init 10 = .ok (.putfield 9, 3) := by decide +kernel
theorem dX11_init_13 : decode cX11_init 13 = .ok (.aload_n 0, 1) := by decide +kernel
theorem dX11_init_14 : decode cX11_init 14 = .ok (.new 13, 3) := by decide +kernel
theorem dX11_init_17 : decode cX11_init 17 = .ok (.dup, 1) := by decide +kernel
theorem dX11_init_18 : decode cX11_init 18 = .ok (.invokespecial 15, 3) := by decide +kernel
theorem dX11_init_21 : decode cX11_init 21 = .ok (.putfield 16, 3) := by decide +kernel
theorem dX11_init_24 : decode cX11_init 24 = .ok (.aload_n 0, 1) := by decide +kernel
theorem dX11_init_25 : decode cX11_init 25 = .ok (.new 20, 3) := by decide +kernel
theorem dX11_init_28 : decode cX11_init 28 = .ok (.dup, 1) := by decide +kernel
theorem dX11_init_29 : decode cX11_init 29 = .ok (.aload_n 0, 1) := by decide +kernel
theorem dX11_init_30 : decode cX11_init 30 = .ok (.getfield 16, 3) := by decide +kernel
theorem dX11_init_33 : decode cX11_init 33 = .ok (.invokespecial 22, 3) := by decide +kernel
theorem dX11_init_36 : decode cX11_init 36 = .ok (.putfield 25, 3) := by decide +kernel
theorem dX11_init_39 : decode cX11_init 39 = .ok (.aload_n 0, 1) := by decide +kernel
theorem dX11_init_40 : decode cX11_init 40 = .ok (.new 29, 3) := by decide +kernel
theorem dX11_init_43 : decode cX11_init 43 = .ok (.dup, 1) := by decide +kernel
theorem dX11_init_44 : decode cX11_init 44 = .ok (.aload_n 0, 1) := by decide +kernel
theorem dX11_init_45 : decode cX11_init 45 = .ok (.getfield 16, 3) := by decide +kernel
theorem dX11_init_48 : decode cX11_init 48 = .ok (.invokespecial 31, 3) := by decide +kernel
theorem dX11_init_51 : decode cX11_init 51 = .ok (.putfield 32, 3) := by decide +kernel
theorem dX11_init_54 : decode cX11_init 54 = .ok (.aload_n 0, 1) := by decide +kernel
theorem dX11_init_55 : decode cX11_init 55 = .ok (.new 36, 3) := by decide +kernel
theorem dX11_init_58 : decode cX11_init 58 = .ok (.dup, 1) := by decide +kernel
theorem dX11_init_59 : decode cX11_init 59 = .ok (.aload_n 0, 1) := by decide +kernel
theorem dX11_init_60 : decode cX11_init 60 = .ok (.getfield 16, 3) := by decide +kernel
theorem dX11_init_63 : decode cX11_init 63 = .ok (.aload_n 0, 1) := by decide +kernel
theorem dX11_init_64 : decode cX11_init 64 = .ok (.getfield 25, 3) := by decide +kernel
theorem dX11_init_67 : decode cX11_init 67 = .ok (.aload_n 0, 1) := by decide +kernel
theorem dX11_init_68 : decode cX11_init 68 = .ok (.getfield 32, 3) := by decide +kernel
theorem dX11_init_71 : decode cX11_init 71 = .ok (.invokespecial 38, 3) := by decide +kernel
theorem dX11_init_74 : decode cX11_init 74 = .ok (.putfield 41, 3) := by decide +kernel
theorem dX11_init_77 : decode cX11_init 77 = .ok (.aload_n 0, 1) := by decide +kernel
theorem dX11_init_78 : decode cX11_init 78 = .ok (.new 45, 3) := by decide +kernel
theorem dX11_init_81 : decode cX11_init 81 = .ok (.dup, 1) := by decide +kernel
theorem dX11_init_82 : decode cX11_init 82 = .ok (.aload_n 0, 1) := by decide +kernel
theorem dX11_init_83 : decode cX11_init 83 = .ok (.getfield 16, 3) := by decide +kernel
theorem dX11_init_86 : decode cX11_init 86 = .ok (.aload_n 0, 1) := by decide +kernel
theorem dX11_init_87 : decode cX11_init 87 = .ok (.getfield 25, 3) := by decide +kernel
theorem dX11_init_90 : decode cX11_init 90 = .ok (.aload_n 0, 1) := by decide +kernel
theorem dX11_init_91 : decode cX11_init 91 = .ok (.getfield 41, 3) := by decide +kernel
theorem dX11_init_94 : decode cX11_init 94 = .ok (.invokespecial 47, 3) := by decide +kernel
theorem dX11_init_97 : decode cX11_init 97 = .ok (.putfield 50, 3) := by decide +kernel
theorem dX11_init_100 : decode cX11_init 100 = .ok (.aload_n 0, 1) := by decide +kernel
theorem dX11_init_101 : decode cX11_init 101 = .ok (.new 54, 3) := by decide +kernel
theorem dX11_init_104 : decode cX11_init 104 = .ok (.dup, 1) := by decide +kernel
theorem dX11_init_105 : decode cX11_init 105 = .ok (.aload_n 0, 1) := by decide +kernel
theorem dX11_init_106 : decode cX11_init 106 = .ok (.getfield 9, 3) := by decide +kernel
theorem dX11_init_109 : decode cX11_init 109 = .ok (.invokespecial 56, 3) := by decide +kernel
theorem dX11_init_112 : decode cX11_init 112 = .ok (.putfield 59, 3) := by decide +kernel
theorem dX11_init_115 : decode cX11_init 115 = .ok (.aload_n 0, 1) := by decide +kernel
theorem dX11_init_116 : decode cX11_init 116 = .ok (.new 63, 3) := by decide +kernel
theorem dX11_init_119 : decode cX11_init 119 = .ok (.dup, 1) := by decide +kernel
theorem dX11_init_120 : decode cX11_init 120 = .ok (.aload_n 0, 1) := by decide +kernel
theorem dX11_init_121 : decode cX11_init 121 = .ok (.getfield 59, 3) := by decide +kernel
theorem dX11_init_124 : decode cX11_init 124 = .ok (.aload_n 0, 1) := by decide +kernel
theorem dX11_init_125 : decode cX11_init 125 = .ok (.getfield 16, 3) := by decide +kernel
theorem dX11_init_128 : decode cX11_init 128 = .ok (.aload_n 0, 1) := by decide +kernel
theorem dX11_init_129 : decode cX11_init 129 = .ok (.getfield 25, 3) := by decide +kernel
theorem dX11_init_132 : decode cX11_init 132 = .ok (.aload_n 0, 1) := by decide +kernel
theorem dX11_init_133 : decode cX11_init 133 = .ok (.getfield 32, 3) := by decide +kernel
theorem dX11_init_136 : decode cX11_init 136 = .ok (.invokespecial 65, 3) := by decide +kernel
theorem dX11_init_139 : decode cX11_init 139 = .ok (.putfield 68, 3) := by decide +kernel
theorem dX11_init_142 : decode cX11_init 142 = .ok (.aload_n 0, 1) := by decide +kernel
theorem dX11_init_143 : decode cX11_init 143 = .ok (.new 72, 3) := by decide +kernel
theorem dX11_init_146 : decode cX11_init 146 = .ok (.dup, 1) := by decide +kernel
theorem dX11_init_147 : decode cX11_init 147 = .ok (.aload_n 0, 1) := by decide +kernel
theorem dX11_init_148 : decode cX11_init 148 = .ok (.getfield 59, 3) := by decide +kernel
theorem dX11_init_151 : decode cX11_init 151 = .ok (.aload_n 0, 1) := by decide +kernel
theorem dX11_init_152 : decode cX11_init 152 = .ok (.getfield 68, 3) := by decide +kernel
theorem dX11_init_155 : decode cX11_init 155 = .ok (.aload_n 0, 1) := by decide +kernel
theorem dX11_init_156 : decode cX11_init 156 = .ok (.getfield 16, 3) := by decide +kernel
theorem dX11_init_159 : decode cX11_init 159 = .ok (.aload_n 0, 1) := by decide +kernel
theorem dX11_init_160 : decode cX11_init 160 = .ok (.getfield 25, 3) := by decide +kernel
theorem dX11_init_163 : decode cX11_init 163 = .ok (.aload_n 0, 1) := by decide +kernel
theorem dX11_init_164 : decode cX11_init 164 = .ok (.getfield 32, 3) := by decide +kernel
theorem dX11_init_167 : decode cX11_init 167 = .ok (.aload_n 0, 1) := by decide +kernel
theorem dX11_init_168 : decode cX11_init 168 = .ok (.getfield 50, 3) := by decide +kernel
theorem dX11_init_171 : decode cX11_init 171 = .ok (.invokespecial 74, 3) := by decide +kernel
theorem dX11_init_174 : decode cX11_init 174 = .ok (.putfield 77, 3) := by decide +kernel
theorem dX11_init_177 : decode cX11_init 177 = .ok (.aload_n 0, 1) := by decide +kernel
theorem dX11_init_178 : decode cX11_init 178 = .ok (.new 81, 3) := by decide +kernel
theorem dX11_init_181 : decode cX11_init 181 = .ok (.dup, 1) := by decide +kernel
theorem dX11_init_182 : decode cX11_init 182 = .ok (.aload_n 0, 1) := by decide +kernel
theorem dX11_init_183 : decode cX11_init 183 = .ok (.getfield 59, 3) := by decide +kernel
theorem dX11_init_186 : decode cX11_init 186 = .ok (.aload_n 0, 1) := by decide +kernel
theorem dX11_init_187 : decode cX11_init 187 = .ok (.getfield 32, 3) := by decide +kernel
theorem dX11_init_190 : decode cX11_init 190 = .ok (.invokespecial 83, 3) := by decide +kernel
theorem dX11_init_193 : decode cX11_init 193 = .ok (.putfield 86, 3) := by decide +kernel
theorem dX11_init_196 : decode cX11_init 196 = .ok (.aload_n 0, 1) := by decide +kernel
theorem dX11_init_197 : decode cX11_init 197 = .ok (.new 90, 3) := by decide +kernel
theorem dX11_init_200 : decode cX11_init 200 = .ok (.dup, 1) := by decide +kernel
theorem dX11_init_201 : decode cX11_init 201 = .ok (.aload_n 0, 1) := by decide +kernel
theorem dX11_init_202 : decode cX11_init 202 = .ok (.getfield 16, 3) := by decide +kernel
theorem dX11_init_205 : decode cX11_init 205 = .ok (.aload_n 0, 1) := by decide +kernel
theorem dX11_init_206 : decode cX11_init 206 = .ok (.getfield 25, 3) := by decide +kernel
theorem dX11_init_209 : decode cX11_init 209 = .ok (.aload_n 0, 1) := by decide +kernel
theorem dX11_init_210 : decode cX11_init 210 = .ok (.getfield 32, 3) := by decide +kernel
theorem dX11_init_213 : decode cX11_init 213 = .ok (.aload_n 0, 1) := by decide +kernel
theorem dX11_init_214 : decode cX11_init 214 = .ok (.getfield 50, 3) := by decide +kernel
theorem dX11_init_217 : decode cX11_init 217 = .ok (.aload_n 0, 1) := by decide +kernel
theorem dX11_init_218 : decode cX11_init 218 = .ok (.getfield 86, 3) := by decide +kernel
theorem dX11_init_221 : decode cX11_init 221 = .ok (.invokespecial 92, 3) := by decide +kernel
theorem dX11_init_224 : decode cX11_init 224 = .ok (.putfield 95, 3) := by decide +kernel
theorem dX11_init_227 : decode cX11_init 227 = .ok (.aload_n 0, 1) := by decide +kernel
theorem dX11_init_228 : decode cX11_init 228 = .ok (.new 99, 3) := by decide +kernel
theorem dX11_init_231 : decode cX11_init 231 = .ok (.dup, 1) := by decide +kernel
theorem dX11_init_232 : decode cX11_init 232 = .ok (.aload_n 0, 1) := by decide +kernel
theorem dX11_init_233 : decode cX11_init 233 = .ok (.getfield 16, 3) := by decide +kernel
theorem dX11_init_236 : decode cX11_init 236 = .ok (.aload_n 0, 1) := by decide +kernel
theorem dX11_init_237 : decode cX11_init 237 = .ok (.getfield 32, 3) := by decide +kernel
theorem dX11_init_240 : decode cX11_init 240 = .ok (.invokespecial 101, 3) := by decide +kernel
theorem dX11_init_243 : decode cX11_init 243 = .ok (.putfield 104, 3) := by decide +kernel
theorem dX11_init_246 : decode cX11_init 246 = .ok (.return_, 1) := by decide +kernel
theorem dX11_inst_0 : decode cX11_inst 0 = .ok (.aload_n 0, 1) := by decide +kernel
theorem dX11_inst_1 : decode cX11_inst 1 = .ok (.getfield 32, 3) := by decide +kernel
theorem dX11_inst_4 : decode cX11_inst 4 = .ok (.iload_n 1, 1) := by decide +kernel
theorem dX11_inst_5 : decode cX11_inst 5 = .ok (.invokevirtual 173, 3) := by decide +kernel
theorem dX11_inst_8 : decode cX11_inst 8 = .ok (.ifCond .eq 14, 3) := by decide +kernel
theorem dX11_inst_22 : decode cX11_inst 22 = .ok (.aload_n 0, 1) := by decide +kernel
theorem dX11_inst_23 : decode cX11_inst 23 = .ok (.iconst 1, 1) := by decide +kernel
theorem dX11_inst_24 : decode cX11_inst 24 = .ok (.invokevirtual 120, 3) := by decide +kernel
theorem dX11_inst_27 : decode cX11_inst 27 = .ok (.ireturn, 1) := by decide +kernel
theorem dX11_lay_0 : decode cX11_lay 0 = .ok (.bipush 24, 2) := by decide +kernel
theorem dX11_lay_2 : decode cX11_lay 2 = .ok (.istore_n 2, 1) := by decide +kernel
theorem dX11_lay_3 : decode cX11_lay 3 = .ok (.iload_n 2, 1) := by decide +kernel
theorem dX11_lay_4 : decode cX11_lay 4 = .ok (.ifCond .lt 47, 3) := by decide +kernel
theorem dX11_lay_7 : decode cX11_lay 7 = .ok (.aload_n 0, 1) := by decide +kernel
theorem dX11_lay_8 : decode cX11_lay 8 = .ok (.getfield 108, 3) := by decide +kernel
theorem dX11_lay_11 : decode cX11_lay 11 = .ok (.aload_n 0, 1) := by decide +kernel
theorem dX11_lay_12 : decode cX11_lay 12 = .ok (.getfield 9, 3) := by decide +kernel
theorem dX11_lay_15 : decode cX11_lay 15 = .ok (.arraylength, 1) := by decide +kernel
theorem dX11_lay_16 : decode cX11_lay 16 = .ok (.if_icmp .ge 29, 3) := by decide +kernel
theorem dX11_lay_19 : decode cX11_lay 19 = .ok (.aload_n 0, 1) := by decide +kernel
theorem dX11_lay_20 : decode cX11_lay 20 = .ok (.getfield 9, 3) := by decide +kernel
theorem dX11_lay_23 : decode cX11_lay 23 = .ok (.aload_n 0, 1) := by decide +kernel
theorem dX11_lay_24 : decode cX11_lay 24 = .ok (.getfield 108, 3) := by decide +kernel
theorem dX11_lay_27 : decode cX11_lay 27 = .ok (.iload_n 1, 1) := by decide +kernel
theorem dX11_lay_28 : decode cX11_lay 28 = .ok (.iload_n 2, 1) := by decide +kernel
theorem dX11_lay_29 : decode cX11_lay 29 = .ok (.iushr, 1) := by decide +kernel
theorem dX11_lay_30 : decode cX11_lay 30 = .ok (.sipush 255, 3) := by decide +kernel
theorem dX11_lay_33 : decode cX11_lay 33 = .ok (.iand, 1) := by decide +kernel
theorem dX11_lay_34 : decode cX11_lay 34 = .ok (.iastore, 1) := by decide +kernel
theorem dX11_lay_35 : decode cX11_lay 35 = .ok (.aload_n 0, 1) := by decide +kernel
theorem dX11_lay_36 : decode cX11_lay 36 = .ok (.dup, 1) := by decide +kernel
theorem dX11_lay_37 : decode cX11_lay 37 = .ok (.getfield 108, 3) := by decide +kernel
theorem dX11_lay_40 : decode cX11_lay 40 = .ok (.iconst 1, 1) := by decide +kernel
theorem dX11_lay_41 : decode cX11_lay 41 = .ok (.iadd, 1) := by decide +kernel
theorem dX11_lay_42 : decode cX11_lay 42 = .ok (.putfield 108, 3) := by decide +kernel
theorem dX11_lay_45 : decode cX11_lay 45 = .ok (.iinc 2 (-8), 3) := by decide +kernel
theorem dX11_lay_48 : decode cX11_lay 48 = .ok (.goto (-45), 3) := by decide +kernel
theorem dX11_lay_51 : decode cX11_lay 51 = .ok (.return_, 1) := by decide +kernel
theorem dX11_named_0 : decode cX11_named 0 = .ok (.iconst (-1), 1) := by decide +kernel
theorem dX11_named_1 : decode cX11_named 1 = .ok (.istore_n 2, 1) := by decide +kernel
theorem dX11_named_2 : decode cX11_named 2 = .ok (.iload_n 1, 1) := by decide +kernel
theorem dX11_named_3 : decode cX11_named 3 = .ok (.ifCond .lt 37, 3) := by decide +kernel
theorem dX11_named_6 : decode cX11_named 6 = .ok (.iload_n 1, 1) := by decide +kernel
theorem dX11_named_7 : decode cX11_named 7 = .ok (.aload_n 0, 1) := by decide +kernel
theorem dX11_named_8 : decode cX11_named 8 = .ok (.getfield 108, 3) := by decide +kernel
theorem dX11_named_11 : decode cX11_named 11 = .ok (.if_icmp .gt 29, 3) := by decide +kernel
theorem dX11_named_14 : decode cX11_named 14 = .ok (.aload_n 0, 1) := by decide +kernel
theorem dX11_named_15 : decode cX11_named 15 = .ok (.getfield 59, 3) := by decide +kernel
theorem dX11_named_18 : decode cX11_named 18 = .ok (.iload_n 1, 1) := by decide +kernel
theorem dX11_named_19 : decode cX11_named 19 = .ok (.invokevirtual 313, 3) := by decide +kernel
theorem dX11_named_22 : decode cX11_named 22 = .ok (.istore_n 3, 1) := by decide +kernel
theorem dX11_named_23 : decode cX11_named 23 = .ok (.iload_n 3, 1) := by decide +kernel
theorem dX11_named_24 : decode cX11_named 24 = .ok (.ifCond .ge 7, 3) := by decide +kernel
theorem dX11_named_27 : decode cX11_named 27 = .ok (.iconst (-1), 1) := by decide +kernel
theorem dX11_named_28 : decode cX11_named 28 = .ok (.goto 11, 3) := by decide +kernel
theorem dX11_named_39 : decode cX11_named 39 = .ok (.istore_n 2, 1) := by decide +kernel
theorem dX11_named_40 : decode cX11_named 40 = .ok (.iload_n 2, 1) := by decide +kernel
theorem dX11_named_41 : decode cX11_named 41 = .ok (.ifCond .ge 14, 3) := by decide +kernel
theorem dX11_named_44 : decode cX11_named 44 = .ok (.new 319, 3) := by decide +kernel
theorem dX11_named_47 : decode cX11_named 47 = .ok (.dup, 1) := by decide +kernel
theorem dX11_named_48 : decode cX11_named 48 = .ok (.ldc_w 321, 3) := by decide +kernel
theorem dX11_named_51 : decode cX11_named 51 = .ok (.invokespecial 323, 3) := by decide +kernel
theorem dX11_named_54 : decode cX11_named 54 = .ok (.athrow, 1) := by decide +kernel
theorem dX11_normal_0 : decode cX11_normal 0 = .ok (.aload_n 0, 1) := by decide +kernel
theorem dX11_normal_1 : decode cX11_normal 1 = .ok (.iload_n 1, 1) := by decide +kernel
theorem dX11_normal_2 : decode cX11_normal 2 = .ok (.invokevirtual 204, 3) := by decide +kernel
theorem dX11_normal_5 : decode cX11_normal 5 = .ok (.istore_n 2, 1) := by decide +kernel
theorem dX11_normal_6 : decode cX11_normal 6 = .ok (.iload_n 2, 1) := by decide +kernel
theorem dX11_normal_7 : decode cX11_normal 7 = .ok (.ifCond .ge 7, 3) := by decide +kernel
theorem dX11_normal_10 : decode cX11_normal 10 = .ok (.iconst (-1), 1) := by decide +kernel
theorem dX11_normal_11 : decode cX11_normal 11 = .ok (.goto 24, 3) := by decide +kernel
theorem dX11_normal_35 : decode cX11_normal 35 = .ok (.ireturn, 1) := by decide +kernel
theorem dX11_octet_0 : decode cX11_octet 0 = .ok (.iload_n 1, 1) := by decide +kernel
theorem dX11_octet_1 : decode cX11_octet 1 = .ok (.ifCond .ge 9, 3) := by decide +kernel
theorem dX11_octet_4 : decode cX11_octet 4 = .ok (.aload_n 0, 1) := by decide +kernel
theorem dX11_octet_5 : decode cX11_octet 5 = .ok (.iconst 1, 1) := by decide +kernel
theorem dX11_octet_6 : decode cX11_octet 6 = .ok (.invokevirtual 120, 3) := by decide +kernel
theorem dX11_octet_9 : decode cX11_octet 9 = .ok (.ireturn, 1) := by decide +kernel
theorem dX11_octet_10 : decode cX11_octet 10 = .ok (.aload_n 0, 1) := by decide +kernel
theorem dX11_octet_11 : decode cX11_octet 11 = .ok (.aload_n 0, 1) := by decide +kernel
theorem dX11_octet_12 : decode cX11_octet 12 = .ok (.getfield 104, 3) := by decide +kernel
theorem dX11_octet_15 : decode cX11_octet 15 = .ok (.iload_n 1, 1) := by decide +kernel
theorem dX11_octet_16 : decode cX11_octet 16 = .ok (.invokevirtual 240, 3) := by decide +kernel
theorem dX11_octet_19 : decode cX11_octet 19 = .ok (.invokevirtual 137, 3) := by decide +kernel
theorem dX11_octet_22 : decode cX11_octet 22 = .ok (.ireturn, 1) := by decide +kernel
theorem dX11_opens_0 : decode cX11_opens 0 = .ok (.iload_n 1, 1) := by decide +kernel
theorem dX11_opens_1 : decode cX11_opens 1 = .ok (.ifCond .lt 11, 3) := by decide +kernel
theorem dX11_opens_4 : decode cX11_opens 4 = .ok (.iload_n 1, 1) := by decide +kernel
theorem dX11_opens_5 : decode cX11_opens 5 = .ok (.aload_n 0, 1) := by decide +kernel
theorem dX11_opens_6 : decode cX11_opens 6 = .ok (.getfield 108, 3) := by decide +kernel
theorem dX11_opens_9 : decode cX11_opens 9 = .ok (.if_icmp .le 5, 3) := by decide +kernel
theorem dX11_opens_12 : decode cX11_opens 12 = .ok (.iconst 0, 1) := by decide +kernel
theorem dX11_opens_13 : decode cX11_opens 13 = .ok (.ireturn, 1) := by decide +kernel
theorem dX11_opens_14 : decode cX11_opens 14 = .ok (.aload_n 0, 1) := by decide +kernel
theorem dX11_opens_15 : decode cX11_opens 15 = .ok (.invokevirtual 332, 3) := by decide +kernel
theorem dX11_opens_18 : decode cX11_opens 18 = .ok (.aload_n 0, 1) := by decide +kernel
theorem dX11_opens_19 : decode cX11_opens 19 = .ok (.getfield 59, 3) := by decide +kernel
theorem dX11_opens_22 : decode cX11_opens 22 = .ok (.iload_n 1, 1) := by decide +kernel
theorem dX11_opens_23 : decode cX11_opens 23 = .ok (.invokevirtual 335, 3) := by decide +kernel
theorem dX11_opens_26 : decode cX11_opens 26 = .ok (.aload_n 0, 1) := by decide +kernel
theorem dX11_opens_27 : decode cX11_opens 27 = .ok (.iconst 0, 1) := by decide +kernel
theorem dX11_opens_28 : decode cX11_opens 28 = .ok (.putfield 108, 3) := by decide +kernel
theorem dX11_opens_31 : decode cX11_opens 31 = .ok (.iconst 1, 1) := by decide +kernel
theorem dX11_opens_32 : decode cX11_opens 32 = .ok (.ireturn, 1) := by decide +kernel
theorem dX11_opensTheorems_0 : decode cX11_opensTheorems 0 = .ok (.aload_n 0, 1) := by decide +kernel
theorem dX11_opensTheorems_1 : decode cX11_opensTheorems 1 = .ok (.getfield 32, 3) := by decide +kernel
theorem dX11_opensTheorems_4 : decode cX11_opensTheorems 4 = .ok (.iload_n 1, 1) := by decide +kernel
theorem dX11_opensTheorems_5 : decode cX11_opensTheorems 5 = .ok (.invokevirtual 173, 3) := by decide +kernel
theorem dX11_opensTheorems_8 : decode cX11_opensTheorems 8 = .ok (.ifCond .eq 14, 3) := by decide +kernel
theorem dX11_opensTheorems_22 : decode cX11_opensTheorems 22 = .ok (.aload_n 0, 1) := by decide +kernel
theorem dX11_opensTheorems_23 : decode cX11_opensTheorems 23 = .ok (.iconst 1, 1) := by decide +kernel
theorem dX11_opensTheorems_24 : decode cX11_opensTheorems 24 = .ok (.invokevirtual 120, 3) := by decide +kernel
theorem dX11_opensTheorems_27 : decode cX11_opensTheorems 27 = .ok (.pop, 1) := by decide +kernel
theorem dX11_opensTheorems_28 : decode cX11_opensTheorems 28 = .ok (.iconst 0, 1) := by decide +kernel
theorem dX11_opensTheorems_29 : decode cX11_opensTheorems 29 = .ok (.ireturn, 1) := by decide +kernel
theorem dX11_readTerm_0 : decode cX11_readTerm 0 = .ok (.aload_n 0, 1) := by decide +kernel
theorem dX11_readTerm_1 : decode cX11_readTerm 1 = .ok (.iload_n 1, 1) := by decide +kernel
theorem dX11_readTerm_2 : decode cX11_readTerm 2 = .ok (.invokevirtual 116, 3) := by decide +kernel
theorem dX11_readTerm_5 : decode cX11_readTerm 5 = .ok (.ifCond .ne 9, 3) := by decide +kernel
theorem dX11_readTerm_8 : decode cX11_readTerm 8 = .ok (.aload_n 0, 1) := by decide +kernel
theorem dX11_readTerm_9 : decode cX11_readTerm 9 = .ok (.iconst 2, 1) := by decide +kernel
theorem dX11_readTerm_10 : decode cX11_readTerm 10 = .ok (.invokevirtual 120, 3) := by decide +kernel
theorem dX11_readTerm_13 : decode cX11_readTerm 13 = .ok (.ireturn, 1) := by decide +kernel
theorem dX11_readTerm_14 : decode cX11_readTerm 14 = .ok (.aload_n 0, 1) := by decide +kernel
theorem dX11_readTerm_15 : decode cX11_readTerm 15 = .ok (.getfield 68, 3) := by decide +kernel
theorem dX11_readTerm_18 : decode cX11_readTerm 18 = .ok (.iconst 0, 1) := by decide +kernel
theorem dX11_readTerm_19 : decode cX11_readTerm 19 = .ok (.invokevirtual 295, 3) := by decide +kernel
theorem dX11_readTerm_22 : decode cX11_readTerm 22 = .ok (.istore_n 2, 1) := by decide +kernel
theorem dX11_readTerm_23 : decode cX11_readTerm 23 = .ok (.aload_n 0, 1) := by decide +kernel
theorem dX11_readTerm_24 : decode cX11_readTerm 24 = .ok (.getfield 59, 3) := by decide +kernel
theorem dX11_readTerm_27 : decode cX11_readTerm 27 = .ok (.invokevirtual 298, 3) := by decide +kernel
theorem dX11_readTerm_30 : decode cX11_readTerm 30 = .ok (.aload_n 0, 1) := by decide +kernel
theorem dX11_readTerm_31 : decode cX11_readTerm 31 = .ok (.invokevirtual 127, 3) := by decide +kernel
theorem dX11_readTerm_34 : decode cX11_readTerm 34 = .ok (.ifCond .eq 7, 3) := by decide +kernel
theorem dX11_readTerm_41 : decode cX11_readTerm 41 = .ok (.iconst (-1), 1) := by decide +kernel
theorem dX11_readTerm_42 : decode cX11_readTerm 42 = .ok (.ireturn, 1) := by decide +kernel
theorem dX11_refl_0 : decode cX11_refl 0 = .ok (.aload_n 0, 1) := by decide +kernel
theorem dX11_refl_1 : decode cX11_refl 1 = .ok (.iload_n 1, 1) := by decide +kernel
theorem dX11_refl_2 : decode cX11_refl 2 = .ok (.invokevirtual 204, 3) := by decide +kernel
theorem dX11_refl_5 : decode cX11_refl 5 = .ok (.istore_n 2, 1) := by decide +kernel
theorem dX11_refl_6 : decode cX11_refl 6 = .ok (.iload_n 2, 1) := by decide +kernel
theorem dX11_refl_7 : decode cX11_refl 7 = .ok (.ifCond .ge 7, 3) := by decide +kernel
theorem dX11_refl_10 : decode cX11_refl 10 = .ok (.iconst (-1), 1) := by decide +kernel
theorem dX11_refl_11 : decode cX11_refl 11 = .ok (.goto 16, 3) := by decide +kernel
theorem dX11_refl_27 : decode cX11_refl 27 = .ok (.ireturn, 1) := by decide +kernel
theorem dX11_refused_0 : decode cX11_refused 0 = .ok (.aload_n 0, 1) := by decide +kernel
theorem dX11_refused_1 : decode cX11_refused 1 = .ok (.iload_n 1, 1) := by decide +kernel
theorem dX11_refused_2 : decode cX11_refused 2 = .ok (.putfield 148, 3) := by decide +kernel
theorem dX11_refused_5 : decode cX11_refused 5 = .ok (.iconst (-1), 1) := by decide +kernel
theorem dX11_refused_6 : decode cX11_refused 6 = .ok (.ireturn, 1) := by decide +kernel
theorem dX11_rewrite_0 : decode cX11_rewrite 0 = .ok (.aload_n 0, 1) := by decide +kernel
theorem dX11_rewrite_1 : decode cX11_rewrite 1 = .ok (.getfield 32, 3) := by decide +kernel
theorem dX11_rewrite_4 : decode cX11_rewrite 4 = .ok (.iload_n 1, 1) := by decide +kernel
theorem dX11_rewrite_5 : decode cX11_rewrite 5 = .ok (.invokevirtual 173, 3) := by decide +kernel
theorem dX11_rewrite_8 : decode cX11_rewrite 8 = .ok (.ifCond .ne 9, 3) := by decide +kernel
theorem dX11_rewrite_11 : decode cX11_rewrite 11 = .ok (.aload_n 0, 1) := by decide +kernel
theorem dX11_rewrite_12 : decode cX11_rewrite 12 = .ok (.iconst 1, 1) := by decide +kernel
theorem dX11_rewrite_13 : decode cX11_rewrite 13 = .ok (.invokevirtual 120, 3) := by decide +kernel
theorem dX11_rewrite_16 : decode cX11_rewrite 16 = .ok (.ireturn, 1) := by decide +kernel
theorem dX11_same_0 : decode cX11_same 0 = .ok (.aload_n 0, 1) := by decide +kernel
theorem dX11_same_1 : decode cX11_same 1 = .ok (.getfield 32, 3) := by decide +kernel
theorem dX11_same_4 : decode cX11_same 4 = .ok (.iload_n 1, 1) := by decide +kernel
theorem dX11_same_5 : decode cX11_same 5 = .ok (.invokevirtual 173, 3) := by decide +kernel
theorem dX11_same_8 : decode cX11_same 8 = .ok (.ifCond .eq 14, 3) := by decide +kernel
theorem dX11_same_22 : decode cX11_same 22 = .ok (.aload_n 0, 1) := by decide +kernel
theorem dX11_same_23 : decode cX11_same 23 = .ok (.iconst 1, 1) := by decide +kernel
theorem dX11_same_24 : decode cX11_same 24 = .ok (.invokevirtual 120, 3) := by decide +kernel
theorem dX11_same_27 : decode cX11_same 27 = .ok (.ireturn, 1) := by decide +kernel
theorem dX11_size_0 : decode cX11_size 0 = .ok (.aload_n 0, 1) := by decide +kernel
theorem dX11_size_1 : decode cX11_size 1 = .ok (.getfield 108, 3) := by decide +kernel
theorem dX11_size_4 : decode cX11_size 4 = .ok (.ireturn, 1) := by decide +kernel
theorem dX11_sym_0 : decode cX11_sym 0 = .ok (.aload_n 0, 1) := by decide +kernel
theorem dX11_sym_1 : decode cX11_sym 1 = .ok (.iload_n 1, 1) := by decide +kernel
theorem dX11_sym_2 : decode cX11_sym 2 = .ok (.iload_n 1, 1) := by decide +kernel
theorem dX11_sym_3 : decode cX11_sym 3 = .ok (.invokevirtual 249, 3) := by decide +kernel
theorem dX11_sym_6 : decode cX11_sym 6 = .ok (.ifCond .ne 5, 3) := by decide +kernel
theorem dX11_sym_9 : decode cX11_sym 9 = .ok (.iconst (-1), 1) := by decide +kernel
theorem dX11_sym_10 : decode cX11_sym 10 = .ok (.ireturn, 1) := by decide +kernel
theorem dX11_takeBack_0 : decode cX11_takeBack 0 = .ok (.aload_n 0, 1) := by decide +kernel
theorem dX11_takeBack_1 : decode cX11_takeBack 1 = .ok (.getfield 32, 3) := by decide +kernel
theorem dX11_takeBack_4 : decode cX11_takeBack 4 = .ok (.invokevirtual 328, 3) := by decide +kernel
theorem dX11_takeBack_7 : decode cX11_takeBack 7 = .ok (.aload_n 0, 1) := by decide +kernel
theorem dX11_takeBack_8 : decode cX11_takeBack 8 = .ok (.getfield 50, 3) := by decide +kernel
theorem dX11_takeBack_11 : decode cX11_takeBack 11 = .ok (.invokevirtual 331, 3) := by decide +kernel
theorem dX11_takeBack_14 : decode cX11_takeBack 14 = .ok (.aload_n 0, 1) := by decide +kernel
theorem dX11_takeBack_15 : decode cX11_takeBack 15 = .ok (.getfield 16, 3) := by decide +kernel
theorem dX11_takeBack_18 : decode cX11_takeBack 18 = .ok (.invokevirtual 211, 3) := by decide +kernel
theorem dX11_takeBack_21 : decode cX11_takeBack 21 = .ok (.return_, 1) := by decide +kernel
theorem dX11_term_0 : decode cX11_term 0 = .ok (.iload_n 2, 1) := by decide +kernel
theorem dX11_term_1 : decode cX11_term 1 = .ok (.ifCond .lt 9, 3) := by decide +kernel
theorem dX11_term_4 : decode cX11_term 4 = .ok (.iload_n 2, 1) := by decide +kernel
theorem dX11_term_5 : decode cX11_term 5 = .ok (.bipush 7, 2) := by decide +kernel
theorem dX11_term_7 : decode cX11_term 7 = .ok (.if_icmp .le 9, 3) := by decide +kernel
theorem dX11_term_10 : decode cX11_term 10 = .ok (.aload_n 0, 1) := by decide +kernel
theorem dX11_term_11 : decode cX11_term 11 = .ok (.iconst 1, 1) := by decide +kernel
theorem dX11_term_12 : decode cX11_term 12 = .ok (.invokevirtual 120, 3) := by decide +kernel
theorem dX11_term_15 : decode cX11_term 15 = .ok (.ireturn, 1) := by decide +kernel
theorem dX11_term_16 : decode cX11_term 16 = .ok (.aload_n 0, 1) := by decide +kernel
theorem dX11_term_17 : decode cX11_term 17 = .ok (.iload_n 1, 1) := by decide +kernel
theorem dX11_term_18 : decode cX11_term 18 = .ok (.invokevirtual 204, 3) := by decide +kernel
theorem dX11_term_21 : decode cX11_term 21 = .ok (.istore_n 3, 1) := by decide +kernel
theorem dX11_term_22 : decode cX11_term 22 = .ok (.iload_n 3, 1) := by decide +kernel
theorem dX11_term_23 : decode cX11_term 23 = .ok (.ifCond .ge 5, 3) := by decide +kernel
theorem dX11_term_26 : decode cX11_term 26 = .ok (.iconst (-1), 1) := by decide +kernel
theorem dX11_term_27 : decode cX11_term 27 = .ok (.ireturn, 1) := by decide +kernel
theorem dX11_theorem_0 : decode cX11_theorem 0 = .ok (.aload_n 0, 1) := by decide +kernel
theorem dX11_theorem_1 : decode cX11_theorem 1 = .ok (.getfield 32, 3) := by decide +kernel
theorem dX11_theorem_4 : decode cX11_theorem 4 = .ok (.iload_n 1, 1) := by decide +kernel
theorem dX11_theorem_5 : decode cX11_theorem 5 = .ok (.invokevirtual 173, 3) := by decide +kernel
theorem dX11_theorem_8 : decode cX11_theorem 8 = .ok (.ifCond .ne 9, 3) := by decide +kernel
theorem dX11_theorem_11 : decode cX11_theorem 11 = .ok (.aload_n 0, 1) := by decide +kernel
theorem dX11_theorem_12 : decode cX11_theorem 12 = .ok (.iconst 1, 1) := by decide +kernel
theorem dX11_theorem_13 : decode cX11_theorem 13 = .ok (.invokevirtual 120, 3) := by decide +kernel
theorem dX11_theorem_16 : decode cX11_theorem 16 = .ok (.ireturn, 1) := by decide +kernel
theorem dX11_theory_0 : decode cX11_theory 0 = .ok (.aload_n 0, 1) := by decide +kernel
theorem dX11_theory_1 : decode cX11_theory 1 = .ok (.iload_n 1, 1) := by decide +kernel
theorem dX11_theory_2 : decode cX11_theory 2 = .ok (.invokevirtual 116, 3) := by decide +kernel
theorem dX11_theory_5 : decode cX11_theory 5 = .ok (.ifCond .ne 9, 3) := by decide +kernel
theorem dX11_theory_8 : decode cX11_theory 8 = .ok (.aload_n 0, 1) := by decide +kernel
theorem dX11_theory_9 : decode cX11_theory 9 = .ok (.iconst 2, 1) := by decide +kernel
theorem dX11_theory_10 : decode cX11_theory 10 = .ok (.invokevirtual 120, 3) := by decide +kernel
theorem dX11_theory_13 : decode cX11_theory 13 = .ok (.ireturn, 1) := by decide +kernel
theorem dX11_theory_14 : decode cX11_theory 14 = .ok (.aload_n 0, 1) := by decide +kernel
theorem dX11_theory_15 : decode cX11_theory 15 = .ok (.getfield 77, 3) := by decide +kernel
theorem dX11_theory_18 : decode cX11_theory 18 = .ok (.invokevirtual 124, 3) := by decide +kernel
theorem dX11_theory_21 : decode cX11_theory 21 = .ok (.aload_n 0, 1) := by decide +kernel
theorem dX11_theory_22 : decode cX11_theory 22 = .ok (.invokevirtual 127, 3) := by decide +kernel
theorem dX11_theory_25 : decode cX11_theory 25 = .ok (.ifCond .ne 5, 3) := by decide +kernel
theorem dX11_theory_28 : decode cX11_theory 28 = .ok (.iconst (-1), 1) := by decide +kernel
theorem dX11_theory_29 : decode cX11_theory 29 = .ok (.ireturn, 1) := by decide +kernel
theorem dX11_trans_0 : decode cX11_trans 0 = .ok (.aload_n 0, 1) := by decide +kernel
theorem dX11_trans_1 : decode cX11_trans 1 = .ok (.iload_n 1, 1) := by decide +kernel
theorem dX11_trans_2 : decode cX11_trans 2 = .ok (.iload_n 2, 1) := by decide +kernel
theorem dX11_trans_3 : decode cX11_trans 3 = .ok (.invokevirtual 249, 3) := by decide +kernel
theorem dX11_trans_6 : decode cX11_trans 6 = .ok (.ifCond .ne 5, 3) := by decide +kernel
theorem dX11_trans_9 : decode cX11_trans 9 = .ok (.iconst (-1), 1) := by decide +kernel
theorem dX11_trans_10 : decode cX11_trans 10 = .ok (.ireturn, 1) := by decide +kernel
theorem dX11_trouble_0 : decode cX11_trouble 0 = .ok (.aload_n 0, 1) := by decide +kernel
theorem dX11_trouble_1 : decode cX11_trouble 1 = .ok (.getfield 148, 3) := by decide +kernel
theorem dX11_trouble_4 : decode cX11_trouble 4 = .ok (.ireturn, 1) := by decide +kernel
theorem dX11_unfold_0 : decode cX11_unfold 0 = .ok (.aload_n 0, 1) := by decide +kernel
theorem dX11_unfold_1 : decode cX11_unfold 1 = .ok (.iload_n 1, 1) := by decide +kernel
theorem dX11_unfold_2 : decode cX11_unfold 2 = .ok (.iload_n 1, 1) := by decide +kernel
theorem dX11_unfold_3 : decode cX11_unfold 3 = .ok (.invokevirtual 249, 3) := by decide +kernel
theorem dX11_unfold_6 : decode cX11_unfold 6 = .ok (.ifCond .ne 5, 3) := by decide +kernel
theorem dX11_unfold_9 : decode cX11_unfold 9 = .ok (.iconst (-1), 1) := by decide +kernel
theorem dX11_unfold_10 : decode cX11_unfold 10 = .ok (.ireturn, 1) := by decide +kernel
theorem dX11_used_0 : decode cX11_used 0 = .ok (.iload_n 1, 1) := by decide +kernel
theorem dX11_used_1 : decode cX11_used 1 = .ok (.ifCond .lt 9, 3) := by decide +kernel
theorem dX11_used_4 : decode cX11_used 4 = .ok (.iload_n 1, 1) := by decide +kernel
theorem dX11_used_5 : decode cX11_used 5 = .ok (.bipush 10, 2) := by decide +kernel
theorem dX11_used_7 : decode cX11_used 7 = .ok (.if_icmp .lt 9, 3) := by decide +kernel
theorem dX11_used_10 : decode cX11_used 10 = .ok (.aload_n 0, 1) := by decide +kernel
theorem dX11_used_11 : decode cX11_used 11 = .ok (.iconst 1, 1) := by decide +kernel
theorem dX11_used_12 : decode cX11_used 12 = .ok (.invokevirtual 120, 3) := by decide +kernel
theorem dX11_used_15 : decode cX11_used 15 = .ok (.ireturn, 1) := by decide +kernel
theorem dX11_used_16 : decode cX11_used 16 = .ok (.aload_n 0, 1) := by decide +kernel
theorem dX11_used_17 : decode cX11_used 17 = .ok (.aload_n 0, 1) := by decide +kernel
theorem dX11_used_18 : decode cX11_used 18 = .ok (.getfield 50, 3) := by decide +kernel
theorem dX11_used_21 : decode cX11_used 21 = .ok (.iload_n 1, 1) := by decide +kernel
theorem dX11_used_22 : decode cX11_used 22 = .ok (.invokevirtual 170, 3) := by decide +kernel
theorem dX11_used_25 : decode cX11_used 25 = .ok (.invokevirtual 137, 3) := by decide +kernel
theorem dX11_used_28 : decode cX11_used 28 = .ok (.ireturn, 1) := by decide +kernel
theorem dX11_wasReadWell_0 : decode cX11_wasReadWell 0 = .ok (.aload_n 0, 1) := by decide +kernel
theorem dX11_wasReadWell_1 : decode cX11_wasReadWell 1 = .ok (.aload_n 0, 1) := by decide +kernel
theorem dX11_wasReadWell_2 : decode cX11_wasReadWell 2 = .ok (.getfield 59, 3) := by decide +kernel
theorem dX11_wasReadWell_5 : decode cX11_wasReadWell 5 = .ok (.getfield 338, 3) := by decide +kernel
theorem dX11_wasReadWell_8 : decode cX11_wasReadWell 8 = .ok (.putfield 145, 3) := by decide +kernel
theorem dX11_wasReadWell_11 : decode cX11_wasReadWell 11 = .ok (.aload_n 0, 1) := by decide +kernel
theorem dX11_wasReadWell_12 : decode cX11_wasReadWell 12 = .ok (.getfield 145, 3) := by decide +kernel
theorem dX11_wasReadWell_15 : decode cX11_wasReadWell 15 = .ok (.ifCond .ne 5, 3) := by decide +kernel
theorem dX11_wasReadWell_20 : decode cX11_wasReadWell 20 = .ok (.aload_n 0, 1) := by decide +kernel
theorem dX11_wasReadWell_21 : decode cX11_wasReadWell 21 = .ok (.aload_n 0, 1) := by decide +kernel
theorem dX11_wasReadWell_22 : decode cX11_wasReadWell 22 = .ok (.getfield 59, 3) := by decide +kernel
theorem dX11_wasReadWell_25 : decode cX11_wasReadWell 25 = .ok (.getfield 341, 3) := by decide +kernel
theorem dX11_wasReadWell_28 : decode cX11_wasReadWell 28 = .ok (.putfield 151, 3) := by decide +kernel
theorem dX11_wasReadWell_31 : decode cX11_wasReadWell 31 = .ok (.aload_n 0, 1) := by decide +kernel
theorem dX11_wasReadWell_32 : decode cX11_wasReadWell 32 = .ok (.invokevirtual 342, 3) := by decide +kernel
theorem dX11_wasReadWell_35 : decode cX11_wasReadWell 35 = .ok (.aload_n 0, 1) := by decide +kernel
theorem dX11_wasReadWell_36 : decode cX11_wasReadWell 36 = .ok (.iconst 4, 1) := by decide +kernel
theorem dX11_wasReadWell_37 : decode cX11_wasReadWell 37 = .ok (.invokevirtual 120, 3) := by decide +kernel
theorem dX11_wasReadWell_40 : decode cX11_wasReadWell 40 = .ok (.pop, 1) := by decide +kernel
theorem dX11_wasReadWell_41 : decode cX11_wasReadWell 41 = .ok (.iconst 0, 1) := by decide +kernel
theorem dX11_wasReadWell_42 : decode cX11_wasReadWell 42 = .ok (.ireturn, 1) := by decide +kernel
theorem dX11_where_0 : decode cX11_where 0 = .ok (.aload_n 0, 1) := by decide +kernel
theorem dX11_where_1 : decode cX11_where 1 = .ok (.getfield 148, 3) := by decide +kernel
theorem dX11_where_4 : decode cX11_where 4 = .ok (.iconst 4, 1) := by decide +kernel
theorem dX11_where_5 : decode cX11_where 5 = .ok (.if_icmp .ne 10, 3) := by decide +kernel
theorem dX11_where_15 : decode cX11_where 15 = .ok (.iconst (-1), 1) := by decide +kernel
theorem dX11_where_16 : decode cX11_where 16 = .ok (.ireturn, 1) := by decide +kernel
theorem dX11_write_0 : decode cX11_write 0 = .ok (.aload_n 0, 1) := by decide +kernel
theorem dX11_write_1 : decode cX11_write 1 = .ok (.iload_n 1, 1) := by decide +kernel
theorem dX11_write_2 : decode cX11_write 2 = .ok (.invokevirtual 204, 3) := by decide +kernel
theorem dX11_write_5 : decode cX11_write 5 = .ok (.istore_n 2, 1) := by decide +kernel
theorem dX11_write_6 : decode cX11_write 6 = .ok (.iload_n 2, 1) := by decide +kernel
theorem dX11_write_7 : decode cX11_write 7 = .ok (.ifCond .ge 7, 3) := by decide +kernel
theorem dX11_write_10 : decode cX11_write 10 = .ok (.iconst (-1), 1) := by decide +kernel
theorem dX11_write_11 : decode cX11_write 11 = .ok (.goto 8, 3) := by decide +kernel
theorem dX11_write_19 : decode cX11_write 19 = .ok (.ireturn, 1) := by decide +kernel
theorem dX11_writeOf_0 : decode cX11_writeOf 0 = .ok (.aload_n 0, 1) := by decide +kernel
theorem dX11_writeOf_1 : decode cX11_writeOf 1 = .ok (.getfield 32, 3) := by decide +kernel
theorem dX11_writeOf_4 : decode cX11_writeOf 4 = .ok (.iload_n 1, 1) := by decide +kernel
theorem dX11_writeOf_5 : decode cX11_writeOf 5 = .ok (.invokevirtual 173, 3) := by decide +kernel
theorem dX11_writeOf_8 : decode cX11_writeOf 8 = .ok (.ifCond .ne 9, 3) := by decide +kernel
theorem dX11_writeOf_11 : decode cX11_writeOf 11 = .ok (.aload_n 0, 1) := by decide +kernel
theorem dX11_writeOf_12 : decode cX11_writeOf 12 = .ok (.iconst 1, 1) := by decide +kernel
theorem dX11_writeOf_13 : decode cX11_writeOf 13 = .ok (.invokevirtual 120, 3) := by decide +kernel
theorem dX11_writeOf_16 : decode cX11_writeOf 16 = .ok (.ireturn, 1) := by decide +kernel
theorem dX11_writeSide_0 : decode cX11_writeSide 0 = .ok (.aload_n 0, 1) := by decide +kernel
theorem dX11_writeSide_1 : decode cX11_writeSide 1 = .ok (.getfield 32, 3) := by decide +kernel
theorem dX11_writeSide_4 : decode cX11_writeSide 4 = .ok (.iload_n 1, 1) := by decide +kernel
theorem dX11_writeSide_5 : decode cX11_writeSide 5 = .ok (.invokevirtual 173, 3) := by decide +kernel
theorem dX11_writeSide_8 : decode cX11_writeSide 8 = .ok (.ifCond .eq 12, 3) := by decide +kernel
theorem dX11_writeSide_20 : decode cX11_writeSide 20 = .ok (.aload_n 0, 1) := by decide +kernel
theorem dX11_writeSide_21 : decode cX11_writeSide 21 = .ok (.iconst 1, 1) := by decide +kernel
theorem dX11_writeSide_22 : decode cX11_writeSide 22 = .ok (.invokevirtual 120, 3) := by decide +kernel
theorem dX11_writeSide_25 : decode cX11_writeSide 25 = .ok (.ireturn, 1) := by decide +kernel
theorem dX11_writeType_0 : decode cX11_writeType 0 = .ok (.aload_n 0, 1) := by decide +kernel
theorem dX11_writeType_1 : decode cX11_writeType 1 = .ok (.iload_n 1, 1) := by decide +kernel
theorem dX11_writeType_2 : decode cX11_writeType 2 = .ok (.invokevirtual 204, 3) := by decide +kernel
theorem dX11_writeType_5 : decode cX11_writeType 5 = .ok (.istore_n 2, 1) := by decide +kernel
theorem dX11_writeType_6 : decode cX11_writeType 6 = .ok (.iload_n 2, 1) := by decide +kernel
theorem dX11_writeType_7 : decode cX11_writeType 7 = .ok (.ifCond .ge 5, 3) := by decide +kernel
theorem dX11_writeType_10 : decode cX11_writeType 10 = .ok (.iconst (-1), 1) := by decide +kernel
theorem dX11_writeType_11 : decode cX11_writeType 11 = .ok (.ireturn, 1) := by decide +kernel
theorem dX12_about_0 : decode cX12_about 0 = .ok (.aload_n 0, 1) := by decide +kernel
theorem dX12_about_1 : decode cX12_about 1 = .ok (.iconst 0, 1) := by decide +kernel
theorem dX12_about_2 : decode cX12_about 2 = .ok (.putfield 108, 3) := by decide +kernel
theorem dX12_about_5 : decode cX12_about 5 = .ok (.iconst 0, 1) := by decide +kernel
theorem dX12_about_6 : decode cX12_about 6 = .ok (.istore_n 2, 1) := by decide +kernel
theorem dX12_about_7 : decode cX12_about 7 = .ok (.iload_n 1, 1) := by decide +kernel
theorem dX12_about_8 : decode cX12_about 8 = .ok (.tableswitch 147 0 5 #[40, 49, 58, 67, 107, 136], 40) := by decide +kernel
theorem dX12_about_48 : decode cX12_about 48 = .ok (.aload_n 0, 1) := by decide +kernel
theorem dX12_about_49 : decode cX12_about 49 = .ok (.aload_n 0, 1) := by decide +kernel
theorem dX12_about_50 : decode cX12_about 50 = .ok (.getfield 279, 3) := by decide +kernel
theorem dX12_about_53 : decode cX12_about 53 = .ok (.invokevirtual 385, 3) := by decide +kernel
theorem dX12_about_56 : decode cX12_about 56 = .ok (.ireturn, 1) := by decide +kernel
theorem dX12_about_57 : decode cX12_about 57 = .ok (.aload_n 0, 1) := by decide +kernel
theorem dX12_about_58 : decode cX12_about 58 = .ok (.aload_n 0, 1) := by decide +kernel
theorem dX12_about_59 : decode cX12_about 59 = .ok (.getfield 286, 3) := by decide +kernel
theorem dX12_about_62 : decode cX12_about 62 = .ok (.invokevirtual 385, 3) := by decide +kernel
theorem dX12_about_65 : decode cX12_about 65 = .ok (.ireturn, 1) := by decide +kernel
theorem dX12_about_66 : decode cX12_about 66 = .ok (.aload_n 0, 1) := by decide +kernel
theorem dX12_about_67 : decode cX12_about 67 = .ok (.aload_n 0, 1) := by decide +kernel
theorem dX12_about_68 : decode cX12_about 68 = .ok (.getfield 491, 3) := by decide +kernel
theorem dX12_about_71 : decode cX12_about 71 = .ok (.invokevirtual 385, 3) := by decide +kernel
theorem dX12_about_74 : decode cX12_about 74 = .ok (.ireturn, 1) := by decide +kernel
theorem dX12_about_75 : decode cX12_about 75 = .ok (.iconst 0, 1) := by decide +kernel
theorem dX12_about_76 : decode cX12_about 76 = .ok (.istore_n 3, 1) := by decide +kernel
theorem dX12_about_77 : decode cX12_about 77 = .ok (.iload_n 3, 1) := by decide +kernel
theorem dX12_about_78 : decode cX12_about 78 = .ok (.aload_n 0, 1) := by decide +kernel
theorem dX12_about_79 : decode cX12_about 79 = .ok (.getfield 286, 3) := by decide +kernel
theorem dX12_about_82 : decode cX12_about 82 = .ok (.if_icmp .ge 27, 3) := by decide +kernel
theorem dX12_about_109 : decode cX12_about 109 = .ok (.aload_n 0, 1) := by decide +kernel
theorem dX12_about_110 : decode cX12_about 110 = .ok (.iload_n 2, 1) := by decide +kernel
theorem dX12_about_111 : decode cX12_about 111 = .ok (.invokevirtual 385, 3) := by decide +kernel
theorem dX12_about_114 : decode cX12_about 114 = .ok (.ireturn, 1) := by decide +kernel
theorem dX12_about_115 : decode cX12_about 115 = .ok (.iconst 0, 1) := by decide +kernel
theorem dX12_about_116 : decode cX12_about 116 = .ok (.istore_n 3, 1) := by decide +kernel
theorem dX12_about_117 : decode cX12_about 117 = .ok (.iload_n 3, 1) := by decide +kernel
theorem dX12_about_118 : decode cX12_about 118 = .ok (.bipush 10, 2) := by decide +kernel
theorem dX12_about_120 : decode cX12_about 120 = .ok (.if_icmp .ge 18, 3) := by decide +kernel
theorem dX12_about_123 : decode cX12_about 123 = .ok (.iload_n 2, 1) := by decide +kernel
theorem dX12_about_124 : decode cX12_about 124 = .ok (.aload_n 0, 1) := by decide +kernel
theorem dX12_about_125 : decode cX12_about 125 = .ok (.getfield 93, 3) := by decide +kernel
theorem dX12_about_128 : decode cX12_about 128 = .ok (.iload_n 3, 1) := by decide +kernel
theorem dX12_about_129 : decode cX12_about 129 = .ok (.iaload, 1) := by decide +kernel
theorem dX12_about_130 : decode cX12_about 130 = .ok (.iadd, 1) := by decide +kernel
theorem dX12_about_131 : decode cX12_about 131 = .ok (.istore_n 2, 1) := by decide +kernel
theorem dX12_about_132 : decode cX12_about 132 = .ok (.iinc 3 1, 3) := by decide +kernel
theorem dX12_about_135 : decode cX12_about 135 = .ok (.goto (-18), 3) := by decide +kernel
theorem dX12_about_138 : decode cX12_about 138 = .ok (.aload_n 0, 1) := by decide +kernel
theorem dX12_about_139 : decode cX12_about 139 = .ok (.iload_n 2, 1) := by decide +kernel
theorem dX12_about_140 : decode cX12_about 140 = .ok (.invokevirtual 385, 3) := by decide +kernel
theorem dX12_about_143 : decode cX12_about 143 = .ok (.ireturn, 1) := by decide +kernel
theorem dX12_about_144 : decode cX12_about 144 = .ok (.aload_n 0, 1) := by decide +kernel
theorem dX12_about_145 : decode cX12_about 145 = .ok (.aload_n 0, 1) := by decide +kernel
theorem dX12_about_146 : decode cX12_about 146 = .ok (.getfield 87, 3) := by decide +kernel
theorem dX12_about_149 : decode cX12_about 149 = .ok (.iconst 2, 1) := by decide +kernel
theorem dX12_about_150 : decode cX12_about 150 = .ok (.iaload, 1) := by decide +kernel
theorem dX12_about_151 : decode cX12_about 151 = .ok (.invokevirtual 385, 3) := by decide +kernel
theorem dX12_about_154 : decode cX12_about 154 = .ok (.ireturn, 1) := by decide +kernel
theorem dX12_about_155 : decode cX12_about 155 = .ok (.aload_n 0, 1) := by decide +kernel
theorem dX12_about_156 : decode cX12_about 156 = .ok (.iconst 1, 1) := by decide +kernel
theorem dX12_about_157 : decode cX12_about 157 = .ok (.invokevirtual 654, 3) := by decide +kernel
theorem dX12_about_160 : decode cX12_about 160 = .ok (.ireturn, 1) := by decide +kernel
theorem dX12_abs_0 : decode cX12_abs 0 = .ok (.aload_n 0, 1) := by decide +kernel
theorem dX12_abs_1 : decode cX12_abs 1 = .ok (.iconst 0, 1) := by decide +kernel
theorem dX12_abs_2 : decode cX12_abs 2 = .ok (.putfield 108, 3) := by decide +kernel
theorem dX12_abs_5 : decode cX12_abs 5 = .ok (.iload_n 1, 1) := by decide +kernel
theorem dX12_abs_6 : decode cX12_abs 6 = .ok (.iconst 0, 1) := by decide +kernel
theorem dX12_abs_7 : decode cX12_abs 7 = .ok (.aload_n 0, 1) := by decide +kernel
theorem dX12_abs_8 : decode cX12_abs 8 = .ok (.getfield 279, 3) := by decide +kernel
theorem dX12_abs_11 : decode cX12_abs 11 = .ok (.iconst 1, 1) := by decide +kernel
theorem dX12_abs_12 : decode cX12_abs 12 = .ok (.isub, 1) := by decide +kernel
theorem dX12_abs_13 : decode cX12_abs 13 = .ok (.invokestatic 130, 3) := by decide +kernel
theorem dX12_abs_16 : decode cX12_abs 16 = .ok (.ifCond .eq 11, 3) := by decide +kernel
theorem dX12_abs_27 : decode cX12_abs 27 = .ok (.aload_n 0, 1) := by decide +kernel
theorem dX12_abs_28 : decode cX12_abs 28 = .ok (.iconst 1, 1) := by decide +kernel
theorem dX12_abs_29 : decode cX12_abs 29 = .ok (.invokevirtual 654, 3) := by decide +kernel
theorem dX12_abs_32 : decode cX12_abs 32 = .ok (.ireturn, 1) := by decide +kernel
theorem dX12_assume__0 : decode cX12_assume_ 0 = .ok (.aload_n 0, 1) := by decide +kernel
theorem dX12_assume__1 : decode cX12_assume_ 1 = .ok (.iconst 0, 1) := by decide +kernel
theorem dX12_assume__2 : decode cX12_assume_ 2 = .ok (.putfield 108, 3) := by decide +kernel
theorem dX12_assume__5 : decode cX12_assume_ 5 = .ok (.aload_n 0, 1) := by decide +kernel
theorem dX12_assume__6 : decode cX12_assume_ 6 = .ok (.iconst 5, 1) := by decide +kernel
theorem dX12_assume__7 : decode cX12_assume_ 7 = .ok (.iload_n 1, 1) := by decide +kernel
theorem dX12_assume__8 : decode cX12_assume_ 8 = .ok (.iconst (-1), 1) := by decide +kernel
theorem dX12_assume__9 : decode cX12_assume_ 9 = .ok (.iconst (-1), 1) := by decide +kernel
theorem dX12_assume__10 : decode cX12_assume_ 10 = .ok (.invokevirtual 714, 3) := by decide +kernel
theorem dX12_assume__13 : decode cX12_assume_ 13 = .ok (.ireturn, 1) := by decide +kernel
theorem dX12_begins_0 : decode cX12_begins 0 = .ok (.aload_n 0, 1) := by decide +kernel
theorem dX12_begins_1 : decode cX12_begins 1 = .ok (.iload_n 1, 1) := by decide +kernel
theorem dX12_begins_2 : decode cX12_begins 2 = .ok (.putfield 137, 3) := by decide +kernel
theorem dX12_begins_5 : decode cX12_begins 5 = .ok (.aload_n 0, 1) := by decide +kernel
theorem dX12_begins_6 : decode cX12_begins 6 = .ok (.iconst 0, 1) := by decide +kernel
theorem dX12_begins_7 : decode cX12_begins 7 = .ok (.putfield 114, 3) := by decide +kernel
theorem dX12_begins_10 : decode cX12_begins 10 = .ok (.aload_n 0, 1) := by decide +kernel
theorem dX12_begins_11 : decode cX12_begins 11 = .ok (.iconst 0, 1) := by decide +kernel
theorem dX12_begins_12 : decode cX12_begins 12 = .ok (.putfield 134, 3) := by decide +kernel
theorem dX12_begins_15 : decode cX12_begins 15 = .ok (.aload_n 0, 1) := by decide +kernel
theorem dX12_begins_16 : decode cX12_begins 16 = .ok (.iconst 0, 1) := by decide +kernel
theorem dX12_begins_17 : decode cX12_begins 17 = .ok (.putfield 117, 3) := by decide +kernel
theorem dX12_begins_20 : decode cX12_begins 20 = .ok (.aload_n 0, 1) := by decide +kernel
theorem dX12_begins_21 : decode cX12_begins 21 = .ok (.iconst 0, 1) := by decide +kernel
theorem dX12_begins_22 : decode cX12_begins 22 = .ok (.putfield 239, 3) := by decide +kernel
theorem dX12_begins_25 : decode cX12_begins 25 = .ok (.aload_n 0, 1) := by decide +kernel
theorem dX12_begins_26 : decode cX12_begins 26 = .ok (.iconst 0, 1) := by decide +kernel
theorem dX12_begins_27 : decode cX12_begins 27 = .ok (.putfield 242, 3) := by decide +kernel
theorem dX12_begins_30 : decode cX12_begins 30 = .ok (.aload_n 0, 1) := by decide +kernel
theorem dX12_begins_31 : decode cX12_begins 31 = .ok (.iconst 0, 1) := by decide +kernel
theorem dX12_begins_32 : decode cX12_begins 32 = .ok (.putfield 245, 3) := by decide +kernel
theorem dX12_begins_35 : decode cX12_begins 35 = .ok (.aload_n 0, 1) := by decide +kernel
theorem dX12_begins_36 : decode cX12_begins 36 = .ok (.invokevirtual 179, 3) := by decide +kernel
theorem dX12_begins_39 : decode cX12_begins 39 = .ok (.return_, 1) := by decide +kernel
theorem dX12_beginsPiece_0 : decode cX12_beginsPiece 0 = .ok (.aload_n 0, 1) := by decide +kernel
theorem dX12_beginsPiece_1 : decode cX12_beginsPiece 1 = .ok (.invokevirtual 273, 3) := by decide +kernel
theorem dX12_beginsPiece_4 : decode cX12_beginsPiece 4 = .ok (.ifCond .ne 21, 3) := by decide +kernel
theorem dX12_beginsPiece_7 : decode cX12_beginsPiece 7 = .ok (.aload_n 0, 1) := by decide +kernel
theorem dX12_beginsPiece_8 : decode cX12_beginsPiece 8 = .ok (.bipush 40, 2) := by decide +kernel
theorem dX12_beginsPiece_10 : decode cX12_beginsPiece 10 = .ok (.invokevirtual 172, 3) := by decide +kernel
theorem dX12_beginsPiece_13 : decode cX12_beginsPiece 13 = .ok (.ifCond .ne 12, 3) := by decide +kernel
theorem dX12_beginsPiece_16 : decode cX12_beginsPiece 16 = .ok (.aload_n 0, 1) := by decide +kernel
theorem dX12_beginsPiece_17 : decode cX12_beginsPiece 17 = .ok (.bipush 92, 2) := by decide +kernel
theorem dX12_beginsPiece_19 : decode cX12_beginsPiece 19 = .ok (.invokevirtual 172, 3) := by decide +kernel
theorem dX12_beginsPiece_22 : decode cX12_beginsPiece 22 = .ok (.ifCond .eq 7, 3) := by decide +kernel
theorem dX12_beginsPiece_29 : decode cX12_beginsPiece 29 = .ok (.iconst 0, 1) := by decide +kernel
theorem dX12_beginsPiece_30 : decode cX12_beginsPiece 30 = .ok (.ireturn, 1) := by decide +kernel
theorem dX12_beginsRules_0 : decode cX12_beginsRules 0 = .ok (.iconst 0, 1) := by decide +kernel
theorem dX12_beginsRules_1 : decode cX12_beginsRules 1 = .ok (.istore_n 1, 1) := by decide +kernel
theorem dX12_beginsRules_2 : decode cX12_beginsRules 2 = .ok (.iload_n 1, 1) := by decide +kernel
theorem dX12_beginsRules_3 : decode cX12_beginsRules 3 = .ok (.bipush 10, 2) := by decide +kernel
theorem dX12_beginsRules_5 : decode cX12_beginsRules 5 = .ok (.if_icmp .ge 16, 3) := by decide +kernel
theorem dX12_beginsRules_8 : decode cX12_beginsRules 8 = .ok (.aload_n 0, 1) := by decide +kernel
theorem dX12_beginsRules_9 : decode cX12_beginsRules 9 = .ok (.getfield 90, 3) := by decide +kernel
theorem dX12_beginsRules_12 : decode cX12_beginsRules 12 = .ok (.iload_n 1, 1) := by decide +kernel
theorem dX12_beginsRules_13 : decode cX12_beginsRules 13 = .ok (.iconst 0, 1) := by decide +kernel
theorem dX12_beginsRules_14 : decode cX12_beginsRules 14 = .ok (.iastore, 1) := by decide +kernel
theorem dX12_beginsRules_15 : decode cX12_beginsRules 15 = .ok (.iinc 1 1, 3) := by decide +kernel
theorem dX12_beginsRules_18 : decode cX12_beginsRules 18 = .ok (.goto (-16), 3) := by decide +kernel
theorem dX12_beginsRules_21 : decode cX12_beginsRules 21 = .ok (.aload_n 0, 1) := by decide +kernel
theorem dX12_beginsRules_22 : decode cX12_beginsRules 22 = .ok (.iconst 0, 1) := by decide +kernel
theorem dX12_beginsRules_23 : decode cX12_beginsRules 23 = .ok (.putfield 388, 3) := by decide +kernel
theorem dX12_beginsRules_26 : decode cX12_beginsRules 26 = .ok (.aload_n 0, 1) := by decide +kernel
theorem dX12_beginsRules_27 : decode cX12_beginsRules 27 = .ok (.iconst 0, 1) := by decide +kernel
theorem dX12_beginsRules_28 : decode cX12_beginsRules 28 = .ok (.putfield 391, 3) := by decide +kernel
theorem dX12_beginsRules_31 : decode cX12_beginsRules 31 = .ok (.aload_n 0, 1) := by decide +kernel
theorem dX12_beginsRules_32 : decode cX12_beginsRules 32 = .ok (.bipush 60, 2) := by decide +kernel
theorem dX12_beginsRules_34 : decode cX12_beginsRules 34 = .ok (.putfield 77, 3) := by decide +kernel
theorem dX12_beginsRules_37 : decode cX12_beginsRules 37 = .ok (.aload_n 0, 1) := by decide +kernel
theorem dX12_beginsRules_38 : decode cX12_beginsRules 38 = .ok (.iconst 0, 1) := by decide +kernel
theorem dX12_beginsRules_39 : decode cX12_beginsRules 39 = .ok (.putfield 330, 3) := by decide +kernel
theorem dX12_beginsRules_42 : decode cX12_beginsRules 42 = .ok (.aload_n 0, 1) := by decide +kernel
theorem dX12_beginsRules_43 : decode cX12_beginsRules 43 = .ok (.iconst 0, 1) := by decide +kernel
theorem dX12_beginsRules_44 : decode cX12_beginsRules 44 = .ok (.putfield 395, 3) := by decide +kernel
theorem dX12_beginsRules_47 : decode cX12_beginsRules 47 = .ok (.return_, 1) := by decide +kernel
theorem dX12_beta__0 : decode cX12_beta_ 0 = .ok (.aload_n 0, 1) := by decide +kernel
theorem dX12_beta__1 : decode cX12_beta_ 1 = .ok (.iconst 0, 1) := by decide +kernel
theorem dX12_beta__2 : decode cX12_beta_ 2 = .ok (.putfield 108, 3) := by decide +kernel
theorem dX12_beta__5 : decode cX12_beta_ 5 = .ok (.aload_n 0, 1) := by decide +kernel
theorem dX12_beta__6 : decode cX12_beta_ 6 = .ok (.iconst 4, 1) := by decide +kernel
theorem dX12_beta__7 : decode cX12_beta_ 7 = .ok (.iload_n 1, 1) := by decide +kernel
theorem dX12_beta__8 : decode cX12_beta_ 8 = .ok (.iconst (-1), 1) := by decide +kernel
theorem dX12_beta__9 : decode cX12_beta_ 9 = .ok (.iconst (-1), 1) := by decide +kernel
theorem dX12_beta__10 : decode cX12_beta_ 10 = .ok (.invokevirtual 714, 3) := by decide +kernel
theorem dX12_beta__13 : decode cX12_beta_ 13 = .ok (.ireturn, 1) := by decide +kernel
theorem dX12_better_0 : decode cX12_better 0 = .ok (.aload_n 0, 1) := by decide +kernel
theorem dX12_better_1 : decode cX12_better 1 = .ok (.iconst 0, 1) := by decide +kernel
theorem dX12_better_2 : decode cX12_better 2 = .ok (.putfield 108, 3) := by decide +kernel
theorem dX12_better_5 : decode cX12_better 5 = .ok (.aload_n 0, 1) := by decide +kernel
theorem dX12_better_6 : decode cX12_better 6 = .ok (.iload_n 1, 1) := by decide +kernel
theorem dX12_better_7 : decode cX12_better 7 = .ok (.invokevirtual 678, 3) := by decide +kernel
theorem dX12_better_10 : decode cX12_better 10 = .ok (.ifCond .ne 9, 3) := by decide +kernel
theorem dX12_better_13 : decode cX12_better 13 = .ok (.aload_n 0, 1) := by decide +kernel
theorem dX12_better_14 : decode cX12_better 14 = .ok (.iconst 1, 1) := by decide +kernel
theorem dX12_better_15 : decode cX12_better 15 = .ok (.invokevirtual 654, 3) := by decide +kernel
theorem dX12_better_18 : decode cX12_better 18 = .ok (.ireturn, 1) := by decide +kernel
theorem dX12_callsOnTape_0 : decode cX12_callsOnTape 0 = .ok (.aload_n 0, 1) := by decide +kernel
theorem dX12_callsOnTape_1 : decode cX12_callsOnTape 1 = .ok (.iload_n 2, 1) := by decide +kernel
theorem dX12_callsOnTape_2 : decode cX12_callsOnTape 2 = .ok (.invokevirtual 651, 3) := by decide +kernel
theorem dX12_callsOnTape_5 : decode cX12_callsOnTape 5 = .ok (.ifCond .eq 9, 3) := by decide +kernel
theorem dX12_callsOnTape_8 : decode cX12_callsOnTape 8 = .ok (.aload_n 0, 1) := by decide +kernel
theorem dX12_callsOnTape_9 : decode cX12_callsOnTape 9 = .ok (.iconst 2, 1) := by decide +kernel
theorem dX12_callsOnTape_10 : decode cX12_callsOnTape 10 = .ok (.invokevirtual 654, 3) := by decide +kernel
theorem dX12_callsOnTape_13 : decode cX12_callsOnTape 13 = .ok (.ireturn, 1) := by decide +kernel
theorem dX12_callsOnTape_14 : decode cX12_callsOnTape 14 = .ok (.aload_n 0, 1) := by decide +kernel
theorem dX12_callsOnTape_15 : decode cX12_callsOnTape 15 = .ok (.iload_n 2, 1) := by decide +kernel
theorem dX12_callsOnTape_16 : decode cX12_callsOnTape 16 = .ok (.invokevirtual 702, 3) := by decide +kernel
theorem dX12_callsOnTape_19 : decode cX12_callsOnTape 19 = .ok (.istore 5, 2) := by decide +kernel
theorem dX12_callsOnTape_21 : decode cX12_callsOnTape 21 = .ok (.aload_n 0, 1) := by decide +kernel
theorem dX12_callsOnTape_22 : decode cX12_callsOnTape 22 = .ok (.getfield 117, 3) := by decide +kernel
theorem dX12_callsOnTape_25 : decode cX12_callsOnTape 25 = .ok (.ifCond .le 10, 3) := by decide +kernel
theorem dX12_callsOnTape_28 : decode cX12_callsOnTape 28 = .ok (.aload_n 0, 1) := by decide +kernel
theorem dX12_callsOnTape_29 : decode cX12_callsOnTape 29 = .ok (.invokevirtual 668, 3) := by decide +kernel
theorem dX12_callsOnTape_32 : decode cX12_callsOnTape 32 = .ok (.goto 17, 3) := by decide +kernel
theorem dX12_callsOnTape_49 : decode cX12_callsOnTape 49 = .ok (.ireturn, 1) := by decide +kernel
theorem dX12_callsOnTwo_0 : decode cX12_callsOnTwo 0 = .ok (.aload_n 0, 1) := by decide +kernel
theorem dX12_callsOnTwo_1 : decode cX12_callsOnTwo 1 = .ok (.iconst 0, 1) := by decide +kernel
theorem dX12_callsOnTwo_2 : decode cX12_callsOnTwo 2 = .ok (.putfield 108, 3) := by decide +kernel
theorem dX12_callsOnTwo_5 : decode cX12_callsOnTwo 5 = .ok (.aload_n 0, 1) := by decide +kernel
theorem dX12_callsOnTwo_6 : decode cX12_callsOnTwo 6 = .ok (.iload_n 2, 1) := by decide +kernel
theorem dX12_callsOnTwo_7 : decode cX12_callsOnTwo 7 = .ok (.invokevirtual 678, 3) := by decide +kernel
theorem dX12_callsOnTwo_10 : decode cX12_callsOnTwo 10 = .ok (.ifCond .eq 11, 3) := by decide +kernel
theorem dX12_callsOnTwo_21 : decode cX12_callsOnTwo 21 = .ok (.aload_n 0, 1) := by decide +kernel
theorem dX12_callsOnTwo_22 : decode cX12_callsOnTwo 22 = .ok (.iconst 1, 1) := by decide +kernel
theorem dX12_callsOnTwo_23 : decode cX12_callsOnTwo 23 = .ok (.invokevirtual 654, 3) := by decide +kernel
theorem dX12_callsOnTwo_26 : decode cX12_callsOnTwo 26 = .ok (.ireturn, 1) := by decide +kernel
theorem dX12_comb__0 : decode cX12_comb_ 0 = .ok (.aload_n 0, 1) := by decide +kernel
theorem dX12_comb__1 : decode cX12_comb_ 1 = .ok (.iconst 2, 1) := by decide +kernel
theorem dX12_comb__2 : decode cX12_comb_ 2 = .ok (.iload_n 1, 1) := by decide +kernel
theorem dX12_comb__3 : decode cX12_comb_ 3 = .ok (.iload_n 2, 1) := by decide +kernel
theorem dX12_comb__4 : decode cX12_comb_ 4 = .ok (.invokevirtual 717, 3) := by decide +kernel
theorem dX12_comb__7 : decode cX12_comb_ 7 = .ok (.ireturn, 1) := by decide +kernel
theorem dX12_convert_0 : decode cX12_convert 0 = .ok (.aload_n 0, 1) := by decide +kernel
theorem dX12_convert_1 : decode cX12_convert 1 = .ok (.iconst 0, 1) := by decide +kernel
theorem dX12_convert_2 : decode cX12_convert 2 = .ok (.putfield 108, 3) := by decide +kernel
theorem dX12_convert_5 : decode cX12_convert 5 = .ok (.aload_n 0, 1) := by decide +kernel
theorem dX12_convert_6 : decode cX12_convert 6 = .ok (.iload_n 1, 1) := by decide +kernel
theorem dX12_convert_7 : decode cX12_convert 7 = .ok (.invokevirtual 651, 3) := by decide +kernel
theorem dX12_convert_10 : decode cX12_convert 10 = .ok (.ifCond .eq 9, 3) := by decide +kernel
theorem dX12_convert_13 : decode cX12_convert 13 = .ok (.aload_n 0, 1) := by decide +kernel
theorem dX12_convert_14 : decode cX12_convert 14 = .ok (.iconst 2, 1) := by decide +kernel
theorem dX12_convert_15 : decode cX12_convert 15 = .ok (.invokevirtual 654, 3) := by decide +kernel
theorem dX12_convert_18 : decode cX12_convert 18 = .ok (.ireturn, 1) := by decide +kernel
theorem dX12_convert_19 : decode cX12_convert 19 = .ok (.aload_n 0, 1) := by decide +kernel
theorem dX12_convert_20 : decode cX12_convert 20 = .ok (.invokevirtual 657, 3) := by decide +kernel
theorem dX12_convert_23 : decode cX12_convert 23 = .ok (.aload_n 0, 1) := by decide +kernel
theorem dX12_convert_24 : decode cX12_convert 24 = .ok (.iconst 0, 1) := by decide +kernel
theorem dX12_convert_25 : decode cX12_convert 25 = .ok (.putfield 488, 3) := by decide +kernel
theorem dX12_convert_28 : decode cX12_convert 28 = .ok (.aload_n 0, 1) := by decide +kernel
theorem dX12_convert_29 : decode cX12_convert 29 = .ok (.iload_n 1, 1) := by decide +kernel
theorem dX12_convert_30 : decode cX12_convert 30 = .ok (.invokevirtual 660, 3) := by decide +kernel
theorem dX12_convert_33 : decode cX12_convert 33 = .ok (.aload_n 0, 1) := by decide +kernel
theorem dX12_convert_34 : decode cX12_convert 34 = .ok (.invokevirtual 510, 3) := by decide +kernel
theorem dX12_convert_37 : decode cX12_convert 37 = .ok (.istore_n 2, 1) := by decide +kernel
theorem dX12_convert_38 : decode cX12_convert 38 = .ok (.aload_n 0, 1) := by decide +kernel
theorem dX12_convert_39 : decode cX12_convert 39 = .ok (.bipush 59, 2) := by decide +kernel
theorem dX12_convert_41 : decode cX12_convert 41 = .ok (.invokevirtual 254, 3) := by decide +kernel
theorem dX12_convert_44 : decode cX12_convert 44 = .ok (.aload_n 0, 1) := by decide +kernel
theorem dX12_convert_45 : decode cX12_convert 45 = .ok (.aload_n 0, 1) := by decide +kernel
theorem dX12_convert_46 : decode cX12_convert 46 = .ok (.invokevirtual 333, 3) := by decide +kernel
theorem dX12_convert_49 : decode cX12_convert 49 = .ok (.iconst 0, 1) := by decide +kernel
theorem dX12_convert_50 : decode cX12_convert 50 = .ok (.invokevirtual 604, 3) := by decide +kernel
theorem dX12_convert_53 : decode cX12_convert 53 = .ok (.istore_n 3, 1) := by decide +kernel
theorem dX12_convert_54 : decode cX12_convert 54 = .ok (.aload_n 0, 1) := by decide +kernel
theorem dX12_convert_55 : decode cX12_convert 55 = .ok (.invokevirtual 665, 3) := by decide +kernel
theorem dX12_convert_58 : decode cX12_convert 58 = .ok (.aload_n 0, 1) := by decide +kernel
theorem dX12_convert_59 : decode cX12_convert 59 = .ok (.getfield 117, 3) := by decide +kernel
theorem dX12_convert_62 : decode cX12_convert 62 = .ok (.ifCond .le 10, 3) := by decide +kernel
theorem dX12_convert_65 : decode cX12_convert 65 = .ok (.aload_n 0, 1) := by decide +kernel
theorem dX12_convert_66 : decode cX12_convert 66 = .ok (.invokevirtual 668, 3) := by decide +kernel
theorem dX12_convert_69 : decode cX12_convert 69 = .ok (.goto 15, 3) := by decide +kernel
theorem dX12_convert_84 : decode cX12_convert 84 = .ok (.ireturn, 1) := by decide +kernel
theorem dX12_decide_0 : decode cX12_decide 0 = .ok (.aload_n 0, 1) := by decide +kernel
theorem dX12_decide_1 : decode cX12_decide 1 = .ok (.iconst 0, 1) := by decide +kernel
theorem dX12_decide_2 : decode cX12_decide 2 = .ok (.putfield 108, 3) := by decide +kernel
theorem dX12_decide_5 : decode cX12_decide 5 = .ok (.aload_n 0, 1) := by decide +kernel
theorem dX12_decide_6 : decode cX12_decide 6 = .ok (.iload_n 1, 1) := by decide +kernel
theorem dX12_decide_7 : decode cX12_decide 7 = .ok (.invokevirtual 651, 3) := by decide +kernel
theorem dX12_decide_10 : decode cX12_decide 10 = .ok (.ifCond .eq 9, 3) := by decide +kernel
theorem dX12_decide_13 : decode cX12_decide 13 = .ok (.aload_n 0, 1) := by decide +kernel
theorem dX12_decide_14 : decode cX12_decide 14 = .ok (.iconst 2, 1) := by decide +kernel
theorem dX12_decide_15 : decode cX12_decide 15 = .ok (.invokevirtual 654, 3) := by decide +kernel
theorem dX12_decide_18 : decode cX12_decide 18 = .ok (.ireturn, 1) := by decide +kernel
theorem dX12_decide_19 : decode cX12_decide 19 = .ok (.aload_n 0, 1) := by decide +kernel
theorem dX12_decide_20 : decode cX12_decide 20 = .ok (.iload_n 1, 1) := by decide +kernel
theorem dX12_decide_21 : decode cX12_decide 21 = .ok (.invokevirtual 702, 3) := by decide +kernel
theorem dX12_decide_24 : decode cX12_decide 24 = .ok (.istore_n 2, 1) := by decide +kernel
theorem dX12_decide_25 : decode cX12_decide 25 = .ok (.aload_n 0, 1) := by decide +kernel
theorem dX12_decide_26 : decode cX12_decide 26 = .ok (.getfield 117, 3) := by decide +kernel
theorem dX12_decide_29 : decode cX12_decide 29 = .ok (.ifCond .le 8, 3) := by decide +kernel
theorem dX12_decide_32 : decode cX12_decide 32 = .ok (.aload_n 0, 1) := by decide +kernel
theorem dX12_decide_33 : decode cX12_decide 33 = .ok (.invokevirtual 668, 3) := by decide +kernel
theorem dX12_decide_36 : decode cX12_decide 36 = .ok (.ireturn, 1) := by decide +kernel
theorem dX12_deduct__0 : decode cX12_deduct_ 0 = .ok (.aload_n 0, 1) := by decide +kernel
theorem dX12_deduct__1 : decode cX12_deduct_ 1 = .ok (.bipush 7, 2) := by decide +kernel
theorem dX12_deduct__3 : decode cX12_deduct_ 3 = .ok (.iload_n 1, 1) := by decide +kernel
theorem dX12_deduct__4 : decode cX12_deduct_ 4 = .ok (.iload_n 2, 1) := by decide +kernel
theorem dX12_deduct__5 : decode cX12_deduct_ 5 = .ok (.invokevirtual 717, 3) := by decide +kernel
theorem dX12_deduct__8 : decode cX12_deduct_ 8 = .ok (.ireturn, 1) := by decide +kernel
theorem dX12_eqmp__0 : decode cX12_eqmp_ 0 = .ok (.aload_n 0, 1) := by decide +kernel
theorem dX12_eqmp__1 : decode cX12_eqmp_ 1 = .ok (.bipush 6, 2) := by decide +kernel
theorem dX12_eqmp__3 : decode cX12_eqmp_ 3 = .ok (.iload_n 1, 1) := by decide +kernel
theorem dX12_eqmp__4 : decode cX12_eqmp_ 4 = .ok (.iload_n 2, 1) := by decide +kernel
theorem dX12_eqmp__5 : decode cX12_eqmp_ 5 = .ok (.invokevirtual 717, 3) := by decide +kernel
theorem dX12_eqmp__8 : decode cX12_eqmp_ 8 = .ok (.ireturn, 1) := by decide +kernel
theorem dX12_eta__0 : decode cX12_eta_ 0 = .ok (.aload_n 0, 1) := by decide +kernel
theorem dX12_eta__1 : decode cX12_eta_ 1 = .ok (.iconst 0, 1) := by decide +kernel
theorem dX12_eta__2 : decode cX12_eta_ 2 = .ok (.putfield 108, 3) := by decide +kernel
theorem dX12_eta__5 : decode cX12_eta_ 5 = .ok (.aload_n 0, 1) := by decide +kernel
theorem dX12_eta__6 : decode cX12_eta_ 6 = .ok (.bipush 9, 2) := by decide +kernel
theorem dX12_eta__8 : decode cX12_eta_ 8 = .ok (.iload_n 1, 1) := by decide +kernel
theorem dX12_eta__9 : decode cX12_eta_ 9 = .ok (.iconst (-1), 1) := by decide +kernel
theorem dX12_eta__10 : decode cX12_eta_ 10 = .ok (.iconst (-1), 1) := by decide +kernel
theorem dX12_eta__11 : decode cX12_eta_ 11 = .ok (.invokevirtual 714, 3) := by decide +kernel
theorem dX12_eta__14 : decode cX12_eta_ 14 = .ok (.ireturn, 1) := by decide +kernel
theorem dX12_fault_0 : decode cX12_fault 0 = .ok (.aload_n 0, 1) := by decide +kernel
theorem dX12_fault_1 : decode cX12_fault 1 = .ok (.iconst 0, 1) := by decide +kernel
theorem dX12_fault_2 : decode cX12_fault 2 = .ok (.putfield 108, 3) := by decide +kernel
theorem dX12_fault_5 : decode cX12_fault 5 = .ok (.aload_n 0, 1) := by decide +kernel
theorem dX12_fault_6 : decode cX12_fault 6 = .ok (.getfield 117, 3) := by decide +kernel
theorem dX12_fault_9 : decode cX12_fault 9 = .ok (.ireturn, 1) := by decide +kernel
theorem dX12_faulty_0 : decode cX12_faulty 0 = .ok (.aload_n 0, 1) := by decide +kernel
theorem dX12_faulty_1 : decode cX12_faulty 1 = .ok (.iconst 4, 1) := by decide +kernel
theorem dX12_faulty_2 : decode cX12_faulty 2 = .ok (.putfield 111, 3) := by decide +kernel
theorem dX12_faulty_5 : decode cX12_faulty 5 = .ok (.aload_n 0, 1) := by decide +kernel
theorem dX12_faulty_6 : decode cX12_faulty 6 = .ok (.aload_n 0, 1) := by decide +kernel
theorem dX12_faulty_7 : decode cX12_faulty 7 = .ok (.getfield 120, 3) := by decide +kernel
theorem dX12_faulty_10 : decode cX12_faulty 10 = .ok (.putfield 9, 3) := by decide +kernel
theorem dX12_faulty_13 : decode cX12_faulty 13 = .ok (.iconst (-1), 1) := by decide +kernel
theorem dX12_faulty_14 : decode cX12_faulty 14 = .ok (.ireturn, 1) := by decide +kernel
theorem dX12_feed_0 : decode cX12_feed 0 = .ok (.aload_n 0, 1) := by decide +kernel
theorem dX12_feed_1 : decode cX12_feed 1 = .ok (.iconst 0, 1) := by decide +kernel
theorem dX12_feed_2 : decode cX12_feed 2 = .ok (.putfield 108, 3) := by decide +kernel
theorem dX12_feed_5 : decode cX12_feed 5 = .ok (.aload_n 0, 1) := by decide +kernel
theorem dX12_feed_6 : decode cX12_feed 6 = .ok (.getfield 114, 3) := by decide +kernel
theorem dX12_feed_9 : decode cX12_feed 9 = .ok (.bipush 20, 2) := by decide +kernel
theorem dX12_feed_11 : decode cX12_feed 11 = .ok (.iadd, 1) := by decide +kernel
theorem dX12_feed_12 : decode cX12_feed 12 = .ok (.sipush 400, 3) := by decide +kernel
theorem dX12_feed_15 : decode cX12_feed 15 = .ok (.if_icmp .le 5, 3) := by decide +kernel
theorem dX12_feed_20 : decode cX12_feed 20 = .ok (.iconst 0, 1) := by decide +kernel
theorem dX12_feed_21 : decode cX12_feed 21 = .ok (.istore 6, 2) := by decide +kernel
theorem dX12_feed_23 : decode cX12_feed 23 = .ok (.iload 6, 2) := by decide +kernel
theorem dX12_feed_25 : decode cX12_feed 25 = .ok (.bipush 20, 2) := by decide +kernel
theorem dX12_feed_27 : decode cX12_feed 27 = .ok (.if_icmp .ge 86, 3) := by decide +kernel
theorem dX12_feed_30 : decode cX12_feed 30 = .ok (.iload 6, 2) := by decide +kernel
theorem dX12_feed_32 : decode cX12_feed 32 = .ok (.iconst 4, 1) := by decide +kernel
theorem dX12_feed_33 : decode cX12_feed 33 = .ok (.if_icmp .ge 7, 3) := by decide +kernel
theorem dX12_feed_36 : decode cX12_feed 36 = .ok (.iload_n 1, 1) := by decide +kernel
theorem dX12_feed_37 : decode cX12_feed 37 = .ok (.goto 39, 3) := by decide +kernel
theorem dX12_feed_40 : decode cX12_feed 40 = .ok (.iload 6, 2) := by decide +kernel
theorem dX12_feed_42 : decode cX12_feed 42 = .ok (.bipush 8, 2) := by decide +kernel
theorem dX12_feed_44 : decode cX12_feed 44 = .ok (.if_icmp .ge 7, 3) := by decide +kernel
theorem dX12_feed_47 : decode cX12_feed 47 = .ok (.iload_n 2, 1) := by decide +kernel
theorem dX12_feed_48 : decode cX12_feed 48 = .ok (.goto 28, 3) := by decide +kernel
theorem dX12_feed_51 : decode cX12_feed 51 = .ok (.iload 6, 2) := by decide +kernel
theorem dX12_feed_53 : decode cX12_feed 53 = .ok (.bipush 12, 2) := by decide +kernel
theorem dX12_feed_55 : decode cX12_feed 55 = .ok (.if_icmp .ge 7, 3) := by decide +kernel
theorem dX12_feed_58 : decode cX12_feed 58 = .ok (.iload_n 3, 1) := by decide +kernel
theorem dX12_feed_59 : decode cX12_feed 59 = .ok (.goto 17, 3) := by decide +kernel
theorem dX12_feed_62 : decode cX12_feed 62 = .ok (.iload 6, 2) := by decide +kernel
theorem dX12_feed_64 : decode cX12_feed 64 = .ok (.bipush 16, 2) := by decide +kernel
theorem dX12_feed_66 : decode cX12_feed 66 = .ok (.if_icmp .ge 8, 3) := by decide +kernel
theorem dX12_feed_69 : decode cX12_feed 69 = .ok (.iload 4, 2) := by decide +kernel
theorem dX12_feed_71 : decode cX12_feed 71 = .ok (.goto 5, 3) := by decide +kernel
theorem dX12_feed_74 : decode cX12_feed 74 = .ok (.iload 5, 2) := by decide +kernel
theorem dX12_feed_76 : decode cX12_feed 76 = .ok (.istore 7, 2) := by decide +kernel
theorem dX12_feed_78 : decode cX12_feed 78 = .ok (.aload_n 0, 1) := by decide +kernel
theorem dX12_feed_79 : decode cX12_feed 79 = .ok (.getfield 13, 3) := by decide +kernel
theorem dX12_feed_82 : decode cX12_feed 82 = .ok (.aload_n 0, 1) := by decide +kernel
theorem dX12_feed_83 : decode cX12_feed 83 = .ok (.getfield 114, 3) := by decide +kernel
theorem dX12_feed_86 : decode cX12_feed 86 = .ok (.iload 6, 2) := by decide +kernel
theorem dX12_feed_88 : decode cX12_feed 88 = .ok (.iadd, 1) := by decide +kernel
theorem dX12_feed_89 : decode cX12_feed 89 = .ok (.iload 7, 2) := by decide +kernel
theorem dX12_feed_91 : decode cX12_feed 91 = .ok (.bipush 24, 2) := by decide +kernel
theorem dX12_feed_93 : decode cX12_feed 93 = .ok (.bipush 8, 2) := by decide +kernel
theorem dX12_feed_95 : decode cX12_feed 95 = .ok (.iload 6, 2) := by decide +kernel
theorem dX12_feed_97 : decode cX12_feed 97 = .ok (.iconst 4, 1) := by decide +kernel
theorem dX12_feed_98 : decode cX12_feed 98 = .ok (.irem, 1) := by decide +kernel
theorem dX12_feed_99 : decode cX12_feed 99 = .ok (.imul, 1) := by decide +kernel
theorem dX12_feed_100 : decode cX12_feed 100 = .ok (.isub, 1) := by decide +kernel
theorem dX12_feed_101 : decode cX12_feed 101 = .ok (.ishr, 1) := by decide +kernel
theorem dX12_feed_102 : decode cX12_feed 102 = .ok (.sipush 255, 3) := by decide +kernel
theorem dX12_feed_105 : decode cX12_feed 105 = .ok (.iand, 1) := by decide +kernel
theorem dX12_feed_106 : decode cX12_feed 106 = .ok (.iastore, 1) := by decide +kernel
theorem dX12_feed_107 : decode cX12_feed 107 = .ok (.iinc 6 1, 3) := by decide +kernel
theorem dX12_feed_110 : decode cX12_feed 110 = .ok (.goto (-87), 3) := by decide +kernel
theorem dX12_feed_113 : decode cX12_feed 113 = .ok (.aload_n 0, 1) := by decide +kernel
theorem dX12_feed_114 : decode cX12_feed 114 = .ok (.dup, 1) := by decide +kernel
theorem dX12_feed_115 : decode cX12_feed 115 = .ok (.getfield 114, 3) := by decide +kernel
theorem dX12_feed_118 : decode cX12_feed 118 = .ok (.bipush 20, 2) := by decide +kernel
theorem dX12_feed_120 : decode cX12_feed 120 = .ok (.iadd, 1) := by decide +kernel
theorem dX12_feed_121 : decode cX12_feed 121 = .ok (.putfield 114, 3) := by decide +kernel
theorem dX12_feed_124 : decode cX12_feed 124 = .ok (.aload_n 0, 1) := by decide +kernel
theorem dX12_feed_125 : decode cX12_feed 125 = .ok (.getfield 114, 3) := by decide +kernel
theorem dX12_feed_128 : decode cX12_feed 128 = .ok (.ireturn, 1) := by decide +kernel
theorem dX12_flaw_0 : decode cX12_flaw 0 = .ok (.aload_n 0, 1) := by decide +kernel
theorem dX12_flaw_1 : decode cX12_flaw 1 = .ok (.iload_n 1, 1) := by decide +kernel
theorem dX12_flaw_2 : decode cX12_flaw 2 = .ok (.aload_n 0, 1) := by decide +kernel
theorem dX12_flaw_3 : decode cX12_flaw 3 = .ok (.getfield 123, 3) := by decide +kernel
theorem dX12_flaw_6 : decode cX12_flaw 6 = .ok (.invokevirtual 126, 3) := by decide +kernel
theorem dX12_flaw_9 : decode cX12_flaw 9 = .ok (.return_, 1) := by decide +kernel
theorem dX12_flawAt_0 : decode cX12_flawAt 0 = .ok (.aload_n 0, 1) := by decide +kernel
theorem dX12_flawAt_1 : decode cX12_flawAt 1 = .ok (.getfield 117, 3) := by decide +kernel
theorem dX12_flawAt_4 : decode cX12_flawAt 4 = .ok (.ifCond .le 4, 3) := by decide +kernel
theorem dX12_flawAt_7 : decode cX12_flawAt 7 = .ok (.return_, 1) := by decide +kernel
theorem dX12_flawAt_8 : decode cX12_flawAt 8 = .ok (.aload_n 0, 1) := by decide +kernel
theorem dX12_flawAt_9 : decode cX12_flawAt 9 = .ok (.iload_n 1, 1) := by decide +kernel
theorem dX12_flawAt_10 : decode cX12_flawAt 10 = .ok (.putfield 117, 3) := by decide +kernel
theorem dX12_flawAt_13 : decode cX12_flawAt 13 = .ok (.aload_n 0, 1) := by decide +kernel
theorem dX12_flawAt_14 : decode cX12_flawAt 14 = .ok (.iload_n 2, 1) := by decide +kernel
theorem dX12_flawAt_15 : decode cX12_flawAt 15 = .ok (.putfield 120, 3) := by decide +kernel
theorem dX12_flawAt_18 : decode cX12_flawAt 18 = .ok (.return_, 1) := by decide +kernel
theorem dX12_fresh_0 : decode cX12_fresh 0 = .ok (.aload_n 0, 1) := by decide +kernel
theorem dX12_fresh_1 : decode cX12_fresh 1 = .ok (.iconst 0, 1) := by decide +kernel
theorem dX12_fresh_2 : decode cX12_fresh 2 = .ok (.putfield 108, 3) := by decide +kernel
theorem dX12_fresh_5 : decode cX12_fresh 5 = .ok (.aload_n 0, 1) := by decide +kernel
theorem dX12_fresh_6 : decode cX12_fresh 6 = .ok (.getfield 491, 3) := by decide +kernel
theorem dX12_fresh_9 : decode cX12_fresh 9 = .ok (.istore_n 1, 1) := by decide +kernel
theorem dX12_fresh_10 : decode cX12_fresh 10 = .ok (.aload_n 0, 1) := by decide +kernel
theorem dX12_fresh_11 : decode cX12_fresh 11 = .ok (.iconst 0, 1) := by decide +kernel
theorem dX12_fresh_12 : decode cX12_fresh 12 = .ok (.putfield 279, 3) := by decide +kernel
theorem dX12_fresh_15 : decode cX12_fresh 15 = .ok (.aload_n 0, 1) := by decide +kernel
theorem dX12_fresh_16 : decode cX12_fresh 16 = .ok (.iconst 0, 1) := by decide +kernel
theorem dX12_fresh_17 : decode cX12_fresh 17 = .ok (.putfield 286, 3) := by decide +kernel
theorem dX12_fresh_20 : decode cX12_fresh 20 = .ok (.aload_n 0, 1) := by decide +kernel
theorem dX12_fresh_21 : decode cX12_fresh 21 = .ok (.iconst 0, 1) := by decide +kernel
theorem dX12_fresh_22 : decode cX12_fresh 22 = .ok (.putfield 491, 3) := by decide +kernel
theorem dX12_fresh_25 : decode cX12_fresh 25 = .ok (.iconst 0, 1) := by decide +kernel
theorem dX12_fresh_26 : decode cX12_fresh 26 = .ok (.istore_n 2, 1) := by decide +kernel
theorem dX12_fresh_27 : decode cX12_fresh 27 = .ok (.iload_n 2, 1) := by decide +kernel
theorem dX12_fresh_28 : decode cX12_fresh 28 = .ok (.bipush 10, 2) := by decide +kernel
theorem dX12_fresh_30 : decode cX12_fresh 30 = .ok (.if_icmp .ge 16, 3) := by decide +kernel
theorem dX12_fresh_33 : decode cX12_fresh 33 = .ok (.aload_n 0, 1) := by decide +kernel
theorem dX12_fresh_34 : decode cX12_fresh 34 = .ok (.getfield 93, 3) := by decide +kernel
theorem dX12_fresh_37 : decode cX12_fresh 37 = .ok (.iload_n 2, 1) := by decide +kernel
theorem dX12_fresh_38 : decode cX12_fresh 38 = .ok (.iconst 0, 1) := by decide +kernel
theorem dX12_fresh_39 : decode cX12_fresh 39 = .ok (.iastore, 1) := by decide +kernel
theorem dX12_fresh_40 : decode cX12_fresh 40 = .ok (.iinc 2 1, 3) := by decide +kernel
theorem dX12_fresh_43 : decode cX12_fresh 43 = .ok (.goto (-16), 3) := by decide +kernel
theorem dX12_fresh_46 : decode cX12_fresh 46 = .ok (.iload_n 1, 1) := by decide +kernel
theorem dX12_fresh_47 : decode cX12_fresh 47 = .ok (.ireturn, 1) := by decide +kernel
theorem dX12_goOn_0 : decode cX12_goOn 0 = .ok (.aload_n 0, 1) := by decide +kernel
theorem dX12_goOn_1 : decode cX12_goOn 1 = .ok (.getfield 117, 3) := by decide +kernel
theorem dX12_goOn_4 : decode cX12_goOn 4 = .ok (.ifCond .le 4, 3) := by decide +kernel
theorem dX12_goOn_7 : decode cX12_goOn 7 = .ok (.return_, 1) := by decide +kernel
theorem dX12_goOn_8 : decode cX12_goOn 8 = .ok (.aload_n 0, 1) := by decide +kernel
theorem dX12_goOn_9 : decode cX12_goOn 9 = .ok (.getfield 134, 3) := by decide +kernel
theorem dX12_goOn_12 : decode cX12_goOn 12 = .ok (.aload_n 0, 1) := by decide +kernel
theorem dX12_goOn_13 : decode cX12_goOn 13 = .ok (.getfield 137, 3) := by decide +kernel
theorem dX12_goOn_16 : decode cX12_goOn 16 = .ok (.if_icmp .ge 30, 3) := by decide +kernel
theorem dX12_goOn_46 : decode cX12_goOn 46 = .ok (.aload_n 0, 1) := by decide +kernel
theorem dX12_goOn_47 : decode cX12_goOn 47 = .ok (.aload_n 0, 1) := by decide +kernel
theorem dX12_goOn_48 : decode cX12_goOn 48 = .ok (.getfield 134, 3) := by decide +kernel
theorem dX12_goOn_51 : decode cX12_goOn 51 = .ok (.putfield 123, 3) := by decide +kernel
theorem dX12_goOn_54 : decode cX12_goOn 54 = .ok (.aload_n 0, 1) := by decide +kernel
theorem dX12_goOn_55 : decode cX12_goOn 55 = .ok (.getfield 134, 3) := by decide +kernel
theorem dX12_goOn_58 : decode cX12_goOn 58 = .ok (.aload_n 0, 1) := by decide +kernel
theorem dX12_goOn_59 : decode cX12_goOn 59 = .ok (.getfield 137, 3) := by decide +kernel
theorem dX12_goOn_62 : decode cX12_goOn 62 = .ok (.if_icmp .ne 9, 3) := by decide +kernel
theorem dX12_goOn_65 : decode cX12_goOn 65 = .ok (.aload_n 0, 1) := by decide +kernel
theorem dX12_goOn_66 : decode cX12_goOn 66 = .ok (.iconst 1, 1) := by decide +kernel
theorem dX12_goOn_67 : decode cX12_goOn 67 = .ok (.putfield 140, 3) := by decide +kernel
theorem dX12_goOn_70 : decode cX12_goOn 70 = .ok (.return_, 1) := by decide +kernel
theorem dX12_good_0 : decode cX12_good 0 = .ok (.aload_n 0, 1) := by decide +kernel
theorem dX12_good_1 : decode cX12_good 1 = .ok (.iconst 0, 1) := by decide +kernel
theorem dX12_good_2 : decode cX12_good 2 = .ok (.putfield 111, 3) := by decide +kernel
theorem dX12_good_5 : decode cX12_good 5 = .ok (.aload_n 0, 1) := by decide +kernel
theorem dX12_good_6 : decode cX12_good 6 = .ok (.iconst (-1), 1) := by decide +kernel
theorem dX12_good_7 : decode cX12_good 7 = .ok (.putfield 9, 3) := by decide +kernel
theorem dX12_good_10 : decode cX12_good 10 = .ok (.iload_n 1, 1) := by decide +kernel
theorem dX12_good_11 : decode cX12_good 11 = .ok (.ireturn, 1) := by decide +kernel
theorem dX12_in_0 : decode cX12_in 0 = .ok (.iload_n 0, 1) := by decide +kernel
theorem dX12_in_1 : decode cX12_in 1 = .ok (.iload_n 1, 1) := by decide +kernel
theorem dX12_in_2 : decode cX12_in 2 = .ok (.if_icmp .lt 12, 3) := by decide +kernel
theorem dX12_in_5 : decode cX12_in 5 = .ok (.iload_n 0, 1) := by decide +kernel
theorem dX12_in_6 : decode cX12_in 6 = .ok (.iload_n 2, 1) := by decide +kernel
theorem dX12_in_7 : decode cX12_in 7 = .ok (.if_icmp .gt 7, 3) := by decide +kernel
theorem dX12_in_10 : decode cX12_in 10 = .ok (.iconst 1, 1) := by decide +kernel
theorem dX12_in_11 : decode cX12_in 11 = .ok (.goto 4, 3) := by decide +kernel
theorem dX12_in_14 : decode cX12_in 14 = .ok (.iconst 0, 1) := by decide +kernel
theorem dX12_in_15 : decode cX12_in 15 = .ok (.ireturn, 1) := by decide +kernel
theorem dX12_init_0 : decode cX12_init 0 = .ok (.aload_n 0, 1) := by decide +kernel
theorem dX12_init_1 : decode cX12_init 1 = .ok (.invokespecial 3, 3) := by decide +kernel
theorem dX12_init_4 : decode cX12_init 4 = .ok (.aload_n 0, 1) := by decide +kernel
theorem dX12_init_5 : decode cX12_init 5 = .ok (.iconst (-1), 1) := by decide +kernel
theorem dX12_init_6 : decode cX12_init 6 = .ok (.putfield 9, 3) := by decide +kernel
theorem dX12_init_9 : decode cX12_init 9 = .ok (.aload_n 0, 1) := by decide +kernel
theorem dX12_init_10 : decode cX12_init 10 = .ok (.sipush 400, 3) := by decide +kernel
theorem dX12_init_13 : decode cX12_init 13 = .ok (.newarray .int, 2) := by decide +kernel
theorem dX12_init_15 : decode cX12_init 15 = .ok (.putfield 13, 3) := by decide +kernel
theorem dX12_init_18 : decode cX12_init 18 = .ok (.aload_n 0, 1) := by decide +kernel
theorem dX12_init_19 : decode cX12_init 19 = .ok (.ldc 17, 2) := by decide +kernel
theorem dX12_init_21 : decode cX12_init 21 = .ok (.newarray .int, 2) := by decide +kernel
theorem dX12_init_23 : decode cX12_init 23 = .ok (.putfield 18, 3) := by decide +kernel
theorem dX12_init_26 : decode cX12_init 26 = .ok (.aload_n 0, 1) := by decide +kernel
theorem dX12_init_27 : decode cX12_init 27 = .ok (.ldc 17, 2) := by decide +kernel
theorem dX12_init_29 : decode cX12_init 29 = .ok (.newarray .int, 2) := by decide +kernel
theorem dX12_init_31 : decode cX12_init 31 = .ok (.putfield 21, 3) := by decide +kernel
theorem dX12_init_34 : decode cX12_init 34 = .ok (.aload_n 0, 1) := by decide +kernel
theorem dX12_init_35 : decode cX12_init 35 = .ok (.ldc 17, 2) := by decide +kernel
theorem dX12_init_37 : decode cX12_init 37 = .ok (.newarray .int, 2) := by decide +kernel
theorem dX12_init_39 : decode cX12_init 39 = .ok (.putfield 24, 3) := by decide +kernel
theorem dX12_init_42 : decode cX12_init 42 = .ok (.aload_n 0, 1) := by decide +kernel
theorem dX12_init_43 : decode cX12_init 43 = .ok (.sipush 4096, 3) := by decide +kernel
theorem dX12_init_46 : decode cX12_init 46 = .ok (.newarray .int, 2) := by decide +kernel
theorem dX12_init_48 : decode cX12_init 48 = .ok (.putfield 27, 3) := by decide +kernel
theorem dX12_init_51 : decode cX12_init 51 = .ok (.aload_n 0, 1) := by decide +kernel
theorem dX12_init_52 : decode cX12_init 52 = .ok (.iconst 2, 1) := by decide +kernel
theorem dX12_init_53 : decode cX12_init 53 = .ok (.putfield 30, 3) := by decide +kernel
theorem dX12_init_56 : decode cX12_init 56 = .ok (.aload_n 0, 1) := by decide +kernel
theorem dX12_init_57 : decode cX12_init 57 = .ok (.bipush 10, 2) := by decide +kernel
theorem dX12_init_59 : decode cX12_init 59 = .ok (.newarray .long, 2) := by decide +kernel
theorem dX12_init_61 : decode cX12_init 61 = .ok (.putfield 33, 3) := by decide +kernel
theorem dX12_init_64 : decode cX12_init 64 = .ok (.aload_n 0, 1) := by decide +kernel
theorem dX12_init_65 : decode cX12_init 65 = .ok (.bipush 10, 2) := by decide +kernel
theorem dX12_init_67 : decode cX12_init 67 = .ok (.newarray .long, 2) := by decide +kernel
theorem dX12_init_69 : decode cX12_init 69 = .ok (.putfield 37, 3) := by decide +kernel
theorem dX12_init_72 : decode cX12_init 72 = .ok (.aload_n 0, 1) := by decide +kernel
theorem dX12_init_73 : decode cX12_init 73 = .ok (.bipush 60, 2) := by decide +kernel
theorem dX12_init_75 : decode cX12_init 75 = .ok (.newarray .long, 2) := by decide +kernel
theorem dX12_init_77 : decode cX12_init 77 = .ok (.putfield 40, 3) := by decide +kernel
theorem dX12_init_80 : decode cX12_init 80 = .ok (.aload_n 0, 1) := by decide +kernel
theorem dX12_init_81 : decode cX12_init 81 = .ok (.bipush 120, 2) := by decide +kernel
theorem dX12_init_83 : decode cX12_init 83 = .ok (.newarray .int, 2) := by decide +kernel
theorem dX12_init_85 : decode cX12_init 85 = .ok (.putfield 43, 3) := by decide +kernel
theorem dX12_init_88 : decode cX12_init 88 = .ok (.aload_n 0, 1) := by decide +kernel
theorem dX12_init_89 : decode cX12_init 89 = .ok (.bipush 10, 2) := by decide +kernel
theorem dX12_init_91 : decode cX12_init 91 = .ok (.newarray .int, 2) := by decide +kernel
theorem dX12_init_93 : decode cX12_init 93 = .ok (.putfield 46, 3) := by decide +kernel
theorem dX12_init_96 : decode cX12_init 96 = .ok (.aload_n 0, 1) := by decide +kernel
theorem dX12_init_97 : decode cX12_init 97 = .ok (.bipush 10, 2) := by decide +kernel
theorem dX12_init_99 : decode cX12_init 99 = .ok (.newarray .int, 2) := by decide +kernel
theorem dX12_init_101 : decode cX12_init 101 = .ok (.putfield 49, 3) := by decide +kernel
theorem dX12_init_104 : decode cX12_init 104 = .ok (.aload_n 0, 1) := by decide +kernel
theorem dX12_init_105 : decode cX12_init 105 = .ok (.sipush 900, 3) := by decide +kernel
theorem dX12_init_108 : decode cX12_init 108 = .ok (.newarray .int, 2) := by decide +kernel
theorem dX12_init_110 : decode cX12_init 110 = .ok (.putfield 52, 3) := by decide +kernel
theorem dX12_init_113 : decode cX12_init 113 = .ok (.aload_n 0, 1) := by decide +kernel
theorem dX12_init_114 : decode cX12_init 114 = .ok (.bipush 120, 2) := by decide +kernel
theorem dX12_init_116 : decode cX12_init 116 = .ok (.newarray .int, 2) := by decide +kernel
theorem dX12_init_118 : decode cX12_init 118 = .ok (.putfield 55, 3) := by decide +kernel
theorem dX12_init_121 : decode cX12_init 121 = .ok (.aload_n 0, 1) := by decide +kernel
theorem dX12_init_122 : decode cX12_init 122 = .ok (.bipush 120, 2) := by decide +kernel
theorem dX12_init_124 : decode cX12_init 124 = .ok (.newarray .long, 2) := by decide +kernel
theorem dX12_init_126 : decode cX12_init 126 = .ok (.putfield 58, 3) := by decide +kernel
theorem dX12_init_129 : decode cX12_init 129 = .ok (.aload_n 0, 1) := by decide +kernel
theorem dX12_init_130 : decode cX12_init 130 = .ok (.ldc 61, 2) := by decide +kernel
theorem dX12_init_132 : decode cX12_init 132 = .ok (.newarray .int, 2) := by decide +kernel
theorem dX12_init_134 : decode cX12_init 134 = .ok (.putfield 62, 3) := by decide +kernel
theorem dX12_init_137 : decode cX12_init 137 = .ok (.aload_n 0, 1) := by decide +kernel
theorem dX12_init_138 : decode cX12_init 138 = .ok (.sipush 2880, 3) := by decide +kernel
theorem dX12_init_141 : decode cX12_init 141 = .ok (.newarray .int, 2) := by decide +kernel
theorem dX12_init_143 : decode cX12_init 143 = .ok (.putfield 65, 3) := by decide +kernel
theorem dX12_init_146 : decode cX12_init 146 = .ok (.aload_n 0, 1) := by decide +kernel
theorem dX12_init_147 : decode cX12_init 147 = .ok (.sipush 300, 3) := by decide +kernel
theorem dX12_init_150 : decode cX12_init 150 = .ok (.newarray .int, 2) := by decide +kernel
theorem dX12_init_152 : decode cX12_init 152 = .ok (.putfield 68, 3) := by decide +kernel
theorem dX12_init_155 : decode cX12_init 155 = .ok (.aload_n 0, 1) := by decide +kernel
theorem dX12_init_156 : decode cX12_init 156 = .ok (.sipush 320, 3) := by decide +kernel
theorem dX12_init_159 : decode cX12_init 159 = .ok (.newarray .int, 2) := by decide +kernel
theorem dX12_init_161 : decode cX12_init 161 = .ok (.putfield 71, 3) := by decide +kernel
theorem dX12_init_164 : decode cX12_init 164 = .ok (.aload_n 0, 1) := by decide +kernel
theorem dX12_init_165 : decode cX12_init 165 = .ok (.bipush 60, 2) := by decide +kernel
theorem dX12_init_167 : decode cX12_init 167 = .ok (.newarray .int, 2) := by decide +kernel
theorem dX12_init_169 : decode cX12_init 169 = .ok (.putfield 74, 3) := by decide +kernel
theorem dX12_init_172 : decode cX12_init 172 = .ok (.aload_n 0, 1) := by decide +kernel
theorem dX12_init_173 : decode cX12_init 173 = .ok (.bipush 60, 2) := by decide +kernel
theorem dX12_init_175 : decode cX12_init 175 = .ok (.putfield 77, 3) := by decide +kernel
theorem dX12_init_178 : decode cX12_init 178 = .ok (.aload_n 0, 1) := by decide +kernel
theorem dX12_init_179 : decode cX12_init 179 = .ok (.bipush 120, 2) := by decide +kernel
theorem dX12_init_181 : decode cX12_init 181 = .ok (.newarray .int, 2) := by decide +kernel
theorem dX12_init_183 : decode cX12_init 183 = .ok (.putfield 80, 3) := by decide +kernel
theorem dX12_init_186 : decode cX12_init 186 = .ok (.aload_n 0, 1) := by decide +kernel
theorem dX12_init_187 : decode cX12_init 187 = .ok (.ldc 83, 2) := by decide +kernel
theorem dX12_init_189 : decode cX12_init 189 = .ok (.newarray .int, 2) := by decide +kernel
theorem dX12_init_191 : decode cX12_init 191 = .ok (.putfield 84, 3) := by decide +kernel
theorem dX12_init_194 : decode cX12_init 194 = .ok (.aload_n 0, 1) := by decide +kernel
theorem dX12_init_195 : decode cX12_init 195 = .ok (.iconst 3, 1) := by decide +kernel
theorem dX12_init_196 : decode cX12_init 196 = .ok (.newarray .int, 2) := by decide +kernel
theorem dX12_init_198 : decode cX12_init 198 = .ok (.putfield 87, 3) := by decide +kernel
theorem dX12_init_201 : decode cX12_init 201 = .ok (.aload_n 0, 1) := by decide +kernel
theorem dX12_init_202 : decode cX12_init 202 = .ok (.bipush 10, 2) := by decide +kernel
theorem dX12_init_204 : decode cX12_init 204 = .ok (.newarray .int, 2) := by decide +kernel
theorem dX12_init_206 : decode cX12_init 206 = .ok (.putfield 90, 3) := by decide +kernel
theorem dX12_init_209 : decode cX12_init 209 = .ok (.aload_n 0, 1) := by decide +kernel
theorem dX12_init_210 : decode cX12_init 210 = .ok (.bipush 10, 2) := by decide +kernel
theorem dX12_init_212 : decode cX12_init 212 = .ok (.newarray .int, 2) := by decide +kernel
theorem dX12_init_214 : decode cX12_init 214 = .ok (.putfield 93, 3) := by decide +kernel
theorem dX12_init_217 : decode cX12_init 217 = .ok (.aload_n 0, 1) := by decide +kernel
theorem dX12_init_218 : decode cX12_init 218 = .ok (.sipush 420, 3) := by decide +kernel
theorem dX12_init_221 : decode cX12_init 221 = .ok (.newarray .int, 2) := by decide +kernel
theorem dX12_init_223 : decode cX12_init 223 = .ok (.putfield 96, 3) := by decide +kernel
theorem dX12_init_226 : decode cX12_init 226 = .ok (.aload_n 0, 1) := by decide +kernel
theorem dX12_init_227 : decode cX12_init 227 = .ok (.sipush 420, 3) := by decide +kernel
theorem dX12_init_230 : decode cX12_init 230 = .ok (.newarray .int, 2) := by decide +kernel
theorem dX12_init_232 : decode cX12_init 232 = .ok (.putfield 99, 3) := by decide +kernel
theorem dX12_init_235 : decode cX12_init 235 = .ok (.aload_n 0, 1) := by decide +kernel
theorem dX12_init_236 : decode cX12_init 236 = .ok (.sipush 420, 3) := by decide +kernel
theorem dX12_init_239 : decode cX12_init 239 = .ok (.newarray .int, 2) := by decide +kernel
theorem dX12_init_241 : decode cX12_init 241 = .ok (.putfield 102, 3) := by decide +kernel
theorem dX12_init_244 : decode cX12_init 244 = .ok (.aload_n 0, 1) := by decide +kernel
theorem dX12_init_245 : decode cX12_init 245 = .ok (.bipush 10, 2) := by decide +kernel
theorem dX12_init_247 : decode cX12_init 247 = .ok (.newarray .int, 2) := by decide +kernel
theorem dX12_init_249 : decode cX12_init 249 = .ok (.putfield 105, 3) := by decide +kernel
theorem dX12_init_252 : decode cX12_init 252 = .ok (.return_, 1) := by decide +kernel
theorem dX12_inst__0 : decode cX12_inst_ 0 = .ok (.aload_n 0, 1) := by decide +kernel
theorem dX12_inst__1 : decode cX12_inst_ 1 = .ok (.iconst 0, 1) := by decide +kernel
theorem dX12_inst__2 : decode cX12_inst_ 2 = .ok (.putfield 108, 3) := by decide +kernel
theorem dX12_inst__5 : decode cX12_inst_ 5 = .ok (.aload_n 0, 1) := by decide +kernel
theorem dX12_inst__6 : decode cX12_inst_ 6 = .ok (.iload_n 1, 1) := by decide +kernel
theorem dX12_inst__7 : decode cX12_inst_ 7 = .ok (.invokevirtual 678, 3) := by decide +kernel
theorem dX12_inst__10 : decode cX12_inst_ 10 = .ok (.ifCond .eq 17, 3) := by decide +kernel
theorem dX12_inst__27 : decode cX12_inst_ 27 = .ok (.aload_n 0, 1) := by decide +kernel
theorem dX12_inst__28 : decode cX12_inst_ 28 = .ok (.iconst 1, 1) := by decide +kernel
theorem dX12_inst__29 : decode cX12_inst_ 29 = .ok (.invokevirtual 654, 3) := by decide +kernel
theorem dX12_inst__32 : decode cX12_inst_ 32 = .ok (.ireturn, 1) := by decide +kernel
theorem dX12_isLong_0 : decode cX12_isLong 0 = .ok (.iload_n 1, 1) := by decide +kernel
theorem dX12_isLong_1 : decode cX12_isLong 1 = .ok (.iconst 0, 1) := by decide +kernel
theorem dX12_isLong_2 : decode cX12_isLong 2 = .ok (.aload_n 0, 1) := by decide +kernel
theorem dX12_isLong_3 : decode cX12_isLong 3 = .ok (.getfield 114, 3) := by decide +kernel
theorem dX12_isLong_6 : decode cX12_isLong 6 = .ok (.invokestatic 130, 3) := by decide +kernel
theorem dX12_isLong_9 : decode cX12_isLong 9 = .ok (.ifCond .ne 7, 3) := by decide +kernel
theorem dX12_isLong_12 : decode cX12_isLong 12 = .ok (.iconst 1, 1) := by decide +kernel
theorem dX12_isLong_13 : decode cX12_isLong 13 = .ok (.goto 4, 3) := by decide +kernel
theorem dX12_isLong_16 : decode cX12_isLong 16 = .ok (.iconst 0, 1) := by decide +kernel
theorem dX12_isLong_17 : decode cX12_isLong 17 = .ok (.ireturn, 1) := by decide +kernel
theorem dX12_isName_0 : decode cX12_isName 0 = .ok (.aload_n 0, 1) := by decide +kernel
theorem dX12_isName_1 : decode cX12_isName 1 = .ok (.getfield 117, 3) := by decide +kernel
theorem dX12_isName_4 : decode cX12_isName 4 = .ok (.ifCond .ne 22, 3) := by decide +kernel
theorem dX12_isName_7 : decode cX12_isName 7 = .ok (.aload_n 0, 1) := by decide +kernel
theorem dX12_isName_8 : decode cX12_isName 8 = .ok (.getfield 140, 3) := by decide +kernel
theorem dX12_isName_11 : decode cX12_isName 11 = .ok (.iconst 2, 1) := by decide +kernel
theorem dX12_isName_12 : decode cX12_isName 12 = .ok (.if_icmp .ne 14, 3) := by decide +kernel
theorem dX12_isName_26 : decode cX12_isName 26 = .ok (.iconst 0, 1) := by decide +kernel
theorem dX12_isName_27 : decode cX12_isName 27 = .ok (.ireturn, 1) := by decide +kernel
theorem dX12_isSign_0 : decode cX12_isSign 0 = .ok (.aload_n 0, 1) := by decide +kernel
theorem dX12_isSign_1 : decode cX12_isSign 1 = .ok (.getfield 117, 3) := by decide +kernel
theorem dX12_isSign_4 : decode cX12_isSign 4 = .ok (.ifCond .ne 23, 3) := by decide +kernel
theorem dX12_isSign_7 : decode cX12_isSign 7 = .ok (.aload_n 0, 1) := by decide +kernel
theorem dX12_isSign_8 : decode cX12_isSign 8 = .ok (.getfield 140, 3) := by decide +kernel
theorem dX12_isSign_11 : decode cX12_isSign 11 = .ok (.iconst 3, 1) := by decide +kernel
theorem dX12_isSign_12 : decode cX12_isSign 12 = .ok (.if_icmp .ne 15, 3) := by decide +kernel
theorem dX12_isSign_27 : decode cX12_isSign 27 = .ok (.iconst 0, 1) := by decide +kernel
theorem dX12_isSign_28 : decode cX12_isSign 28 = .ok (.ireturn, 1) := by decide +kernel
theorem dX12_isThm_0 : decode cX12_isThm 0 = .ok (.iload_n 1, 1) := by decide +kernel
theorem dX12_isThm_1 : decode cX12_isThm 1 = .ok (.iconst 0, 1) := by decide +kernel
theorem dX12_isThm_2 : decode cX12_isThm 2 = .ok (.aload_n 0, 1) := by decide +kernel
theorem dX12_isThm_3 : decode cX12_isThm 3 = .ok (.getfield 491, 3) := by decide +kernel
theorem dX12_isThm_6 : decode cX12_isThm 6 = .ok (.iconst 1, 1) := by decide +kernel
theorem dX12_isThm_7 : decode cX12_isThm 7 = .ok (.isub, 1) := by decide +kernel
theorem dX12_isThm_8 : decode cX12_isThm 8 = .ok (.invokestatic 130, 3) := by decide +kernel
theorem dX12_isThm_11 : decode cX12_isThm 11 = .ok (.ireturn, 1) := by decide +kernel
theorem dX12_isWord_0 : decode cX12_isWord 0 = .ok (.aload_n 0, 1) := by decide +kernel
theorem dX12_isWord_1 : decode cX12_isWord 1 = .ok (.getfield 117, 3) := by decide +kernel
theorem dX12_isWord_4 : decode cX12_isWord 4 = .ok (.ifCond .ne 27, 3) := by decide +kernel
theorem dX12_isWord_7 : decode cX12_isWord 7 = .ok (.aload_n 0, 1) := by decide +kernel
theorem dX12_isWord_8 : decode cX12_isWord 8 = .ok (.getfield 140, 3) := by decide +kernel
theorem dX12_isWord_11 : decode cX12_isWord 11 = .ok (.iconst 2, 1) := by decide +kernel
theorem dX12_isWord_12 : decode cX12_isWord 12 = .ok (.if_icmp .ne 19, 3) := by decide +kernel
theorem dX12_isWord_31 : decode cX12_isWord 31 = .ok (.iconst 0, 1) := by decide +kernel
theorem dX12_isWord_32 : decode cX12_isWord 32 = .ok (.ireturn, 1) := by decide +kernel
theorem dX12_named_0 : decode cX12_named 0 = .ok (.aload_n 0, 1) := by decide +kernel
theorem dX12_named_1 : decode cX12_named 1 = .ok (.iconst 0, 1) := by decide +kernel
theorem dX12_named_2 : decode cX12_named 2 = .ok (.putfield 108, 3) := by decide +kernel
theorem dX12_named_5 : decode cX12_named 5 = .ok (.iconst 0, 1) := by decide +kernel
theorem dX12_named_6 : decode cX12_named 6 = .ok (.istore_n 2, 1) := by decide +kernel
theorem dX12_named_7 : decode cX12_named 7 = .ok (.lconst 0, 1) := by decide +kernel
theorem dX12_named_8 : decode cX12_named 8 = .ok (.lstore_n 3, 1) := by decide +kernel
theorem dX12_named_9 : decode cX12_named 9 = .ok (.aload_n 0, 1) := by decide +kernel
theorem dX12_named_10 : decode cX12_named 10 = .ok (.iload_n 1, 1) := by decide +kernel
theorem dX12_named_11 : decode cX12_named 11 = .ok (.invokevirtual 651, 3) := by decide +kernel
theorem dX12_named_14 : decode cX12_named 14 = .ok (.ifCond .ne 108, 3) := by decide +kernel
theorem dX12_named_17 : decode cX12_named 17 = .ok (.iload_n 2, 1) := by decide +kernel
theorem dX12_named_18 : decode cX12_named 18 = .ok (.iload_n 1, 1) := by decide +kernel
theorem dX12_named_19 : decode cX12_named 19 = .ok (.if_icmp .ge 20, 3) := by decide +kernel
theorem dX12_named_39 : decode cX12_named 39 = .ok (.iload_n 2, 1) := by decide +kernel
theorem dX12_named_40 : decode cX12_named 40 = .ok (.istore 5, 2) := by decide +kernel
theorem dX12_named_42 : decode cX12_named 42 = .ok (.iload_n 2, 1) := by decide +kernel
theorem dX12_named_43 : decode cX12_named 43 = .ok (.iload_n 1, 1) := by decide +kernel
theorem dX12_named_44 : decode cX12_named 44 = .ok (.if_icmp .ge 56, 3) := by decide +kernel
theorem dX12_named_100 : decode cX12_named 100 = .ok (.iload_n 2, 1) := by decide +kernel
theorem dX12_named_101 : decode cX12_named 101 = .ok (.iload_n 1, 1) := by decide +kernel
theorem dX12_named_102 : decode cX12_named 102 = .ok (.if_icmp .ge 20, 3) := by decide +kernel
theorem dX12_named_122 : decode cX12_named 122 = .ok (.iload_n 2, 1) := by decide +kernel
theorem dX12_named_123 : decode cX12_named 123 = .ok (.iload_n 1, 1) := by decide +kernel
theorem dX12_named_124 : decode cX12_named 124 = .ok (.if_icmp .ne 24, 3) := by decide +kernel
theorem dX12_named_127 : decode cX12_named 127 = .ok (.lload_n 3, 1) := by decide +kernel
theorem dX12_named_128 : decode cX12_named 128 = .ok (.lconst 0, 1) := by decide +kernel
theorem dX12_named_129 : decode cX12_named 129 = .ok (.lcmp, 1) := by decide +kernel
theorem dX12_named_130 : decode cX12_named 130 = .ok (.ifCond .le 18, 3) := by decide +kernel
theorem dX12_named_148 : decode cX12_named 148 = .ok (.iconst (-1), 1) := by decide +kernel
theorem dX12_named_149 : decode cX12_named 149 = .ok (.istore 5, 2) := by decide +kernel
theorem dX12_named_151 : decode cX12_named 151 = .ok (.iload 5, 2) := by decide +kernel
theorem dX12_named_153 : decode cX12_named 153 = .ok (.iconst (-1), 1) := by decide +kernel
theorem dX12_named_154 : decode cX12_named 154 = .ok (.if_icmp .ne 8, 3) := by decide +kernel
theorem dX12_named_157 : decode cX12_named 157 = .ok (.aload_n 0, 1) := by decide +kernel
theorem dX12_named_158 : decode cX12_named 158 = .ok (.iconst 1, 1) := by decide +kernel
theorem dX12_named_159 : decode cX12_named 159 = .ok (.putfield 108, 3) := by decide +kernel
theorem dX12_named_162 : decode cX12_named 162 = .ok (.iload 5, 2) := by decide +kernel
theorem dX12_named_164 : decode cX12_named 164 = .ok (.iconst (-1), 1) := by decide +kernel
theorem dX12_named_165 : decode cX12_named 165 = .ok (.if_icmp .ne 7, 3) := by decide +kernel
theorem dX12_named_168 : decode cX12_named 168 = .ok (.iconst 0, 1) := by decide +kernel
theorem dX12_named_169 : decode cX12_named 169 = .ok (.goto 5, 3) := by decide +kernel
theorem dX12_named_174 : decode cX12_named 174 = .ok (.ireturn, 1) := by decide +kernel
theorem dX12_needs_0 : decode cX12_needs 0 = .ok (.aload_n 0, 1) := by decide +kernel
theorem dX12_needs_1 : decode cX12_needs 1 = .ok (.iload_n 1, 1) := by decide +kernel
theorem dX12_needs_2 : decode cX12_needs 2 = .ok (.invokevirtual 172, 3) := by decide +kernel
theorem dX12_needs_5 : decode cX12_needs 5 = .ok (.ifCond .ne 8, 3) := by decide +kernel
theorem dX12_needs_8 : decode cX12_needs 8 = .ok (.aload_n 0, 1) := by decide +kernel
theorem dX12_needs_9 : decode cX12_needs 9 = .ok (.iconst 1, 1) := by decide +kernel
theorem dX12_needs_10 : decode cX12_needs 10 = .ok (.invokevirtual 175, 3) := by decide +kernel
theorem dX12_needs_13 : decode cX12_needs 13 = .ok (.aload_n 0, 1) := by decide +kernel
theorem dX12_needs_14 : decode cX12_needs 14 = .ok (.invokevirtual 179, 3) := by decide +kernel
theorem dX12_needs_17 : decode cX12_needs 17 = .ok (.return_, 1) := by decide +kernel
theorem dX12_needsEnd_0 : decode cX12_needsEnd 0 = .ok (.aload_n 0, 1) := by decide +kernel
theorem dX12_needsEnd_1 : decode cX12_needsEnd 1 = .ok (.getfield 140, 3) := by decide +kernel
theorem dX12_needsEnd_4 : decode cX12_needsEnd 4 = .ok (.iconst 1, 1) := by decide +kernel
theorem dX12_needsEnd_5 : decode cX12_needsEnd 5 = .ok (.if_icmp .eq 8, 3) := by decide +kernel
theorem dX12_needsEnd_13 : decode cX12_needsEnd 13 = .ok (.return_, 1) := by decide +kernel
theorem dX12_newReg_0 : decode cX12_newReg 0 = .ok (.aload_n 0, 1) := by decide +kernel
theorem dX12_newReg_1 : decode cX12_newReg 1 = .ok (.dup, 1) := by decide +kernel
theorem dX12_newReg_2 : decode cX12_newReg 2 = .ok (.getfield 330, 3) := by decide +kernel
theorem dX12_newReg_5 : decode cX12_newReg 5 = .ok (.iconst 1, 1) := by decide +kernel
theorem dX12_newReg_6 : decode cX12_newReg 6 = .ok (.iadd, 1) := by decide +kernel
theorem dX12_newReg_7 : decode cX12_newReg 7 = .ok (.putfield 330, 3) := by decide +kernel
theorem dX12_newReg_10 : decode cX12_newReg 10 = .ok (.ldc_w 329, 3) := by decide +kernel
theorem dX12_newReg_13 : decode cX12_newReg 13 = .ok (.aload_n 0, 1) := by decide +kernel
theorem dX12_newReg_14 : decode cX12_newReg 14 = .ok (.getfield 330, 3) := by decide +kernel
theorem dX12_newReg_17 : decode cX12_newReg 17 = .ok (.iconst 1, 1) := by decide +kernel
theorem dX12_newReg_18 : decode cX12_newReg 18 = .ok (.isub, 1) := by decide +kernel
theorem dX12_newReg_19 : decode cX12_newReg 19 = .ok (.bipush 104, 2) := by decide +kernel
theorem dX12_newReg_21 : decode cX12_newReg 21 = .ok (.imul, 1) := by decide +kernel
theorem dX12_newReg_22 : decode cX12_newReg 22 = .ok (.iadd, 1) := by decide +kernel
theorem dX12_newReg_23 : decode cX12_newReg 23 = .ok (.ireturn, 1) := by decide +kernel
theorem dX12_normal__0 : decode cX12_normal_ 0 = .ok (.aload_n 0, 1) := by decide +kernel
theorem dX12_normal__1 : decode cX12_normal_ 1 = .ok (.iconst 0, 1) := by decide +kernel
theorem dX12_normal__2 : decode cX12_normal_ 2 = .ok (.putfield 108, 3) := by decide +kernel
theorem dX12_normal__5 : decode cX12_normal_ 5 = .ok (.aload_n 0, 1) := by decide +kernel
theorem dX12_normal__6 : decode cX12_normal_ 6 = .ok (.iload_n 1, 1) := by decide +kernel
theorem dX12_normal__7 : decode cX12_normal_ 7 = .ok (.invokevirtual 651, 3) := by decide +kernel
theorem dX12_normal__10 : decode cX12_normal_ 10 = .ok (.ifCond .eq 9, 3) := by decide +kernel
theorem dX12_normal__13 : decode cX12_normal_ 13 = .ok (.aload_n 0, 1) := by decide +kernel
theorem dX12_normal__14 : decode cX12_normal_ 14 = .ok (.iconst 2, 1) := by decide +kernel
theorem dX12_normal__15 : decode cX12_normal_ 15 = .ok (.invokevirtual 654, 3) := by decide +kernel
theorem dX12_normal__18 : decode cX12_normal_ 18 = .ok (.ireturn, 1) := by decide +kernel
theorem dX12_normal__19 : decode cX12_normal_ 19 = .ok (.aload_n 0, 1) := by decide +kernel
theorem dX12_normal__20 : decode cX12_normal_ 20 = .ok (.iload_n 1, 1) := by decide +kernel
theorem dX12_normal__21 : decode cX12_normal_ 21 = .ok (.invokevirtual 702, 3) := by decide +kernel
theorem dX12_normal__24 : decode cX12_normal_ 24 = .ok (.istore_n 2, 1) := by decide +kernel
theorem dX12_normal__25 : decode cX12_normal_ 25 = .ok (.aload_n 0, 1) := by decide +kernel
theorem dX12_normal__26 : decode cX12_normal_ 26 = .ok (.getfield 117, 3) := by decide +kernel
theorem dX12_normal__29 : decode cX12_normal_ 29 = .ok (.ifCond .le 10, 3) := by decide +kernel
theorem dX12_normal__32 : decode cX12_normal_ 32 = .ok (.aload_n 0, 1) := by decide +kernel
theorem dX12_normal__33 : decode cX12_normal_ 33 = .ok (.invokevirtual 668, 3) := by decide +kernel
theorem dX12_normal__36 : decode cX12_normal_ 36 = .ok (.goto 18, 3) := by decide +kernel
theorem dX12_normal__54 : decode cX12_normal_ 54 = .ok (.ireturn, 1) := by decide +kernel
theorem dX12_octet_0 : decode cX12_octet 0 = .ok (.aload_n 0, 1) := by decide +kernel
theorem dX12_octet_1 : decode cX12_octet 1 = .ok (.iconst 0, 1) := by decide +kernel
theorem dX12_octet_2 : decode cX12_octet 2 = .ok (.putfield 108, 3) := by decide +kernel
theorem dX12_octet_5 : decode cX12_octet 5 = .ok (.iload_n 1, 1) := by decide +kernel
theorem dX12_octet_6 : decode cX12_octet 6 = .ok (.ifCond .ge 9, 3) := by decide +kernel
theorem dX12_octet_9 : decode cX12_octet 9 = .ok (.aload_n 0, 1) := by decide +kernel
theorem dX12_octet_10 : decode cX12_octet 10 = .ok (.iconst 1, 1) := by decide +kernel
theorem dX12_octet_11 : decode cX12_octet 11 = .ok (.invokevirtual 654, 3) := by decide +kernel
theorem dX12_octet_14 : decode cX12_octet 14 = .ok (.ireturn, 1) := by decide +kernel
theorem dX12_octet_15 : decode cX12_octet 15 = .ok (.aload_n 0, 1) := by decide +kernel
theorem dX12_octet_16 : decode cX12_octet 16 = .ok (.iload_n 1, 1) := by decide +kernel
theorem dX12_octet_17 : decode cX12_octet 17 = .ok (.aload_n 0, 1) := by decide +kernel
theorem dX12_octet_18 : decode cX12_octet 18 = .ok (.getfield 87, 3) := by decide +kernel
theorem dX12_octet_21 : decode cX12_octet 21 = .ok (.iconst 2, 1) := by decide +kernel
theorem dX12_octet_22 : decode cX12_octet 22 = .ok (.iaload, 1) := by decide +kernel
theorem dX12_octet_23 : decode cX12_octet 23 = .ok (.if_icmp .ge 16, 3) := by decide +kernel
theorem dX12_octet_39 : decode cX12_octet 39 = .ok (.bipush (-2), 2) := by decide +kernel
theorem dX12_octet_41 : decode cX12_octet 41 = .ok (.invokevirtual 385, 3) := by decide +kernel
theorem dX12_octet_44 : decode cX12_octet 44 = .ok (.ireturn, 1) := by decide +kernel
theorem dX12_passes_0 : decode cX12_passes 0 = .ok (.aload_n 0, 1) := by decide +kernel
theorem dX12_passes_1 : decode cX12_passes 1 = .ok (.aload_n 1, 1) := by decide +kernel
theorem dX12_passes_2 : decode cX12_passes 2 = .ok (.invokevirtual 182, 3) := by decide +kernel
theorem dX12_passes_5 : decode cX12_passes 5 = .ok (.ifCond .ne 5, 3) := by decide +kernel
theorem dX12_passes_8 : decode cX12_passes 8 = .ok (.iconst 0, 1) := by decide +kernel
theorem dX12_passes_9 : decode cX12_passes 9 = .ok (.ireturn, 1) := by decide +kernel
theorem dX12_readConv_0 : decode cX12_readConv 0 = .ok (.aload_n 0, 1) := by decide +kernel
theorem dX12_readConv_1 : decode cX12_readConv 1 = .ok (.invokevirtual 513, 3) := by decide +kernel
theorem dX12_readConv_4 : decode cX12_readConv 4 = .ok (.istore_n 1, 1) := by decide +kernel
theorem dX12_readConv_5 : decode cX12_readConv 5 = .ok (.aload_n 0, 1) := by decide +kernel
theorem dX12_readConv_6 : decode cX12_readConv 6 = .ok (.ldc 231, 2) := by decide +kernel
theorem dX12_readConv_8 : decode cX12_readConv 8 = .ok (.invokevirtual 501, 3) := by decide +kernel
theorem dX12_readConv_11 : decode cX12_readConv 11 = .ok (.ifCond .eq 27, 3) := by decide +kernel
theorem dX12_readConv_38 : decode cX12_readConv 38 = .ok (.iload_n 1, 1) := by decide +kernel
theorem dX12_readConv_39 : decode cX12_readConv 39 = .ok (.ireturn, 1) := by decide +kernel
theorem dX12_readFirst_0 : decode cX12_readFirst 0 = .ok (.aload_n 0, 1) := by decide +kernel
theorem dX12_readFirst_1 : decode cX12_readFirst 1 = .ok (.getfield 117, 3) := by decide +kernel
theorem dX12_readFirst_4 : decode cX12_readFirst 4 = .ok (.ifCond .le 5, 3) := by decide +kernel
theorem dX12_readFirst_9 : decode cX12_readFirst 9 = .ok (.aload_n 0, 1) := by decide +kernel
theorem dX12_readFirst_10 : decode cX12_readFirst 10 = .ok (.ldc 214, 2) := by decide +kernel
theorem dX12_readFirst_12 : decode cX12_readFirst 12 = .ok (.invokevirtual 501, 3) := by decide +kernel
theorem dX12_readFirst_15 : decode cX12_readFirst 15 = .ok (.ifCond .eq 11, 3) := by decide +kernel
theorem dX12_readFirst_26 : decode cX12_readFirst 26 = .ok (.aload_n 0, 1) := by decide +kernel
theorem dX12_readFirst_27 : decode cX12_readFirst 27 = .ok (.ldc 216, 2) := by decide +kernel
theorem dX12_readFirst_29 : decode cX12_readFirst 29 = .ok (.invokevirtual 501, 3) := by decide +kernel
theorem dX12_readFirst_32 : decode cX12_readFirst 32 = .ok (.ifCond .eq 11, 3) := by decide +kernel
theorem dX12_readFirst_43 : decode cX12_readFirst 43 = .ok (.aload_n 0, 1) := by decide +kernel
theorem dX12_readFirst_44 : decode cX12_readFirst 44 = .ok (.ldc 202, 2) := by decide +kernel
theorem dX12_readFirst_46 : decode cX12_readFirst 46 = .ok (.invokevirtual 501, 3) := by decide +kernel
theorem dX12_readFirst_49 : decode cX12_readFirst 49 = .ok (.ifCond .eq 11, 3) := by decide +kernel
theorem dX12_readFirst_60 : decode cX12_readFirst 60 = .ok (.aload_n 0, 1) := by decide +kernel
theorem dX12_readFirst_61 : decode cX12_readFirst 61 = .ok (.ldc 212, 2) := by decide +kernel
theorem dX12_readFirst_63 : decode cX12_readFirst 63 = .ok (.invokevirtual 501, 3) := by decide +kernel
theorem dX12_readFirst_66 : decode cX12_readFirst 66 = .ok (.ifCond .eq 11, 3) := by decide +kernel
theorem dX12_readFirst_77 : decode cX12_readFirst 77 = .ok (.aload_n 0, 1) := by decide +kernel
theorem dX12_readFirst_78 : decode cX12_readFirst 78 = .ok (.ldc 190, 2) := by decide +kernel
theorem dX12_readFirst_80 : decode cX12_readFirst 80 = .ok (.invokevirtual 501, 3) := by decide +kernel
theorem dX12_readFirst_83 : decode cX12_readFirst 83 = .ok (.ifCond .eq 11, 3) := by decide +kernel
theorem dX12_readFirst_94 : decode cX12_readFirst 94 = .ok (.aload_n 0, 1) := by decide +kernel
theorem dX12_readFirst_95 : decode cX12_readFirst 95 = .ok (.ldc 218, 2) := by decide +kernel
theorem dX12_readFirst_97 : decode cX12_readFirst 97 = .ok (.invokevirtual 501, 3) := by decide +kernel
theorem dX12_readFirst_100 : decode cX12_readFirst 100 = .ok (.ifCond .eq 27, 3) := by decide +kernel
theorem dX12_readFirst_127 : decode cX12_readFirst 127 = .ok (.aload_n 0, 1) := by decide +kernel
theorem dX12_readFirst_128 : decode cX12_readFirst 128 = .ok (.ldc 220, 2) := by decide +kernel
theorem dX12_readFirst_130 : decode cX12_readFirst 130 = .ok (.invokevirtual 182, 3) := by decide +kernel
theorem dX12_readFirst_133 : decode cX12_readFirst 133 = .ok (.ifCond .eq 10, 3) := by decide +kernel
theorem dX12_readFirst_143 : decode cX12_readFirst 143 = .ok (.aload_n 0, 1) := by decide +kernel
theorem dX12_readFirst_144 : decode cX12_readFirst 144 = .ok (.ldc 222, 2) := by decide +kernel
theorem dX12_readFirst_146 : decode cX12_readFirst 146 = .ok (.invokevirtual 182, 3) := by decide +kernel
theorem dX12_readFirst_149 : decode cX12_readFirst 149 = .ok (.ifCond .eq 10, 3) := by decide +kernel
theorem dX12_readFirst_159 : decode cX12_readFirst 159 = .ok (.aload_n 0, 1) := by decide +kernel
theorem dX12_readFirst_160 : decode cX12_readFirst 160 = .ok (.ldc 224, 2) := by decide +kernel
theorem dX12_readFirst_162 : decode cX12_readFirst 162 = .ok (.invokevirtual 182, 3) := by decide +kernel
theorem dX12_readFirst_165 : decode cX12_readFirst 165 = .ok (.ifCond .eq 10, 3) := by decide +kernel
theorem dX12_readFirst_175 : decode cX12_readFirst 175 = .ok (.aload_n 0, 1) := by decide +kernel
theorem dX12_readFirst_176 : decode cX12_readFirst 176 = .ok (.ldc 226, 2) := by decide +kernel
theorem dX12_readFirst_178 : decode cX12_readFirst 178 = .ok (.invokevirtual 182, 3) := by decide +kernel
theorem dX12_readFirst_181 : decode cX12_readFirst 181 = .ok (.ifCond .eq 10, 3) := by decide +kernel
theorem dX12_readFirst_191 : decode cX12_readFirst 191 = .ok (.aload_n 0, 1) := by decide +kernel
theorem dX12_readFirst_192 : decode cX12_readFirst 192 = .ok (.ldc 228, 2) := by decide +kernel
theorem dX12_readFirst_194 : decode cX12_readFirst 194 = .ok (.invokevirtual 182, 3) := by decide +kernel
theorem dX12_readFirst_197 : decode cX12_readFirst 197 = .ok (.ifCond .eq 10, 3) := by decide +kernel
theorem dX12_readFirst_207 : decode cX12_readFirst 207 = .ok (.aload_n 0, 1) := by decide +kernel
theorem dX12_readFirst_208 : decode cX12_readFirst 208 = .ok (.ldc 229, 2) := by decide +kernel
theorem dX12_readFirst_210 : decode cX12_readFirst 210 = .ok (.invokevirtual 182, 3) := by decide +kernel
theorem dX12_readFirst_213 : decode cX12_readFirst 213 = .ok (.ifCond .eq 10, 3) := by decide +kernel
theorem dX12_readFirst_223 : decode cX12_readFirst 223 = .ok (.aload_n 0, 1) := by decide +kernel
theorem dX12_readFirst_224 : decode cX12_readFirst 224 = .ok (.bipush 40, 2) := by decide +kernel
theorem dX12_readFirst_226 : decode cX12_readFirst 226 = .ok (.invokevirtual 172, 3) := by decide +kernel
theorem dX12_readFirst_229 : decode cX12_readFirst 229 = .ok (.ifCond .ne 10, 3) := by decide +kernel
theorem dX12_readFirst_232 : decode cX12_readFirst 232 = .ok (.aload_n 0, 1) := by decide +kernel
theorem dX12_readFirst_233 : decode cX12_readFirst 233 = .ok (.iconst 1, 1) := by decide +kernel
theorem dX12_readFirst_234 : decode cX12_readFirst 234 = .ok (.invokevirtual 175, 3) := by decide +kernel
theorem dX12_readFirst_237 : decode cX12_readFirst 237 = .ok (.iconst 0, 1) := by decide +kernel
theorem dX12_readFirst_238 : decode cX12_readFirst 238 = .ok (.ireturn, 1) := by decide +kernel
theorem dX12_readLine_0 : decode cX12_readLine 0 = .ok (.aload_n 0, 1) := by decide +kernel
theorem dX12_readLine_1 : decode cX12_readLine 1 = .ok (.iconst 0, 1) := by decide +kernel
theorem dX12_readLine_2 : decode cX12_readLine 2 = .ok (.putfield 388, 3) := by decide +kernel
theorem dX12_readLine_5 : decode cX12_readLine 5 = .ok (.aload_n 0, 1) := by decide +kernel
theorem dX12_readLine_6 : decode cX12_readLine 6 = .ok (.ldc 186, 2) := by decide +kernel
theorem dX12_readLine_8 : decode cX12_readLine 8 = .ok (.invokevirtual 182, 3) := by decide +kernel
theorem dX12_readLine_11 : decode cX12_readLine 11 = .ok (.ifCond .eq 10, 3) := by decide +kernel
theorem dX12_readLine_21 : decode cX12_readLine 21 = .ok (.aload_n 0, 1) := by decide +kernel
theorem dX12_readLine_22 : decode cX12_readLine 22 = .ok (.ldc 188, 2) := by decide +kernel
theorem dX12_readLine_24 : decode cX12_readLine 24 = .ok (.invokevirtual 182, 3) := by decide +kernel
theorem dX12_readLine_27 : decode cX12_readLine 27 = .ok (.ifCond .eq 10, 3) := by decide +kernel
theorem dX12_readLine_37 : decode cX12_readLine 37 = .ok (.aload_n 0, 1) := by decide +kernel
theorem dX12_readLine_38 : decode cX12_readLine 38 = .ok (.ldc 190, 2) := by decide +kernel
theorem dX12_readLine_40 : decode cX12_readLine 40 = .ok (.invokevirtual 182, 3) := by decide +kernel
theorem dX12_readLine_43 : decode cX12_readLine 43 = .ok (.ifCond .eq 10, 3) := by decide +kernel
theorem dX12_readLine_53 : decode cX12_readLine 53 = .ok (.aload_n 0, 1) := by decide +kernel
theorem dX12_readLine_54 : decode cX12_readLine 54 = .ok (.ldc 192, 2) := by decide +kernel
theorem dX12_readLine_56 : decode cX12_readLine 56 = .ok (.invokevirtual 182, 3) := by decide +kernel
theorem dX12_readLine_59 : decode cX12_readLine 59 = .ok (.ifCond .eq 10, 3) := by decide +kernel
theorem dX12_readLine_69 : decode cX12_readLine 69 = .ok (.aload_n 0, 1) := by decide +kernel
theorem dX12_readLine_70 : decode cX12_readLine 70 = .ok (.iconst 1, 1) := by decide +kernel
theorem dX12_readLine_71 : decode cX12_readLine 71 = .ok (.invokevirtual 175, 3) := by decide +kernel
theorem dX12_readLine_74 : decode cX12_readLine 74 = .ok (.return_, 1) := by decide +kernel
theorem dX12_readPiece_0 : decode cX12_readPiece 0 = .ok (.aload_n 0, 1) := by decide +kernel
theorem dX12_readPiece_1 : decode cX12_readPiece 1 = .ok (.invokevirtual 273, 3) := by decide +kernel
theorem dX12_readPiece_4 : decode cX12_readPiece 4 = .ok (.ifCond .eq 8, 3) := by decide +kernel
theorem dX12_readPiece_12 : decode cX12_readPiece 12 = .ok (.aload_n 0, 1) := by decide +kernel
theorem dX12_readPiece_13 : decode cX12_readPiece 13 = .ok (.bipush 92, 2) := by decide +kernel
theorem dX12_readPiece_15 : decode cX12_readPiece 15 = .ok (.invokevirtual 172, 3) := by decide +kernel
theorem dX12_readPiece_18 : decode cX12_readPiece 18 = .ok (.ifCond .eq 8, 3) := by decide +kernel
theorem dX12_readPiece_26 : decode cX12_readPiece 26 = .ok (.aload_n 0, 1) := by decide +kernel
theorem dX12_readPiece_27 : decode cX12_readPiece 27 = .ok (.bipush 40, 2) := by decide +kernel
theorem dX12_readPiece_29 : decode cX12_readPiece 29 = .ok (.invokevirtual 172, 3) := by decide +kernel
theorem dX12_readPiece_32 : decode cX12_readPiece 32 = .ok (.ifCond .ne 10, 3) := by decide +kernel
theorem dX12_readPiece_35 : decode cX12_readPiece 35 = .ok (.aload_n 0, 1) := by decide +kernel
theorem dX12_readPiece_36 : decode cX12_readPiece 36 = .ok (.iconst 1, 1) := by decide +kernel
theorem dX12_readPiece_37 : decode cX12_readPiece 37 = .ok (.invokevirtual 175, 3) := by decide +kernel
theorem dX12_readPiece_40 : decode cX12_readPiece 40 = .ok (.iconst 0, 1) := by decide +kernel
theorem dX12_readPiece_41 : decode cX12_readPiece 41 = .ok (.ireturn, 1) := by decide +kernel
theorem dX12_readPieces_0 : decode cX12_readPieces 0 = .ok (.aload_n 0, 1) := by decide +kernel
theorem dX12_readPieces_1 : decode cX12_readPieces 1 = .ok (.getfield 242, 3) := by decide +kernel
theorem dX12_readPieces_4 : decode cX12_readPieces 4 = .ok (.istore_n 1, 1) := by decide +kernel
theorem dX12_readPieces_5 : decode cX12_readPieces 5 = .ok (.aload_n 0, 1) := by decide +kernel
theorem dX12_readPieces_6 : decode cX12_readPieces 6 = .ok (.invokevirtual 313, 3) := by decide +kernel
theorem dX12_readPieces_9 : decode cX12_readPieces 9 = .ok (.istore_n 2, 1) := by decide +kernel
theorem dX12_readPieces_10 : decode cX12_readPieces 10 = .ok (.aload_n 0, 1) := by decide +kernel
theorem dX12_readPieces_11 : decode cX12_readPieces 11 = .ok (.bipush 61, 2) := by decide +kernel
theorem dX12_readPieces_13 : decode cX12_readPieces 13 = .ok (.invokevirtual 172, 3) := by decide +kernel
theorem dX12_readPieces_16 : decode cX12_readPieces 16 = .ok (.ifCond .ne 5, 3) := by decide +kernel
theorem dX12_readPieces_19 : decode cX12_readPieces 19 = .ok (.iload_n 2, 1) := by decide +kernel
theorem dX12_readPieces_20 : decode cX12_readPieces 20 = .ok (.ireturn, 1) := by decide +kernel
theorem dX12_readSide_0 : decode cX12_readSide 0 = .ok (.aload_n 0, 1) := by decide +kernel
theorem dX12_readSide_1 : decode cX12_readSide 1 = .ok (.getfield 242, 3) := by decide +kernel
theorem dX12_readSide_4 : decode cX12_readSide 4 = .ok (.istore_n 1, 1) := by decide +kernel
theorem dX12_readSide_5 : decode cX12_readSide 5 = .ok (.aload_n 0, 1) := by decide +kernel
theorem dX12_readSide_6 : decode cX12_readSide 6 = .ok (.invokevirtual 301, 3) := by decide +kernel
theorem dX12_readSide_9 : decode cX12_readSide 9 = .ok (.istore_n 2, 1) := by decide +kernel
theorem dX12_readSide_10 : decode cX12_readSide 10 = .ok (.aload_n 0, 1) := by decide +kernel
theorem dX12_readSide_11 : decode cX12_readSide 11 = .ok (.invokevirtual 304, 3) := by decide +kernel
theorem dX12_readSide_14 : decode cX12_readSide 14 = .ok (.ifCond .eq 78, 3) := by decide +kernel
theorem dX12_readSide_92 : decode cX12_readSide 92 = .ok (.iload_n 2, 1) := by decide +kernel
theorem dX12_readSide_93 : decode cX12_readSide 93 = .ok (.ireturn, 1) := by decide +kernel
theorem dX12_readStep_0 : decode cX12_readStep 0 = .ok (.aload_n 0, 1) := by decide +kernel
theorem dX12_readStep_1 : decode cX12_readStep 1 = .ok (.invokevirtual 494, 3) := by decide +kernel
theorem dX12_readStep_4 : decode cX12_readStep 4 = .ok (.istore_n 1, 1) := by decide +kernel
theorem dX12_readStep_5 : decode cX12_readStep 5 = .ok (.aload_n 0, 1) := by decide +kernel
theorem dX12_readStep_6 : decode cX12_readStep 6 = .ok (.ldc 233, 2) := by decide +kernel
theorem dX12_readStep_8 : decode cX12_readStep 8 = .ok (.invokevirtual 501, 3) := by decide +kernel
theorem dX12_readStep_11 : decode cX12_readStep 11 = .ok (.ifCond .eq 27, 3) := by decide +kernel
theorem dX12_readStep_38 : decode cX12_readStep 38 = .ok (.iload_n 1, 1) := by decide +kernel
theorem dX12_readStep_39 : decode cX12_readStep 39 = .ok (.ireturn, 1) := by decide +kernel
theorem dX12_readTerm_0 : decode cX12_readTerm 0 = .ok (.aload_n 0, 1) := by decide +kernel
theorem dX12_readTerm_1 : decode cX12_readTerm 1 = .ok (.iconst 0, 1) := by decide +kernel
theorem dX12_readTerm_2 : decode cX12_readTerm 2 = .ok (.putfield 242, 3) := by decide +kernel
theorem dX12_readTerm_5 : decode cX12_readTerm 5 = .ok (.aload_n 0, 1) := by decide +kernel
theorem dX12_readTerm_6 : decode cX12_readTerm 6 = .ok (.iconst 0, 1) := by decide +kernel
theorem dX12_readTerm_7 : decode cX12_readTerm 7 = .ok (.putfield 245, 3) := by decide +kernel
theorem dX12_readTerm_10 : decode cX12_readTerm 10 = .ok (.aload_n 0, 1) := by decide +kernel
theorem dX12_readTerm_11 : decode cX12_readTerm 11 = .ok (.aload_n 0, 1) := by decide +kernel
theorem dX12_readTerm_12 : decode cX12_readTerm 12 = .ok (.getfield 123, 3) := by decide +kernel
theorem dX12_readTerm_15 : decode cX12_readTerm 15 = .ok (.putfield 319, 3) := by decide +kernel
theorem dX12_readTerm_18 : decode cX12_readTerm 18 = .ok (.aload_n 0, 1) := by decide +kernel
theorem dX12_readTerm_19 : decode cX12_readTerm 19 = .ok (.invokevirtual 292, 3) := by decide +kernel
theorem dX12_readTerm_22 : decode cX12_readTerm 22 = .ok (.istore_n 3, 1) := by decide +kernel
theorem dX12_readTerm_23 : decode cX12_readTerm 23 = .ok (.iload_n 2, 1) := by decide +kernel
theorem dX12_readTerm_24 : decode cX12_readTerm 24 = .ok (.iconst 1, 1) := by decide +kernel
theorem dX12_readTerm_25 : decode cX12_readTerm 25 = .ok (.if_icmp .ne 7, 3) := by decide +kernel
theorem dX12_readTerm_32 : decode cX12_readTerm 32 = .ok (.iload_n 2, 1) := by decide +kernel
theorem dX12_readTerm_33 : decode cX12_readTerm 33 = .ok (.iconst 2, 1) := by decide +kernel
theorem dX12_readTerm_34 : decode cX12_readTerm 34 = .ok (.if_icmp .ne 19, 3) := by decide +kernel
theorem dX12_readTerm_53 : decode cX12_readTerm 53 = .ok (.aload_n 0, 1) := by decide +kernel
theorem dX12_readTerm_54 : decode cX12_readTerm 54 = .ok (.getfield 242, 3) := by decide +kernel
theorem dX12_readTerm_57 : decode cX12_readTerm 57 = .ok (.bipush 100, 2) := by decide +kernel
theorem dX12_readTerm_59 : decode cX12_readTerm 59 = .ok (.if_icmp .le 12, 3) := by decide +kernel
theorem dX12_readTerm_71 : decode cX12_readTerm 71 = .ok (.aload_n 0, 1) := by decide +kernel
theorem dX12_readTerm_72 : decode cX12_readTerm 72 = .ok (.getfield 117, 3) := by decide +kernel
theorem dX12_readTerm_75 : decode cX12_readTerm 75 = .ok (.ifCond .le 5, 3) := by decide +kernel
theorem dX12_readTerm_78 : decode cX12_readTerm 78 = .ok (.iconst 0, 1) := by decide +kernel
theorem dX12_readTerm_79 : decode cX12_readTerm 79 = .ok (.ireturn, 1) := by decide +kernel
theorem dX12_readsTerm_0 : decode cX12_readsTerm 0 = .ok (.aload_n 0, 1) := by decide +kernel
theorem dX12_readsTerm_1 : decode cX12_readsTerm 1 = .ok (.invokevirtual 657, 3) := by decide +kernel
theorem dX12_readsTerm_4 : decode cX12_readsTerm 4 = .ok (.aload_n 0, 1) := by decide +kernel
theorem dX12_readsTerm_5 : decode cX12_readsTerm 5 = .ok (.iload_n 1, 1) := by decide +kernel
theorem dX12_readsTerm_6 : decode cX12_readsTerm 6 = .ok (.invokevirtual 660, 3) := by decide +kernel
theorem dX12_readsTerm_9 : decode cX12_readsTerm 9 = .ok (.aload_n 0, 1) := by decide +kernel
theorem dX12_readsTerm_10 : decode cX12_readsTerm 10 = .ok (.aload_n 0, 1) := by decide +kernel
theorem dX12_readsTerm_11 : decode cX12_readsTerm 11 = .ok (.invokevirtual 333, 3) := by decide +kernel
theorem dX12_readsTerm_14 : decode cX12_readsTerm 14 = .ok (.iconst 0, 1) := by decide +kernel
theorem dX12_readsTerm_15 : decode cX12_readsTerm 15 = .ok (.invokevirtual 604, 3) := by decide +kernel
theorem dX12_readsTerm_18 : decode cX12_readsTerm 18 = .ok (.istore_n 2, 1) := by decide +kernel
theorem dX12_readsTerm_19 : decode cX12_readsTerm 19 = .ok (.aload_n 0, 1) := by decide +kernel
theorem dX12_readsTerm_20 : decode cX12_readsTerm 20 = .ok (.invokevirtual 665, 3) := by decide +kernel
theorem dX12_readsTerm_23 : decode cX12_readsTerm 23 = .ok (.iload_n 2, 1) := by decide +kernel
theorem dX12_readsTerm_24 : decode cX12_readsTerm 24 = .ok (.ireturn, 1) := by decide +kernel
theorem dX12_refl__0 : decode cX12_refl_ 0 = .ok (.aload_n 0, 1) := by decide +kernel
theorem dX12_refl__1 : decode cX12_refl_ 1 = .ok (.iconst 0, 1) := by decide +kernel
theorem dX12_refl__2 : decode cX12_refl_ 2 = .ok (.putfield 108, 3) := by decide +kernel
theorem dX12_refl__5 : decode cX12_refl_ 5 = .ok (.aload_n 0, 1) := by decide +kernel
theorem dX12_refl__6 : decode cX12_refl_ 6 = .ok (.iconst 0, 1) := by decide +kernel
theorem dX12_refl__7 : decode cX12_refl_ 7 = .ok (.iload_n 1, 1) := by decide +kernel
theorem dX12_refl__8 : decode cX12_refl_ 8 = .ok (.iconst (-1), 1) := by decide +kernel
theorem dX12_refl__9 : decode cX12_refl_ 9 = .ok (.iconst (-1), 1) := by decide +kernel
theorem dX12_refl__10 : decode cX12_refl_ 10 = .ok (.invokevirtual 714, 3) := by decide +kernel
theorem dX12_refl__13 : decode cX12_refl_ 13 = .ok (.ireturn, 1) := by decide +kernel
theorem dX12_refused_0 : decode cX12_refused 0 = .ok (.aload_n 0, 1) := by decide +kernel
theorem dX12_refused_1 : decode cX12_refused 1 = .ok (.iload_n 1, 1) := by decide +kernel
theorem dX12_refused_2 : decode cX12_refused 2 = .ok (.putfield 111, 3) := by decide +kernel
theorem dX12_refused_5 : decode cX12_refused 5 = .ok (.aload_n 0, 1) := by decide +kernel
theorem dX12_refused_6 : decode cX12_refused 6 = .ok (.iconst (-1), 1) := by decide +kernel
theorem dX12_refused_7 : decode cX12_refused 7 = .ok (.putfield 9, 3) := by decide +kernel
theorem dX12_refused_10 : decode cX12_refused 10 = .ok (.iconst (-1), 1) := by decide +kernel
theorem dX12_refused_11 : decode cX12_refused 11 = .ok (.ireturn, 1) := by decide +kernel
theorem dX12_rewrite_0 : decode cX12_rewrite 0 = .ok (.aload_n 0, 1) := by decide +kernel
theorem dX12_rewrite_1 : decode cX12_rewrite 1 = .ok (.iconst 0, 1) := by decide +kernel
theorem dX12_rewrite_2 : decode cX12_rewrite 2 = .ok (.putfield 108, 3) := by decide +kernel
theorem dX12_rewrite_5 : decode cX12_rewrite 5 = .ok (.aload_n 0, 1) := by decide +kernel
theorem dX12_rewrite_6 : decode cX12_rewrite 6 = .ok (.iload_n 1, 1) := by decide +kernel
theorem dX12_rewrite_7 : decode cX12_rewrite 7 = .ok (.invokevirtual 678, 3) := by decide +kernel
theorem dX12_rewrite_10 : decode cX12_rewrite 10 = .ok (.ifCond .ne 9, 3) := by decide +kernel
theorem dX12_rewrite_13 : decode cX12_rewrite 13 = .ok (.aload_n 0, 1) := by decide +kernel
theorem dX12_rewrite_14 : decode cX12_rewrite 14 = .ok (.iconst 1, 1) := by decide +kernel
theorem dX12_rewrite_15 : decode cX12_rewrite 15 = .ok (.invokevirtual 654, 3) := by decide +kernel
theorem dX12_rewrite_18 : decode cX12_rewrite 18 = .ok (.ireturn, 1) := by decide +kernel
theorem dX12_same_0 : decode cX12_same 0 = .ok (.aload_n 0, 1) := by decide +kernel
theorem dX12_same_1 : decode cX12_same 1 = .ok (.iconst 0, 1) := by decide +kernel
theorem dX12_same_2 : decode cX12_same 2 = .ok (.putfield 108, 3) := by decide +kernel
theorem dX12_same_5 : decode cX12_same 5 = .ok (.aload_n 0, 1) := by decide +kernel
theorem dX12_same_6 : decode cX12_same 6 = .ok (.iload_n 1, 1) := by decide +kernel
theorem dX12_same_7 : decode cX12_same 7 = .ok (.invokevirtual 678, 3) := by decide +kernel
theorem dX12_same_10 : decode cX12_same 10 = .ok (.ifCond .eq 11, 3) := by decide +kernel
theorem dX12_same_21 : decode cX12_same 21 = .ok (.aload_n 0, 1) := by decide +kernel
theorem dX12_same_22 : decode cX12_same 22 = .ok (.iconst 1, 1) := by decide +kernel
theorem dX12_same_23 : decode cX12_same 23 = .ok (.invokevirtual 654, 3) := by decide +kernel
theorem dX12_same_26 : decode cX12_same 26 = .ok (.ireturn, 1) := by decide +kernel
theorem dX12_size_0 : decode cX12_size 0 = .ok (.aload_n 0, 1) := by decide +kernel
theorem dX12_size_1 : decode cX12_size 1 = .ok (.iconst 0, 1) := by decide +kernel
theorem dX12_size_2 : decode cX12_size 2 = .ok (.putfield 108, 3) := by decide +kernel
theorem dX12_size_5 : decode cX12_size 5 = .ok (.aload_n 0, 1) := by decide +kernel
theorem dX12_size_6 : decode cX12_size 6 = .ok (.getfield 114, 3) := by decide +kernel
theorem dX12_size_9 : decode cX12_size 9 = .ok (.ireturn, 1) := by decide +kernel
theorem dX12_sym_0 : decode cX12_sym 0 = .ok (.aload_n 0, 1) := by decide +kernel
theorem dX12_sym_1 : decode cX12_sym 1 = .ok (.iconst 0, 1) := by decide +kernel
theorem dX12_sym_2 : decode cX12_sym 2 = .ok (.putfield 108, 3) := by decide +kernel
theorem dX12_sym_5 : decode cX12_sym 5 = .ok (.aload_n 0, 1) := by decide +kernel
theorem dX12_sym_6 : decode cX12_sym 6 = .ok (.iload_n 1, 1) := by decide +kernel
theorem dX12_sym_7 : decode cX12_sym 7 = .ok (.invokevirtual 678, 3) := by decide +kernel
theorem dX12_sym_10 : decode cX12_sym 10 = .ok (.ifCond .ne 9, 3) := by decide +kernel
theorem dX12_sym_13 : decode cX12_sym 13 = .ok (.aload_n 0, 1) := by decide +kernel
theorem dX12_sym_14 : decode cX12_sym 14 = .ok (.iconst 1, 1) := by decide +kernel
theorem dX12_sym_15 : decode cX12_sym 15 = .ok (.invokevirtual 654, 3) := by decide +kernel
theorem dX12_sym_18 : decode cX12_sym 18 = .ok (.ireturn, 1) := by decide +kernel
theorem dX12_term_0 : decode cX12_term 0 = .ok (.aload_n 0, 1) := by decide +kernel
theorem dX12_term_1 : decode cX12_term 1 = .ok (.iconst 0, 1) := by decide +kernel
theorem dX12_term_2 : decode cX12_term 2 = .ok (.putfield 108, 3) := by decide +kernel
theorem dX12_term_5 : decode cX12_term 5 = .ok (.iload_n 2, 1) := by decide +kernel
theorem dX12_term_6 : decode cX12_term 6 = .ok (.iconst 0, 1) := by decide +kernel
theorem dX12_term_7 : decode cX12_term 7 = .ok (.bipush 7, 2) := by decide +kernel
theorem dX12_term_9 : decode cX12_term 9 = .ok (.invokestatic 130, 3) := by decide +kernel
theorem dX12_term_12 : decode cX12_term 12 = .ok (.ifCond .ne 9, 3) := by decide +kernel
theorem dX12_term_15 : decode cX12_term 15 = .ok (.aload_n 0, 1) := by decide +kernel
theorem dX12_term_16 : decode cX12_term 16 = .ok (.iconst 1, 1) := by decide +kernel
theorem dX12_term_17 : decode cX12_term 17 = .ok (.invokevirtual 654, 3) := by decide +kernel
theorem dX12_term_20 : decode cX12_term 20 = .ok (.ireturn, 1) := by decide +kernel
theorem dX12_term_21 : decode cX12_term 21 = .ok (.aload_n 0, 1) := by decide +kernel
theorem dX12_term_22 : decode cX12_term 22 = .ok (.iload_n 1, 1) := by decide +kernel
theorem dX12_term_23 : decode cX12_term 23 = .ok (.invokevirtual 651, 3) := by decide +kernel
theorem dX12_term_26 : decode cX12_term 26 = .ok (.ifCond .eq 9, 3) := by decide +kernel
theorem dX12_term_29 : decode cX12_term 29 = .ok (.aload_n 0, 1) := by decide +kernel
theorem dX12_term_30 : decode cX12_term 30 = .ok (.iconst 2, 1) := by decide +kernel
theorem dX12_term_31 : decode cX12_term 31 = .ok (.invokevirtual 654, 3) := by decide +kernel
theorem dX12_term_34 : decode cX12_term 34 = .ok (.ireturn, 1) := by decide +kernel
theorem dX12_term_35 : decode cX12_term 35 = .ok (.aload_n 0, 1) := by decide +kernel
theorem dX12_term_36 : decode cX12_term 36 = .ok (.iload_n 1, 1) := by decide +kernel
theorem dX12_term_37 : decode cX12_term 37 = .ok (.invokevirtual 702, 3) := by decide +kernel
theorem dX12_term_40 : decode cX12_term 40 = .ok (.istore_n 3, 1) := by decide +kernel
theorem dX12_term_41 : decode cX12_term 41 = .ok (.aload_n 0, 1) := by decide +kernel
theorem dX12_term_42 : decode cX12_term 42 = .ok (.getfield 117, 3) := by decide +kernel
theorem dX12_term_45 : decode cX12_term 45 = .ok (.ifCond .le 8, 3) := by decide +kernel
theorem dX12_term_48 : decode cX12_term 48 = .ok (.aload_n 0, 1) := by decide +kernel
theorem dX12_term_49 : decode cX12_term 49 = .ok (.invokevirtual 668, 3) := by decide +kernel
theorem dX12_term_52 : decode cX12_term 52 = .ok (.ireturn, 1) := by decide +kernel
theorem dX12_theorem_0 : decode cX12_theorem 0 = .ok (.aload_n 0, 1) := by decide +kernel
theorem dX12_theorem_1 : decode cX12_theorem 1 = .ok (.iconst 0, 1) := by decide +kernel
theorem dX12_theorem_2 : decode cX12_theorem 2 = .ok (.putfield 108, 3) := by decide +kernel
theorem dX12_theorem_5 : decode cX12_theorem 5 = .ok (.aload_n 0, 1) := by decide +kernel
theorem dX12_theorem_6 : decode cX12_theorem 6 = .ok (.iload_n 1, 1) := by decide +kernel
theorem dX12_theorem_7 : decode cX12_theorem 7 = .ok (.invokevirtual 678, 3) := by decide +kernel
theorem dX12_theorem_10 : decode cX12_theorem 10 = .ok (.ifCond .ne 9, 3) := by decide +kernel
theorem dX12_theorem_13 : decode cX12_theorem 13 = .ok (.aload_n 0, 1) := by decide +kernel
theorem dX12_theorem_14 : decode cX12_theorem 14 = .ok (.iconst 1, 1) := by decide +kernel
theorem dX12_theorem_15 : decode cX12_theorem 15 = .ok (.invokevirtual 654, 3) := by decide +kernel
theorem dX12_theorem_18 : decode cX12_theorem 18 = .ok (.ireturn, 1) := by decide +kernel
theorem dX12_theory_0 : decode cX12_theory 0 = .ok (.aload_n 0, 1) := by decide +kernel
theorem dX12_theory_1 : decode cX12_theory 1 = .ok (.iconst 0, 1) := by decide +kernel
theorem dX12_theory_2 : decode cX12_theory 2 = .ok (.putfield 108, 3) := by decide +kernel
theorem dX12_theory_5 : decode cX12_theory 5 = .ok (.aload_n 0, 1) := by decide +kernel
theorem dX12_theory_6 : decode cX12_theory 6 = .ok (.iload_n 1, 1) := by decide +kernel
theorem dX12_theory_7 : decode cX12_theory 7 = .ok (.invokevirtual 651, 3) := by decide +kernel
theorem dX12_theory_10 : decode cX12_theory 10 = .ok (.ifCond .eq 9, 3) := by decide +kernel
theorem dX12_theory_13 : decode cX12_theory 13 = .ok (.aload_n 0, 1) := by decide +kernel
theorem dX12_theory_14 : decode cX12_theory 14 = .ok (.iconst 2, 1) := by decide +kernel
theorem dX12_theory_15 : decode cX12_theory 15 = .ok (.invokevirtual 654, 3) := by decide +kernel
theorem dX12_theory_18 : decode cX12_theory 18 = .ok (.ireturn, 1) := by decide +kernel
theorem dX12_theory_19 : decode cX12_theory 19 = .ok (.aload_n 0, 1) := by decide +kernel
theorem dX12_theory_20 : decode cX12_theory 20 = .ok (.getfield 279, 3) := by decide +kernel
theorem dX12_theory_23 : decode cX12_theory 23 = .ok (.istore_n 2, 1) := by decide +kernel
theorem dX12_theory_24 : decode cX12_theory 24 = .ok (.aload_n 0, 1) := by decide +kernel
theorem dX12_theory_25 : decode cX12_theory 25 = .ok (.getfield 286, 3) := by decide +kernel
theorem dX12_theory_28 : decode cX12_theory 28 = .ok (.istore_n 3, 1) := by decide +kernel
theorem dX12_theory_29 : decode cX12_theory 29 = .ok (.aload_n 0, 1) := by decide +kernel
theorem dX12_theory_30 : decode cX12_theory 30 = .ok (.getfield 491, 3) := by decide +kernel
theorem dX12_theory_33 : decode cX12_theory 33 = .ok (.istore 4, 2) := by decide +kernel
theorem dX12_theory_35 : decode cX12_theory 35 = .ok (.aload_n 0, 1) := by decide +kernel
theorem dX12_theory_36 : decode cX12_theory 36 = .ok (.invokevirtual 657, 3) := by decide +kernel
theorem dX12_theory_39 : decode cX12_theory 39 = .ok (.aload_n 0, 1) := by decide +kernel
theorem dX12_theory_40 : decode cX12_theory 40 = .ok (.iload_n 1, 1) := by decide +kernel
theorem dX12_theory_41 : decode cX12_theory 41 = .ok (.invokevirtual 660, 3) := by decide +kernel
theorem dX12_theory_44 : decode cX12_theory 44 = .ok (.aload_n 0, 1) := by decide +kernel
theorem dX12_theory_45 : decode cX12_theory 45 = .ok (.invokevirtual 662, 3) := by decide +kernel
theorem dX12_theory_48 : decode cX12_theory 48 = .ok (.aload_n 0, 1) := by decide +kernel
theorem dX12_theory_49 : decode cX12_theory 49 = .ok (.bipush 59, 2) := by decide +kernel
theorem dX12_theory_51 : decode cX12_theory 51 = .ok (.invokevirtual 172, 3) := by decide +kernel
theorem dX12_theory_54 : decode cX12_theory 54 = .ok (.ifCond .eq 14, 3) := by decide +kernel
theorem dX12_theory_68 : decode cX12_theory 68 = .ok (.aload_n 0, 1) := by decide +kernel
theorem dX12_theory_69 : decode cX12_theory 69 = .ok (.invokevirtual 665, 3) := by decide +kernel
theorem dX12_theory_72 : decode cX12_theory 72 = .ok (.aload_n 0, 1) := by decide +kernel
theorem dX12_theory_73 : decode cX12_theory 73 = .ok (.getfield 117, 3) := by decide +kernel
theorem dX12_theory_76 : decode cX12_theory 76 = .ok (.ifCond .le 24, 3) := by decide +kernel
theorem dX12_theory_79 : decode cX12_theory 79 = .ok (.aload_n 0, 1) := by decide +kernel
theorem dX12_theory_80 : decode cX12_theory 80 = .ok (.iload_n 2, 1) := by decide +kernel
theorem dX12_theory_81 : decode cX12_theory 81 = .ok (.putfield 279, 3) := by decide +kernel
theorem dX12_theory_84 : decode cX12_theory 84 = .ok (.aload_n 0, 1) := by decide +kernel
theorem dX12_theory_85 : decode cX12_theory 85 = .ok (.iload_n 3, 1) := by decide +kernel
theorem dX12_theory_86 : decode cX12_theory 86 = .ok (.putfield 286, 3) := by decide +kernel
theorem dX12_theory_89 : decode cX12_theory 89 = .ok (.aload_n 0, 1) := by decide +kernel
theorem dX12_theory_90 : decode cX12_theory 90 = .ok (.iload 4, 2) := by decide +kernel
theorem dX12_theory_92 : decode cX12_theory 92 = .ok (.putfield 491, 3) := by decide +kernel
theorem dX12_theory_95 : decode cX12_theory 95 = .ok (.aload_n 0, 1) := by decide +kernel
theorem dX12_theory_96 : decode cX12_theory 96 = .ok (.invokevirtual 668, 3) := by decide +kernel
theorem dX12_theory_99 : decode cX12_theory 99 = .ok (.ireturn, 1) := by decide +kernel
theorem dX12_thrown_0 : decode cX12_thrown 0 = .ok (.aload_n 0, 1) := by decide +kernel
theorem dX12_thrown_1 : decode cX12_thrown 1 = .ok (.getfield 108, 3) := by decide +kernel
theorem dX12_thrown_4 : decode cX12_thrown 4 = .ok (.ireturn, 1) := by decide +kernel
theorem dX12_trans__0 : decode cX12_trans_ 0 = .ok (.aload_n 0, 1) := by decide +kernel
theorem dX12_trans__1 : decode cX12_trans_ 1 = .ok (.iconst 1, 1) := by decide +kernel
theorem dX12_trans__2 : decode cX12_trans_ 2 = .ok (.iload_n 1, 1) := by decide +kernel
theorem dX12_trans__3 : decode cX12_trans_ 3 = .ok (.iload_n 2, 1) := by decide +kernel
theorem dX12_trans__4 : decode cX12_trans_ 4 = .ok (.invokevirtual 717, 3) := by decide +kernel
theorem dX12_trans__7 : decode cX12_trans_ 7 = .ok (.ireturn, 1) := by decide +kernel
theorem dX12_trouble_0 : decode cX12_trouble 0 = .ok (.aload_n 0, 1) := by decide +kernel
theorem dX12_trouble_1 : decode cX12_trouble 1 = .ok (.iconst 0, 1) := by decide +kernel
theorem dX12_trouble_2 : decode cX12_trouble 2 = .ok (.putfield 108, 3) := by decide +kernel
theorem dX12_trouble_5 : decode cX12_trouble 5 = .ok (.aload_n 0, 1) := by decide +kernel
theorem dX12_trouble_6 : decode cX12_trouble 6 = .ok (.getfield 111, 3) := by decide +kernel
theorem dX12_trouble_9 : decode cX12_trouble 9 = .ok (.ireturn, 1) := by decide +kernel
theorem dX12_unfold_0 : decode cX12_unfold 0 = .ok (.aload_n 0, 1) := by decide +kernel
theorem dX12_unfold_1 : decode cX12_unfold 1 = .ok (.iconst 0, 1) := by decide +kernel
theorem dX12_unfold_2 : decode cX12_unfold 2 = .ok (.putfield 108, 3) := by decide +kernel
theorem dX12_unfold_5 : decode cX12_unfold 5 = .ok (.aload_n 0, 1) := by decide +kernel
theorem dX12_unfold_6 : decode cX12_unfold 6 = .ok (.iload_n 1, 1) := by decide +kernel
theorem dX12_unfold_7 : decode cX12_unfold 7 = .ok (.invokevirtual 678, 3) := by decide +kernel
theorem dX12_unfold_10 : decode cX12_unfold 10 = .ok (.ifCond .ne 9, 3) := by decide +kernel
theorem dX12_unfold_13 : decode cX12_unfold 13 = .ok (.aload_n 0, 1) := by decide +kernel
theorem dX12_unfold_14 : decode cX12_unfold 14 = .ok (.iconst 1, 1) := by decide +kernel
theorem dX12_unfold_15 : decode cX12_unfold 15 = .ok (.invokevirtual 654, 3) := by decide +kernel
theorem dX12_unfold_18 : decode cX12_unfold 18 = .ok (.ireturn, 1) := by decide +kernel
theorem dX12_used_0 : decode cX12_used 0 = .ok (.aload_n 0, 1) := by decide +kernel
theorem dX12_used_1 : decode cX12_used 1 = .ok (.iconst 0, 1) := by decide +kernel
theorem dX12_used_2 : decode cX12_used 2 = .ok (.putfield 108, 3) := by decide +kernel
theorem dX12_used_5 : decode cX12_used 5 = .ok (.iload_n 1, 1) := by decide +kernel
theorem dX12_used_6 : decode cX12_used 6 = .ok (.iconst 0, 1) := by decide +kernel
theorem dX12_used_7 : decode cX12_used 7 = .ok (.bipush 9, 2) := by decide +kernel
theorem dX12_used_9 : decode cX12_used 9 = .ok (.invokestatic 130, 3) := by decide +kernel
theorem dX12_used_12 : decode cX12_used 12 = .ok (.ifCond .eq 16, 3) := by decide +kernel
theorem dX12_used_15 : decode cX12_used 15 = .ok (.aload_n 0, 1) := by decide +kernel
theorem dX12_used_16 : decode cX12_used 16 = .ok (.aload_n 0, 1) := by decide +kernel
theorem dX12_used_17 : decode cX12_used 17 = .ok (.getfield 93, 3) := by decide +kernel
theorem dX12_used_20 : decode cX12_used 20 = .ok (.iload_n 1, 1) := by decide +kernel
theorem dX12_used_21 : decode cX12_used 21 = .ok (.iaload, 1) := by decide +kernel
theorem dX12_used_22 : decode cX12_used 22 = .ok (.invokevirtual 385, 3) := by decide +kernel
theorem dX12_used_25 : decode cX12_used 25 = .ok (.goto 8, 3) := by decide +kernel
theorem dX12_used_28 : decode cX12_used 28 = .ok (.aload_n 0, 1) := by decide +kernel
theorem dX12_used_29 : decode cX12_used 29 = .ok (.iconst 1, 1) := by decide +kernel
theorem dX12_used_30 : decode cX12_used 30 = .ok (.invokevirtual 654, 3) := by decide +kernel
theorem dX12_used_33 : decode cX12_used 33 = .ok (.ireturn, 1) := by decide +kernel
theorem dX12_where_0 : decode cX12_where 0 = .ok (.aload_n 0, 1) := by decide +kernel
theorem dX12_where_1 : decode cX12_where 1 = .ok (.iconst 0, 1) := by decide +kernel
theorem dX12_where_2 : decode cX12_where 2 = .ok (.putfield 108, 3) := by decide +kernel
theorem dX12_where_5 : decode cX12_where 5 = .ok (.aload_n 0, 1) := by decide +kernel
theorem dX12_where_6 : decode cX12_where 6 = .ok (.getfield 9, 3) := by decide +kernel
theorem dX12_where_9 : decode cX12_where 9 = .ok (.ireturn, 1) := by decide +kernel
theorem dX12_write_0 : decode cX12_write 0 = .ok (.aload_n 0, 1) := by decide +kernel
theorem dX12_write_1 : decode cX12_write 1 = .ok (.iconst 0, 1) := by decide +kernel
theorem dX12_write_2 : decode cX12_write 2 = .ok (.putfield 108, 3) := by decide +kernel
theorem dX12_write_5 : decode cX12_write 5 = .ok (.aload_n 0, 1) := by decide +kernel
theorem dX12_write_6 : decode cX12_write 6 = .ok (.iload_n 1, 1) := by decide +kernel
theorem dX12_write_7 : decode cX12_write 7 = .ok (.invokevirtual 651, 3) := by decide +kernel
theorem dX12_write_10 : decode cX12_write 10 = .ok (.ifCond .eq 9, 3) := by decide +kernel
theorem dX12_write_13 : decode cX12_write 13 = .ok (.aload_n 0, 1) := by decide +kernel
theorem dX12_write_14 : decode cX12_write 14 = .ok (.iconst 2, 1) := by decide +kernel
theorem dX12_write_15 : decode cX12_write 15 = .ok (.invokevirtual 654, 3) := by decide +kernel
theorem dX12_write_18 : decode cX12_write 18 = .ok (.ireturn, 1) := by decide +kernel
theorem dX12_write_19 : decode cX12_write 19 = .ok (.aload_n 0, 1) := by decide +kernel
theorem dX12_write_20 : decode cX12_write 20 = .ok (.iload_n 1, 1) := by decide +kernel
theorem dX12_write_21 : decode cX12_write 21 = .ok (.invokevirtual 702, 3) := by decide +kernel
theorem dX12_write_24 : decode cX12_write 24 = .ok (.istore_n 2, 1) := by decide +kernel
theorem dX12_write_25 : decode cX12_write 25 = .ok (.aload_n 0, 1) := by decide +kernel
theorem dX12_write_26 : decode cX12_write 26 = .ok (.getfield 117, 3) := by decide +kernel
theorem dX12_write_29 : decode cX12_write 29 = .ok (.ifCond .le 10, 3) := by decide +kernel
theorem dX12_write_32 : decode cX12_write 32 = .ok (.aload_n 0, 1) := by decide +kernel
theorem dX12_write_33 : decode cX12_write 33 = .ok (.invokevirtual 668, 3) := by decide +kernel
theorem dX12_write_36 : decode cX12_write 36 = .ok (.goto 10, 3) := by decide +kernel
theorem dX12_write_46 : decode cX12_write 46 = .ok (.ireturn, 1) := by decide +kernel
theorem dX12_writeOf_0 : decode cX12_writeOf 0 = .ok (.aload_n 0, 1) := by decide +kernel
theorem dX12_writeOf_1 : decode cX12_writeOf 1 = .ok (.iconst 0, 1) := by decide +kernel
theorem dX12_writeOf_2 : decode cX12_writeOf 2 = .ok (.putfield 108, 3) := by decide +kernel
theorem dX12_writeOf_5 : decode cX12_writeOf 5 = .ok (.aload_n 0, 1) := by decide +kernel
theorem dX12_writeOf_6 : decode cX12_writeOf 6 = .ok (.iload_n 1, 1) := by decide +kernel
theorem dX12_writeOf_7 : decode cX12_writeOf 7 = .ok (.invokevirtual 678, 3) := by decide +kernel
theorem dX12_writeOf_10 : decode cX12_writeOf 10 = .ok (.ifCond .eq 18, 3) := by decide +kernel
theorem dX12_writeOf_28 : decode cX12_writeOf 28 = .ok (.aload_n 0, 1) := by decide +kernel
theorem dX12_writeOf_29 : decode cX12_writeOf 29 = .ok (.iconst 1, 1) := by decide +kernel
theorem dX12_writeOf_30 : decode cX12_writeOf 30 = .ok (.invokevirtual 654, 3) := by decide +kernel
theorem dX12_writeOf_33 : decode cX12_writeOf 33 = .ok (.ireturn, 1) := by decide +kernel
theorem dX12_writeSide_0 : decode cX12_writeSide 0 = .ok (.aload_n 0, 1) := by decide +kernel
theorem dX12_writeSide_1 : decode cX12_writeSide 1 = .ok (.iconst 0, 1) := by decide +kernel
theorem dX12_writeSide_2 : decode cX12_writeSide 2 = .ok (.putfield 108, 3) := by decide +kernel
theorem dX12_writeSide_5 : decode cX12_writeSide 5 = .ok (.aload_n 0, 1) := by decide +kernel
theorem dX12_writeSide_6 : decode cX12_writeSide 6 = .ok (.iload_n 1, 1) := by decide +kernel
theorem dX12_writeSide_7 : decode cX12_writeSide 7 = .ok (.invokevirtual 678, 3) := by decide +kernel
theorem dX12_writeSide_10 : decode cX12_writeSide 10 = .ok (.ifCond .eq 12, 3) := by decide +kernel
theorem dX12_writeSide_22 : decode cX12_writeSide 22 = .ok (.aload_n 0, 1) := by decide +kernel
theorem dX12_writeSide_23 : decode cX12_writeSide 23 = .ok (.iconst 1, 1) := by decide +kernel
theorem dX12_writeSide_24 : decode cX12_writeSide 24 = .ok (.invokevirtual 654, 3) := by decide +kernel
theorem dX12_writeSide_27 : decode cX12_writeSide 27 = .ok (.ireturn, 1) := by decide +kernel
theorem dX12_writeType_0 : decode cX12_writeType 0 = .ok (.aload_n 0, 1) := by decide +kernel
theorem dX12_writeType_1 : decode cX12_writeType 1 = .ok (.iconst 0, 1) := by decide +kernel
theorem dX12_writeType_2 : decode cX12_writeType 2 = .ok (.putfield 108, 3) := by decide +kernel
theorem dX12_writeType_5 : decode cX12_writeType 5 = .ok (.aload_n 0, 1) := by decide +kernel
theorem dX12_writeType_6 : decode cX12_writeType 6 = .ok (.iload_n 1, 1) := by decide +kernel
theorem dX12_writeType_7 : decode cX12_writeType 7 = .ok (.invokevirtual 651, 3) := by decide +kernel
theorem dX12_writeType_10 : decode cX12_writeType 10 = .ok (.ifCond .eq 9, 3) := by decide +kernel
theorem dX12_writeType_13 : decode cX12_writeType 13 = .ok (.aload_n 0, 1) := by decide +kernel
theorem dX12_writeType_14 : decode cX12_writeType 14 = .ok (.iconst 2, 1) := by decide +kernel
theorem dX12_writeType_15 : decode cX12_writeType 15 = .ok (.invokevirtual 654, 3) := by decide +kernel
theorem dX12_writeType_18 : decode cX12_writeType 18 = .ok (.ireturn, 1) := by decide +kernel
theorem dX12_writeType_19 : decode cX12_writeType 19 = .ok (.aload_n 0, 1) := by decide +kernel
theorem dX12_writeType_20 : decode cX12_writeType 20 = .ok (.iload_n 1, 1) := by decide +kernel
theorem dX12_writeType_21 : decode cX12_writeType 21 = .ok (.invokevirtual 702, 3) := by decide +kernel
theorem dX12_writeType_24 : decode cX12_writeType 24 = .ok (.istore_n 2, 1) := by decide +kernel
theorem dX12_writeType_25 : decode cX12_writeType 25 = .ok (.aload_n 0, 1) := by decide +kernel
theorem dX12_writeType_26 : decode cX12_writeType 26 = .ok (.getfield 117, 3) := by decide +kernel
theorem dX12_writeType_29 : decode cX12_writeType 29 = .ok (.ifCond .le 8, 3) := by decide +kernel
theorem dX12_writeType_32 : decode cX12_writeType 32 = .ok (.aload_n 0, 1) := by decide +kernel
theorem dX12_writeType_33 : decode cX12_writeType 33 = .ok (.invokevirtual 668, 3) := by decide +kernel
theorem dX12_writeType_36 : decode cX12_writeType 36 = .ok (.ireturn, 1) := by decide +kernel
theorem dX1_init_0 : decode cX1_init 0 = .ok (.aload_n 0, 1) := by decide +kernel
theorem dX1_init_1 : decode cX1_init 1 = .ok (.invokespecial 3, 3) := by decide +kernel
theorem dX1_init_4 : decode cX1_init 4 = .ok (.aload_n 0, 1) := by decide +kernel
theorem dX1_init_5 : decode cX1_init 5 = .ok (.sipush 400, 3) := by decide +kernel
theorem dX1_init_8 : decode cX1_init 8 = .ok (.newarray .int, 2) := by decide +kernel
theorem dX1_init_10 : decode cX1_init 10 = .ok (.putfield 9, 3) := by decide +kernel
theorem dX1_init_13 : decode cX1_init 13 = .ok (.aload_n 0, 1) := by decide +kernel
theorem dX1_init_14 : decode cX1_init 14 = .ok (.sipush 400, 3) := by decide +kernel
theorem dX1_init_17 : decode cX1_init 17 = .ok (.newarray .int, 2) := by decide +kernel
theorem dX1_init_19 : decode cX1_init 19 = .ok (.putfield 15, 3) := by decide +kernel
theorem dX1_init_22 : decode cX1_init 22 = .ok (.aload_n 0, 1) := by decide +kernel
theorem dX1_init_23 : decode cX1_init 23 = .ok (.sipush 400, 3) := by decide +kernel
theorem dX1_init_26 : decode cX1_init 26 = .ok (.newarray .int, 2) := by decide +kernel
theorem dX1_init_28 : decode cX1_init 28 = .ok (.putfield 18, 3) := by decide +kernel
theorem dX1_init_31 : decode cX1_init 31 = .ok (.aload_n 0, 1) := by decide +kernel
theorem dX1_init_32 : decode cX1_init 32 = .ok (.aload_n 1, 1) := by decide +kernel
theorem dX1_init_33 : decode cX1_init 33 = .ok (.putfield 21, 3) := by decide +kernel
theorem dX1_init_36 : decode cX1_init 36 = .ok (.aload_n 0, 1) := by decide +kernel
theorem dX1_init_37 : decode cX1_init 37 = .ok (.aload_n 2, 1) := by decide +kernel
theorem dX1_init_38 : decode cX1_init 38 = .ok (.putfield 25, 3) := by decide +kernel
theorem dX1_init_41 : decode cX1_init 41 = .ok (.return_, 1) := by decide +kernel
theorem dX1_opOfWord_0 : decode cX1_opOfWord 0 = .ok (.iload_n 0, 1) := by decide +kernel
theorem dX1_opOfWord_1 : decode cX1_opOfWord 1 = .ok (.tableswitch 121 4 22 #[95, 121, 121, 121, 121, 97, 121, 121, 99, 121, 91, 93, 101, 103, 106, 109, 112, 115, 118], 91) := by decide +kernel
theorem dX1_opOfWord_122 : decode cX1_opOfWord 122 = .ok (.iconst (-1), 1) := by decide +kernel
theorem dX1_opOfWord_123 : decode cX1_opOfWord 123 = .ok (.ireturn, 1) := by decide +kernel
theorem dX1_read_0 : decode cX1_read 0 = .ok (.aload_n 0, 1) := by decide +kernel
theorem dX1_read_1 : decode cX1_read 1 = .ok (.iconst 0, 1) := by decide +kernel
theorem dX1_read_2 : decode cX1_read 2 = .ok (.putfield 29, 3) := by decide +kernel
theorem dX1_read_5 : decode cX1_read 5 = .ok (.aload_n 0, 1) := by decide +kernel
theorem dX1_read_6 : decode cX1_read 6 = .ok (.iconst 0, 1) := by decide +kernel
theorem dX1_read_7 : decode cX1_read 7 = .ok (.invokevirtual 46, 3) := by decide +kernel
theorem dX1_read_10 : decode cX1_read 10 = .ok (.ireturn, 1) := by decide +kernel
theorem dX1_readConv_0 : decode cX1_readConv 0 = .ok (.aload_n 0, 1) := by decide +kernel
theorem dX1_readConv_1 : decode cX1_readConv 1 = .ok (.iload_n 1, 1) := by decide +kernel
theorem dX1_readConv_2 : decode cX1_readConv 2 = .ok (.invokevirtual 50, 3) := by decide +kernel
theorem dX1_readConv_5 : decode cX1_readConv 5 = .ok (.istore_n 2, 1) := by decide +kernel
theorem dX1_readConv_6 : decode cX1_readConv 6 = .ok (.iconst 0, 1) := by decide +kernel
theorem dX1_readConv_7 : decode cX1_readConv 7 = .ok (.istore_n 3, 1) := by decide +kernel
theorem dX1_readConv_8 : decode cX1_readConv 8 = .ok (.iload_n 3, 1) := by decide +kernel
theorem dX1_readConv_9 : decode cX1_readConv 9 = .ok (.sipush 400, 3) := by decide +kernel
theorem dX1_readConv_12 : decode cX1_readConv 12 = .ok (.if_icmp .ge 58, 3) := by decide +kernel
theorem dX1_readConv_15 : decode cX1_readConv 15 = .ok (.iload_n 2, 1) := by decide +kernel
theorem dX1_readConv_16 : decode cX1_readConv 16 = .ok (.ifCond .lt 54, 3) := by decide +kernel
theorem dX1_readConv_70 : decode cX1_readConv 70 = .ok (.iload_n 2, 1) := by decide +kernel
theorem dX1_readConv_71 : decode cX1_readConv 71 = .ok (.ireturn, 1) := by decide +kernel
theorem dX1_readFirst_0 : decode cX1_readFirst 0 = .ok (.aload_n 0, 1) := by decide +kernel
theorem dX1_readFirst_1 : decode cX1_readFirst 1 = .ok (.getfield 21, 3) := by decide +kernel
theorem dX1_readFirst_4 : decode cX1_readFirst 4 = .ok (.invokevirtual 53, 3) := by decide +kernel
theorem dX1_readFirst_7 : decode cX1_readFirst 7 = .ok (.invokestatic 63, 3) := by decide +kernel
theorem dX1_readFirst_10 : decode cX1_readFirst 10 = .ok (.istore_n 2, 1) := by decide +kernel
theorem dX1_readFirst_11 : decode cX1_readFirst 11 = .ok (.aload_n 0, 1) := by decide +kernel
theorem dX1_readFirst_12 : decode cX1_readFirst 12 = .ok (.getfield 21, 3) := by decide +kernel
theorem dX1_readFirst_15 : decode cX1_readFirst 15 = .ok (.getfield 66, 3) := by decide +kernel
theorem dX1_readFirst_18 : decode cX1_readFirst 18 = .ok (.bipush 40, 2) := by decide +kernel
theorem dX1_readFirst_20 : decode cX1_readFirst 20 = .ok (.if_icmp .ne 7, 3) := by decide +kernel
theorem dX1_readFirst_27 : decode cX1_readFirst 27 = .ok (.iconst 0, 1) := by decide +kernel
theorem dX1_readFirst_28 : decode cX1_readFirst 28 = .ok (.istore_n 3, 1) := by decide +kernel
theorem dX1_readFirst_29 : decode cX1_readFirst 29 = .ok (.iload_n 2, 1) := by decide +kernel
theorem dX1_readFirst_30 : decode cX1_readFirst 30 = .ok (.ifCond .ge 23, 3) := by decide +kernel
theorem dX1_readFirst_33 : decode cX1_readFirst 33 = .ok (.iload_n 3, 1) := by decide +kernel
theorem dX1_readFirst_34 : decode cX1_readFirst 34 = .ok (.ifCond .ne 19, 3) := by decide +kernel
theorem dX1_readFirst_37 : decode cX1_readFirst 37 = .ok (.aload_n 0, 1) := by decide +kernel
theorem dX1_readFirst_38 : decode cX1_readFirst 38 = .ok (.getfield 21, 3) := by decide +kernel
theorem dX1_readFirst_41 : decode cX1_readFirst 41 = .ok (.iconst 1, 1) := by decide +kernel
theorem dX1_readFirst_42 : decode cX1_readFirst 42 = .ok (.aload_n 0, 1) := by decide +kernel
theorem dX1_readFirst_43 : decode cX1_readFirst 43 = .ok (.getfield 21, 3) := by decide +kernel
theorem dX1_readFirst_46 : decode cX1_readFirst 46 = .ok (.getfield 33, 3) := by decide +kernel
theorem dX1_readFirst_49 : decode cX1_readFirst 49 = .ok (.invokevirtual 38, 3) := by decide +kernel
theorem dX1_readFirst_52 : decode cX1_readFirst 52 = .ok (.ireturn, 1) := by decide +kernel
theorem dX1_readStep_0 : decode cX1_readStep 0 = .ok (.aload_n 0, 1) := by decide +kernel
theorem dX1_readStep_1 : decode cX1_readStep 1 = .ok (.iload_n 1, 1) := by decide +kernel
theorem dX1_readStep_2 : decode cX1_readStep 2 = .ok (.invokevirtual 60, 3) := by decide +kernel
theorem dX1_readStep_5 : decode cX1_readStep 5 = .ok (.istore_n 2, 1) := by decide +kernel
theorem dX1_readStep_6 : decode cX1_readStep 6 = .ok (.iconst 0, 1) := by decide +kernel
theorem dX1_readStep_7 : decode cX1_readStep 7 = .ok (.istore_n 3, 1) := by decide +kernel
theorem dX1_readStep_8 : decode cX1_readStep 8 = .ok (.iload_n 3, 1) := by decide +kernel
theorem dX1_readStep_9 : decode cX1_readStep 9 = .ok (.sipush 400, 3) := by decide +kernel
theorem dX1_readStep_12 : decode cX1_readStep 12 = .ok (.if_icmp .ge 58, 3) := by decide +kernel
theorem dX1_readStep_15 : decode cX1_readStep 15 = .ok (.iload_n 2, 1) := by decide +kernel
theorem dX1_readStep_16 : decode cX1_readStep 16 = .ok (.ifCond .lt 54, 3) := by decide +kernel
theorem dX1_readStep_70 : decode cX1_readStep 70 = .ok (.iload_n 2, 1) := by decide +kernel
theorem dX1_readStep_71 : decode cX1_readStep 71 = .ok (.ireturn, 1) := by decide +kernel
theorem dX2_init_0 : decode cX2_init 0 = .ok (.aload_n 0, 1) := by decide +kernel
theorem dX2_init_1 : decode cX2_init 1 = .ok (.invokespecial 3, 3) := by decide +kernel
theorem dX2_init_4 : decode cX2_init 4 = .ok (.aload_n 0, 1) := by decide +kernel
theorem dX2_init_5 : decode cX2_init 5 = .ok (.bipush 64, 2) := by decide +kernel
theorem dX2_init_7 : decode cX2_init 7 = .ok (.newarray .int, 2) := by decide +kernel
theorem dX2_init_9 : decode cX2_init 9 = .ok (.putfield 11, 3) := by decide +kernel
theorem dX2_init_12 : decode cX2_init 12 = .ok (.aload_n 0, 1) := by decide +kernel
theorem dX2_init_13 : decode cX2_init 13 = .ok (.bipush 64, 2) := by decide +kernel
theorem dX2_init_15 : decode cX2_init 15 = .ok (.newarray .int, 2) := by decide +kernel
theorem dX2_init_17 : decode cX2_init 17 = .ok (.putfield 15, 3) := by decide +kernel
theorem dX2_init_20 : decode cX2_init 20 = .ok (.aload_n 0, 1) := by decide +kernel
theorem dX2_init_21 : decode cX2_init 21 = .ok (.bipush 64, 2) := by decide +kernel
theorem dX2_init_23 : decode cX2_init 23 = .ok (.newarray .int, 2) := by decide +kernel
theorem dX2_init_25 : decode cX2_init 25 = .ok (.putfield 18, 3) := by decide +kernel
theorem dX2_init_28 : decode cX2_init 28 = .ok (.aload_n 0, 1) := by decide +kernel
theorem dX2_init_29 : decode cX2_init 29 = .ok (.bipush 64, 2) := by decide +kernel
theorem dX2_init_31 : decode cX2_init 31 = .ok (.newarray .int, 2) := by decide +kernel
theorem dX2_init_33 : decode cX2_init 33 = .ok (.putfield 21, 3) := by decide +kernel
theorem dX2_init_36 : decode cX2_init 36 = .ok (.aload_n 0, 1) := by decide +kernel
theorem dX2_init_37 : decode cX2_init 37 = .ok (.bipush 10, 2) := by decide +kernel
theorem dX2_init_39 : decode cX2_init 39 = .ok (.newarray .int, 2) := by decide +kernel
theorem dX2_init_41 : decode cX2_init 41 = .ok (.putfield 24, 3) := by decide +kernel
theorem dX2_init_44 : decode cX2_init 44 = .ok (.aload_n 0, 1) := by decide +kernel
theorem dX2_init_45 : decode cX2_init 45 = .ok (.aload_n 1, 1) := by decide +kernel
theorem dX2_init_46 : decode cX2_init 46 = .ok (.putfield 27, 3) := by decide +kernel
theorem dX2_init_49 : decode cX2_init 49 = .ok (.aload_n 0, 1) := by decide +kernel
theorem dX2_init_50 : decode cX2_init 50 = .ok (.aload_n 2, 1) := by decide +kernel
theorem dX2_init_51 : decode cX2_init 51 = .ok (.putfield 31, 3) := by decide +kernel
theorem dX2_init_54 : decode cX2_init 54 = .ok (.aload_n 0, 1) := by decide +kernel
theorem dX2_init_55 : decode cX2_init 55 = .ok (.aload_n 3, 1) := by decide +kernel
theorem dX2_init_56 : decode cX2_init 56 = .ok (.putfield 35, 3) := by decide +kernel
theorem dX2_init_59 : decode cX2_init 59 = .ok (.aload_n 0, 1) := by decide +kernel
theorem dX2_init_60 : decode cX2_init 60 = .ok (.aload 4, 2) := by decide +kernel
theorem dX2_init_62 : decode cX2_init 62 = .ok (.putfield 39, 3) := by decide +kernel
theorem dX2_init_65 : decode cX2_init 65 = .ok (.aload_n 0, 1) := by decide +kernel
theorem dX2_init_66 : decode cX2_init 66 = .ok (.aload 5, 2) := by decide +kernel
theorem dX2_init_68 : decode cX2_init 68 = .ok (.putfield 43, 3) := by decide +kernel
theorem dX2_init_71 : decode cX2_init 71 = .ok (.return_, 1) := by decide +kernel
theorem dX3_clear_0 : decode cX3_clear 0 = .ok (.aload_n 0, 1) := by decide +kernel
theorem dX3_clear_1 : decode cX3_clear 1 = .ok (.getfield 9, 3) := by decide +kernel
theorem dX3_clear_4 : decode cX3_clear 4 = .ok (.iconst 0, 1) := by decide +kernel
theorem dX3_clear_5 : decode cX3_clear 5 = .ok (.invokestatic 33, 3) := by decide +kernel
theorem dX3_clear_8 : decode cX3_clear 8 = .ok (.return_, 1) := by decide +kernel
theorem dX3_countOf_0 : decode cX3_countOf 0 = .ok (.iload_n 1, 1) := by decide +kernel
theorem dX3_countOf_1 : decode cX3_countOf 1 = .ok (.ifCond .lt 18, 3) := by decide +kernel
theorem dX3_countOf_4 : decode cX3_countOf 4 = .ok (.iload_n 1, 1) := by decide +kernel
theorem dX3_countOf_5 : decode cX3_countOf 5 = .ok (.bipush 10, 2) := by decide +kernel
theorem dX3_countOf_7 : decode cX3_countOf 7 = .ok (.if_icmp .ge 12, 3) := by decide +kernel
theorem dX3_countOf_10 : decode cX3_countOf 10 = .ok (.aload_n 0, 1) := by decide +kernel
theorem dX3_countOf_11 : decode cX3_countOf 11 = .ok (.getfield 9, 3) := by decide +kernel
theorem dX3_countOf_14 : decode cX3_countOf 14 = .ok (.iload_n 1, 1) := by decide +kernel
theorem dX3_countOf_15 : decode cX3_countOf 15 = .ok (.iaload, 1) := by decide +kernel
theorem dX3_countOf_16 : decode cX3_countOf 16 = .ok (.goto 4, 3) := by decide +kernel
theorem dX3_countOf_20 : decode cX3_countOf 20 = .ok (.ireturn, 1) := by decide +kernel
theorem dX3_countOfAll_0 : decode cX3_countOfAll 0 = .ok (.iconst 0, 1) := by decide +kernel
theorem dX3_countOfAll_1 : decode cX3_countOfAll 1 = .ok (.istore_n 1, 1) := by decide +kernel
theorem dX3_countOfAll_2 : decode cX3_countOfAll 2 = .ok (.iconst 0, 1) := by decide +kernel
theorem dX3_countOfAll_3 : decode cX3_countOfAll 3 = .ok (.istore_n 2, 1) := by decide +kernel
theorem dX3_countOfAll_4 : decode cX3_countOfAll 4 = .ok (.iload_n 2, 1) := by decide +kernel
theorem dX3_countOfAll_5 : decode cX3_countOfAll 5 = .ok (.bipush 10, 2) := by decide +kernel
theorem dX3_countOfAll_7 : decode cX3_countOfAll 7 = .ok (.if_icmp .ge 18, 3) := by decide +kernel
theorem dX3_countOfAll_10 : decode cX3_countOfAll 10 = .ok (.iload_n 1, 1) := by decide +kernel
theorem dX3_countOfAll_11 : decode cX3_countOfAll 11 = .ok (.aload_n 0, 1) := by decide +kernel
theorem dX3_countOfAll_12 : decode cX3_countOfAll 12 = .ok (.getfield 9, 3) := by decide +kernel
theorem dX3_countOfAll_15 : decode cX3_countOfAll 15 = .ok (.iload_n 2, 1) := by decide +kernel
theorem dX3_countOfAll_16 : decode cX3_countOfAll 16 = .ok (.iaload, 1) := by decide +kernel
theorem dX3_countOfAll_17 : decode cX3_countOfAll 17 = .ok (.iadd, 1) := by decide +kernel
theorem dX3_countOfAll_18 : decode cX3_countOfAll 18 = .ok (.istore_n 1, 1) := by decide +kernel
theorem dX3_countOfAll_19 : decode cX3_countOfAll 19 = .ok (.iinc 2 1, 3) := by decide +kernel
theorem dX3_countOfAll_22 : decode cX3_countOfAll 22 = .ok (.goto (-18), 3) := by decide +kernel
theorem dX3_countOfAll_25 : decode cX3_countOfAll 25 = .ok (.iload_n 1, 1) := by decide +kernel
theorem dX3_countOfAll_26 : decode cX3_countOfAll 26 = .ok (.ireturn, 1) := by decide +kernel
theorem dX3_goBack_0 : decode cX3_goBack 0 = .ok (.aload_n 0, 1) := by decide +kernel
theorem dX3_goBack_1 : decode cX3_goBack 1 = .ok (.getfield 15, 3) := by decide +kernel
theorem dX3_goBack_4 : decode cX3_goBack 4 = .ok (.iconst 0, 1) := by decide +kernel
theorem dX3_goBack_5 : decode cX3_goBack 5 = .ok (.aload_n 0, 1) := by decide +kernel
theorem dX3_goBack_6 : decode cX3_goBack 6 = .ok (.getfield 9, 3) := by decide +kernel
theorem dX3_goBack_9 : decode cX3_goBack 9 = .ok (.iconst 0, 1) := by decide +kernel
theorem dX3_goBack_10 : decode cX3_goBack 10 = .ok (.bipush 10, 2) := by decide +kernel
theorem dX3_goBack_12 : decode cX3_goBack 12 = .ok (.invokestatic 39, 3) := by decide +kernel
theorem dX3_goBack_15 : decode cX3_goBack 15 = .ok (.return_, 1) := by decide +kernel
theorem dX3_init_0 : decode cX3_init 0 = .ok (.aload_n 0, 1) := by decide +kernel
theorem dX3_init_1 : decode cX3_init 1 = .ok (.invokespecial 3, 3) := by decide +kernel
theorem dX3_init_4 : decode cX3_init 4 = .ok (.aload_n 0, 1) := by decide +kernel
theorem dX3_init_5 : decode cX3_init 5 = .ok (.bipush 10, 2) := by decide +kernel
theorem dX3_init_7 : decode cX3_init 7 = .ok (.newarray .int, 2) := by decide +kernel
theorem dX3_init_9 : decode cX3_init 9 = .ok (.putfield 9, 3) := by decide +kernel
theorem dX3_init_12 : decode cX3_init 12 = .ok (.aload_n 0, 1) := by decide +kernel
theorem dX3_init_13 : decode cX3_init 13 = .ok (.bipush 10, 2) := by decide +kernel
theorem dX3_init_15 : decode cX3_init 15 = .ok (.newarray .int, 2) := by decide +kernel
theorem dX3_init_17 : decode cX3_init 17 = .ok (.putfield 15, 3) := by decide +kernel
theorem dX3_init_20 : decode cX3_init 20 = .ok (.aload_n 0, 1) := by decide +kernel
theorem dX3_init_21 : decode cX3_init 21 = .ok (.bipush 16, 2) := by decide +kernel
theorem dX3_init_23 : decode cX3_init 23 = .ok (.newarray .int, 2) := by decide +kernel
theorem dX3_init_25 : decode cX3_init 25 = .ok (.putfield 18, 3) := by decide +kernel
theorem dX3_init_28 : decode cX3_init 28 = .ok (.aload_n 0, 1) := by decide +kernel
theorem dX3_init_29 : decode cX3_init 29 = .ok (.aload_n 1, 1) := by decide +kernel
theorem dX3_init_30 : decode cX3_init 30 = .ok (.putfield 21, 3) := by decide +kernel
theorem dX3_init_33 : decode cX3_init 33 = .ok (.aload_n 0, 1) := by decide +kernel
theorem dX3_init_34 : decode cX3_init 34 = .ok (.aload_n 2, 1) := by decide +kernel
theorem dX3_init_35 : decode cX3_init 35 = .ok (.putfield 25, 3) := by decide +kernel
theorem dX3_init_38 : decode cX3_init 38 = .ok (.aload_n 0, 1) := by decide +kernel
theorem dX3_init_39 : decode cX3_init 39 = .ok (.aload_n 3, 1) := by decide +kernel
theorem dX3_init_40 : decode cX3_init 40 = .ok (.putfield 29, 3) := by decide +kernel
theorem dX3_init_43 : decode cX3_init 43 = .ok (.return_, 1) := by decide +kernel
theorem dX3_mark_0 : decode cX3_mark 0 = .ok (.aload_n 0, 1) := by decide +kernel
theorem dX3_mark_1 : decode cX3_mark 1 = .ok (.getfield 9, 3) := by decide +kernel
theorem dX3_mark_4 : decode cX3_mark 4 = .ok (.iconst 0, 1) := by decide +kernel
theorem dX3_mark_5 : decode cX3_mark 5 = .ok (.aload_n 0, 1) := by decide +kernel
theorem dX3_mark_6 : decode cX3_mark 6 = .ok (.getfield 15, 3) := by decide +kernel
theorem dX3_mark_9 : decode cX3_mark 9 = .ok (.iconst 0, 1) := by decide +kernel
theorem dX3_mark_10 : decode cX3_mark 10 = .ok (.bipush 10, 2) := by decide +kernel
theorem dX3_mark_12 : decode cX3_mark 12 = .ok (.invokestatic 39, 3) := by decide +kernel
theorem dX3_mark_15 : decode cX3_mark 15 = .ok (.aload_n 0, 1) := by decide +kernel
theorem dX3_mark_16 : decode cX3_mark 16 = .ok (.iconst 0, 1) := by decide +kernel
theorem dX3_mark_17 : decode cX3_mark 17 = .ok (.putfield 45, 3) := by decide +kernel
theorem dX3_mark_20 : decode cX3_mark 20 = .ok (.return_, 1) := by decide +kernel
theorem dX4_init_0 : decode cX4_init 0 = .ok (.aload_n 0, 1) := by decide +kernel
theorem dX4_init_1 : decode cX4_init 1 = .ok (.invokespecial 3, 3) := by decide +kernel
theorem dX4_init_4 : decode cX4_init 4 = .ok (.aload_n 0, 1) := by decide +kernel
theorem dX4_init_5 : decode cX4_init 5 = .ok (.aload_n 1, 1) := by decide +kernel
theorem dX4_init_6 : decode cX4_init 6 = .ok (.putfield 9, 3) := by decide +kernel
theorem dX4_init_9 : decode cX4_init 9 = .ok (.aload_n 0, 1) := by decide +kernel
theorem dX4_init_10 : decode cX4_init 10 = .ok (.aload_n 2, 1) := by decide +kernel
theorem dX4_init_11 : decode cX4_init 11 = .ok (.putfield 15, 3) := by decide +kernel
theorem dX4_init_14 : decode cX4_init 14 = .ok (.aload_n 0, 1) := by decide +kernel
theorem dX4_init_15 : decode cX4_init 15 = .ok (.aload_n 3, 1) := by decide +kernel
theorem dX4_init_16 : decode cX4_init 16 = .ok (.putfield 19, 3) := by decide +kernel
theorem dX4_init_19 : decode cX4_init 19 = .ok (.aload_n 0, 1) := by decide +kernel
theorem dX4_init_20 : decode cX4_init 20 = .ok (.aload 4, 2) := by decide +kernel
theorem dX4_init_22 : decode cX4_init 22 = .ok (.putfield 23, 3) := by decide +kernel
theorem dX4_init_25 : decode cX4_init 25 = .ok (.aload_n 0, 1) := by decide +kernel
theorem dX4_init_26 : decode cX4_init 26 = .ok (.aload 5, 2) := by decide +kernel
theorem dX4_init_28 : decode cX4_init 28 = .ok (.putfield 27, 3) := by decide +kernel
theorem dX4_init_31 : decode cX4_init 31 = .ok (.aload_n 0, 1) := by decide +kernel
theorem dX4_init_32 : decode cX4_init 32 = .ok (.aload 6, 2) := by decide +kernel
theorem dX4_init_34 : decode cX4_init 34 = .ok (.putfield 31, 3) := by decide +kernel
theorem dX4_init_37 : decode cX4_init 37 = .ok (.return_, 1) := by decide +kernel
theorem dX4_readLines_0 : decode cX4_readLines 0 = .ok (.iconst 0, 1) := by decide +kernel
theorem dX4_readLines_1 : decode cX4_readLines 1 = .ok (.istore_n 1, 1) := by decide +kernel
theorem dX4_readLines_2 : decode cX4_readLines 2 = .ok (.iload_n 1, 1) := by decide +kernel
theorem dX4_readLines_3 : decode cX4_readLines 3 = .ok (.sipush 400, 3) := by decide +kernel
theorem dX4_readLines_6 : decode cX4_readLines 6 = .ok (.if_icmp .ge 125, 3) := by decide +kernel
theorem dX4_readLines_9 : decode cX4_readLines 9 = .ok (.aload_n 0, 1) := by decide +kernel
theorem dX4_readLines_10 : decode cX4_readLines 10 = .ok (.getfield 9, 3) := by decide +kernel
theorem dX4_readLines_13 : decode cX4_readLines 13 = .ok (.invokevirtual 35, 3) := by decide +kernel
theorem dX4_readLines_16 : decode cX4_readLines 16 = .ok (.tableswitch 60 10 13 #[32, 39, 46, 53], 32) := by decide +kernel
theorem dX4_readLines_76 : decode cX4_readLines 76 = .ok (.aload_n 0, 1) := by decide +kernel
theorem dX4_readLines_77 : decode cX4_readLines 77 = .ok (.getfield 9, 3) := by decide +kernel
theorem dX4_readLines_80 : decode cX4_readLines 80 = .ok (.iconst 1, 1) := by decide +kernel
theorem dX4_readLines_81 : decode cX4_readLines 81 = .ok (.aload_n 0, 1) := by decide +kernel
theorem dX4_readLines_82 : decode cX4_readLines 82 = .ok (.getfield 9, 3) := by decide +kernel
theorem dX4_readLines_85 : decode cX4_readLines 85 = .ok (.getfield 53, 3) := by decide +kernel
theorem dX4_readLines_88 : decode cX4_readLines 88 = .ok (.invokevirtual 57, 3) := by decide +kernel
theorem dX4_readLines_91 : decode cX4_readLines 91 = .ok (.pop, 1) := by decide +kernel
theorem dX4_readLines_92 : decode cX4_readLines 92 = .ok (.aload_n 0, 1) := by decide +kernel
theorem dX4_readLines_93 : decode cX4_readLines 93 = .ok (.getfield 9, 3) := by decide +kernel
theorem dX4_readLines_96 : decode cX4_readLines 96 = .ok (.getfield 61, 3) := by decide +kernel
theorem dX4_readLines_99 : decode cX4_readLines 99 = .ok (.ifCond .ne 25, 3) := by decide +kernel
theorem dX4_readLines_124 : decode cX4_readLines 124 = .ok (.return_, 1) := by decide +kernel
theorem dX5_init_0 : decode cX5_init 0 = .ok (.aload_n 0, 1) := by decide +kernel
theorem dX5_init_1 : decode cX5_init 1 = .ok (.invokespecial 3, 3) := by decide +kernel
theorem dX5_init_4 : decode cX5_init 4 = .ok (.aload_n 0, 1) := by decide +kernel
theorem dX5_init_5 : decode cX5_init 5 = .ok (.aload_n 1, 1) := by decide +kernel
theorem dX5_init_6 : decode cX5_init 6 = .ok (.putfield 9, 3) := by decide +kernel
theorem dX5_init_9 : decode cX5_init 9 = .ok (.aload_n 0, 1) := by decide +kernel
theorem dX5_init_10 : decode cX5_init 10 = .ok (.aload_n 2, 1) := by decide +kernel
theorem dX5_init_11 : decode cX5_init 11 = .ok (.putfield 15, 3) := by decide +kernel
theorem dX5_init_14 : decode cX5_init 14 = .ok (.aload_n 0, 1) := by decide +kernel
theorem dX5_init_15 : decode cX5_init 15 = .ok (.aload_n 3, 1) := by decide +kernel
theorem dX5_init_16 : decode cX5_init 16 = .ok (.putfield 19, 3) := by decide +kernel
theorem dX5_init_19 : decode cX5_init 19 = .ok (.return_, 1) := by decide +kernel
theorem dX6_beginsPiece_0 : decode cX6_beginsPiece 0 = .ok (.aload_n 0, 1) := by decide +kernel
theorem dX6_beginsPiece_1 : decode cX6_beginsPiece 1 = .ok (.getfield 21, 3) := by decide +kernel
theorem dX6_beginsPiece_4 : decode cX6_beginsPiece 4 = .ok (.getfield 71, 3) := by decide +kernel
theorem dX6_beginsPiece_7 : decode cX6_beginsPiece 7 = .ok (.iconst 2, 1) := by decide +kernel
theorem dX6_beginsPiece_8 : decode cX6_beginsPiece 8 = .ok (.if_icmp .eq 27, 3) := by decide +kernel
theorem dX6_beginsPiece_11 : decode cX6_beginsPiece 11 = .ok (.aload_n 0, 1) := by decide +kernel
theorem dX6_beginsPiece_12 : decode cX6_beginsPiece 12 = .ok (.getfield 21, 3) := by decide +kernel
theorem dX6_beginsPiece_15 : decode cX6_beginsPiece 15 = .ok (.getfield 71, 3) := by decide +kernel
theorem dX6_beginsPiece_18 : decode cX6_beginsPiece 18 = .ok (.bipush 40, 2) := by decide +kernel
theorem dX6_beginsPiece_20 : decode cX6_beginsPiece 20 = .ok (.if_icmp .eq 15, 3) := by decide +kernel
theorem dX6_beginsPiece_23 : decode cX6_beginsPiece 23 = .ok (.aload_n 0, 1) := by decide +kernel
theorem dX6_beginsPiece_24 : decode cX6_beginsPiece 24 = .ok (.getfield 21, 3) := by decide +kernel
theorem dX6_beginsPiece_27 : decode cX6_beginsPiece 27 = .ok (.getfield 71, 3) := by decide +kernel
theorem dX6_beginsPiece_30 : decode cX6_beginsPiece 30 = .ok (.bipush 92, 2) := by decide +kernel
theorem dX6_beginsPiece_32 : decode cX6_beginsPiece 32 = .ok (.if_icmp .ne 7, 3) := by decide +kernel
theorem dX6_beginsPiece_39 : decode cX6_beginsPiece 39 = .ok (.iconst 0, 1) := by decide +kernel
theorem dX6_beginsPiece_40 : decode cX6_beginsPiece 40 = .ok (.ireturn, 1) := by decide +kernel
theorem dX6_init_0 : decode cX6_init 0 = .ok (.aload_n 0, 1) := by decide +kernel
theorem dX6_init_1 : decode cX6_init 1 = .ok (.invokespecial 3, 3) := by decide +kernel
theorem dX6_init_4 : decode cX6_init 4 = .ok (.aload_n 0, 1) := by decide +kernel
theorem dX6_init_5 : decode cX6_init 5 = .ok (.bipush 12, 2) := by decide +kernel
theorem dX6_init_7 : decode cX6_init 7 = .ok (.newarray .int, 2) := by decide +kernel
theorem dX6_init_9 : decode cX6_init 9 = .ok (.putfield 9, 3) := by decide +kernel
theorem dX6_init_12 : decode cX6_init 12 = .ok (.aload_n 0, 1) := by decide +kernel
theorem dX6_init_13 : decode cX6_init 13 = .ok (.bipush 12, 2) := by decide +kernel
theorem dX6_init_15 : decode cX6_init 15 = .ok (.newarray .int, 2) := by decide +kernel
theorem dX6_init_17 : decode cX6_init 17 = .ok (.putfield 15, 3) := by decide +kernel
theorem dX6_init_20 : decode cX6_init 20 = .ok (.aload_n 0, 1) := by decide +kernel
theorem dX6_init_21 : decode cX6_init 21 = .ok (.sipush 400, 3) := by decide +kernel
theorem dX6_init_24 : decode cX6_init 24 = .ok (.newarray .int, 2) := by decide +kernel
theorem dX6_init_26 : decode cX6_init 26 = .ok (.putfield 18, 3) := by decide +kernel
theorem dX6_init_29 : decode cX6_init 29 = .ok (.aload_n 0, 1) := by decide +kernel
theorem dX6_init_30 : decode cX6_init 30 = .ok (.aload_n 1, 1) := by decide +kernel
theorem dX6_init_31 : decode cX6_init 31 = .ok (.putfield 21, 3) := by decide +kernel
theorem dX6_init_34 : decode cX6_init 34 = .ok (.aload_n 0, 1) := by decide +kernel
theorem dX6_init_35 : decode cX6_init 35 = .ok (.aload_n 2, 1) := by decide +kernel
theorem dX6_init_36 : decode cX6_init 36 = .ok (.putfield 25, 3) := by decide +kernel
theorem dX6_init_39 : decode cX6_init 39 = .ok (.aload_n 0, 1) := by decide +kernel
theorem dX6_init_40 : decode cX6_init 40 = .ok (.aload_n 3, 1) := by decide +kernel
theorem dX6_init_41 : decode cX6_init 41 = .ok (.putfield 29, 3) := by decide +kernel
theorem dX6_init_44 : decode cX6_init 44 = .ok (.aload_n 0, 1) := by decide +kernel
theorem dX6_init_45 : decode cX6_init 45 = .ok (.aload 4, 2) := by decide +kernel
theorem dX6_init_47 : decode cX6_init 47 = .ok (.putfield 33, 3) := by decide +kernel
theorem dX6_init_50 : decode cX6_init 50 = .ok (.return_, 1) := by decide +kernel
theorem dX6_readPiece_0 : decode cX6_readPiece 0 = .ok (.aload_n 0, 1) := by decide +kernel
theorem dX6_readPiece_1 : decode cX6_readPiece 1 = .ok (.getfield 21, 3) := by decide +kernel
theorem dX6_readPiece_4 : decode cX6_readPiece 4 = .ok (.getfield 71, 3) := by decide +kernel
theorem dX6_readPiece_7 : decode cX6_readPiece 7 = .ok (.iconst 2, 1) := by decide +kernel
theorem dX6_readPiece_8 : decode cX6_readPiece 8 = .ok (.if_icmp .ne 8, 3) := by decide +kernel
theorem dX6_readPiece_16 : decode cX6_readPiece 16 = .ok (.aload_n 0, 1) := by decide +kernel
theorem dX6_readPiece_17 : decode cX6_readPiece 17 = .ok (.invokevirtual 85, 3) := by decide +kernel
theorem dX6_readPiece_20 : decode cX6_readPiece 20 = .ok (.ifCond .ne 19, 3) := by decide +kernel
theorem dX6_readPiece_23 : decode cX6_readPiece 23 = .ok (.aload_n 0, 1) := by decide +kernel
theorem dX6_readPiece_24 : decode cX6_readPiece 24 = .ok (.getfield 21, 3) := by decide +kernel
theorem dX6_readPiece_27 : decode cX6_readPiece 27 = .ok (.iconst 1, 1) := by decide +kernel
theorem dX6_readPiece_28 : decode cX6_readPiece 28 = .ok (.aload_n 0, 1) := by decide +kernel
theorem dX6_readPiece_29 : decode cX6_readPiece 29 = .ok (.getfield 21, 3) := by decide +kernel
theorem dX6_readPiece_32 : decode cX6_readPiece 32 = .ok (.getfield 37, 3) := by decide +kernel
theorem dX6_readPiece_35 : decode cX6_readPiece 35 = .ok (.invokevirtual 61, 3) := by decide +kernel
theorem dX6_readPiece_38 : decode cX6_readPiece 38 = .ok (.ireturn, 1) := by decide +kernel
theorem dX6_readSide_0 : decode cX6_readSide 0 = .ok (.aload_n 0, 1) := by decide +kernel
theorem dX6_readSide_1 : decode cX6_readSide 1 = .ok (.iload_n 1, 1) := by decide +kernel
theorem dX6_readSide_2 : decode cX6_readSide 2 = .ok (.invokevirtual 82, 3) := by decide +kernel
theorem dX6_readSide_5 : decode cX6_readSide 5 = .ok (.istore_n 2, 1) := by decide +kernel
theorem dX6_readSide_6 : decode cX6_readSide 6 = .ok (.iconst 0, 1) := by decide +kernel
theorem dX6_readSide_7 : decode cX6_readSide 7 = .ok (.istore_n 3, 1) := by decide +kernel
theorem dX6_readSide_8 : decode cX6_readSide 8 = .ok (.iload_n 3, 1) := by decide +kernel
theorem dX6_readSide_9 : decode cX6_readSide 9 = .ok (.sipush 400, 3) := by decide +kernel
theorem dX6_readSide_12 : decode cX6_readSide 12 = .ok (.if_icmp .ge 78, 3) := by decide +kernel
theorem dX6_readSide_15 : decode cX6_readSide 15 = .ok (.iload_n 2, 1) := by decide +kernel
theorem dX6_readSide_16 : decode cX6_readSide 16 = .ok (.ifCond .lt 74, 3) := by decide +kernel
theorem dX6_readSide_90 : decode cX6_readSide 90 = .ok (.iload_n 2, 1) := by decide +kernel
theorem dX6_readSide_91 : decode cX6_readSide 91 = .ok (.ireturn, 1) := by decide +kernel
theorem dX6_readTermAt_0 : decode cX6_readTermAt 0 = .ok (.aload_n 0, 1) := by decide +kernel
theorem dX6_readTermAt_1 : decode cX6_readTermAt 1 = .ok (.iload_n 1, 1) := by decide +kernel
theorem dX6_readTermAt_2 : decode cX6_readTermAt 2 = .ok (.invokevirtual 68, 3) := by decide +kernel
theorem dX6_readTermAt_5 : decode cX6_readTermAt 5 = .ok (.istore_n 2, 1) := by decide +kernel
theorem dX6_readTermAt_6 : decode cX6_readTermAt 6 = .ok (.iload_n 2, 1) := by decide +kernel
theorem dX6_readTermAt_7 : decode cX6_readTermAt 7 = .ok (.ifCond .lt 15, 3) := by decide +kernel
theorem dX6_readTermAt_22 : decode cX6_readTermAt 22 = .ok (.iload_n 2, 1) := by decide +kernel
theorem dX6_readTermAt_23 : decode cX6_readTermAt 23 = .ok (.ireturn, 1) := by decide +kernel
theorem dX6_readWhole_0 : decode cX6_readWhole 0 = .ok (.aload_n 0, 1) := by decide +kernel
theorem dX6_readWhole_1 : decode cX6_readWhole 1 = .ok (.getfield 21, 3) := by decide +kernel
theorem dX6_readWhole_4 : decode cX6_readWhole 4 = .ok (.getfield 37, 3) := by decide +kernel
theorem dX6_readWhole_7 : decode cX6_readWhole 7 = .ok (.istore_n 2, 1) := by decide +kernel
theorem dX6_readWhole_8 : decode cX6_readWhole 8 = .ok (.aload_n 0, 1) := by decide +kernel
theorem dX6_readWhole_9 : decode cX6_readWhole 9 = .ok (.iconst 0, 1) := by decide +kernel
theorem dX6_readWhole_10 : decode cX6_readWhole 10 = .ok (.putfield 43, 3) := by decide +kernel
theorem dX6_readWhole_13 : decode cX6_readWhole 13 = .ok (.aload_n 0, 1) := by decide +kernel
theorem dX6_readWhole_14 : decode cX6_readWhole 14 = .ok (.iconst 0, 1) := by decide +kernel
theorem dX6_readWhole_15 : decode cX6_readWhole 15 = .ok (.putfield 46, 3) := by decide +kernel
theorem dX6_readWhole_18 : decode cX6_readWhole 18 = .ok (.aload_n 0, 1) := by decide +kernel
theorem dX6_readWhole_19 : decode cX6_readWhole 19 = .ok (.iconst 0, 1) := by decide +kernel
theorem dX6_readWhole_20 : decode cX6_readWhole 20 = .ok (.invokevirtual 49, 3) := by decide +kernel
theorem dX6_readWhole_23 : decode cX6_readWhole 23 = .ok (.istore_n 3, 1) := by decide +kernel
theorem dX6_readWhole_24 : decode cX6_readWhole 24 = .ok (.iload_n 3, 1) := by decide +kernel
theorem dX6_readWhole_25 : decode cX6_readWhole 25 = .ok (.ifCond .ge 5, 3) := by decide +kernel
theorem dX6_readWhole_28 : decode cX6_readWhole 28 = .ok (.iconst (-1), 1) := by decide +kernel
theorem dX6_readWhole_29 : decode cX6_readWhole 29 = .ok (.ireturn, 1) := by decide +kernel
theorem dX7_init_0 : decode cX7_init 0 = .ok (.aload_n 0, 1) := by decide +kernel
theorem dX7_init_1 : decode cX7_init 1 = .ok (.invokespecial 3, 3) := by decide +kernel
theorem dX7_init_4 : decode cX7_init 4 = .ok (.aload_n 0, 1) := by decide +kernel
theorem dX7_init_5 : decode cX7_init 5 = .ok (.aload_n 1, 1) := by decide +kernel
theorem dX7_init_6 : decode cX7_init 6 = .ok (.putfield 9, 3) := by decide +kernel
theorem dX7_init_9 : decode cX7_init 9 = .ok (.return_, 1) := by decide +kernel
theorem dX8_add_0 : decode cX8_add 0 = .ok (.aload_n 0, 1) := by decide +kernel
theorem dX8_add_1 : decode cX8_add 1 = .ok (.getfield 52, 3) := by decide +kernel
theorem dX8_add_4 : decode cX8_add 4 = .ok (.aload_n 0, 1) := by decide +kernel
theorem dX8_add_5 : decode cX8_add 5 = .ok (.getfield 15, 3) := by decide +kernel
theorem dX8_add_8 : decode cX8_add 8 = .ok (.arraylength, 1) := by decide +kernel
theorem dX8_add_9 : decode cX8_add 9 = .ok (.if_icmp .ge 43, 3) := by decide +kernel
theorem dX8_add_12 : decode cX8_add 12 = .ok (.aload_n 0, 1) := by decide +kernel
theorem dX8_add_13 : decode cX8_add 13 = .ok (.getfield 15, 3) := by decide +kernel
theorem dX8_add_16 : decode cX8_add 16 = .ok (.aload_n 0, 1) := by decide +kernel
theorem dX8_add_17 : decode cX8_add 17 = .ok (.getfield 52, 3) := by decide +kernel
theorem dX8_add_20 : decode cX8_add 20 = .ok (.iload_n 1, 1) := by decide +kernel
theorem dX8_add_21 : decode cX8_add 21 = .ok (.iastore, 1) := by decide +kernel
theorem dX8_add_22 : decode cX8_add 22 = .ok (.aload_n 0, 1) := by decide +kernel
theorem dX8_add_23 : decode cX8_add 23 = .ok (.getfield 18, 3) := by decide +kernel
theorem dX8_add_26 : decode cX8_add 26 = .ok (.aload_n 0, 1) := by decide +kernel
theorem dX8_add_27 : decode cX8_add 27 = .ok (.getfield 52, 3) := by decide +kernel
theorem dX8_add_30 : decode cX8_add 30 = .ok (.iload_n 2, 1) := by decide +kernel
theorem dX8_add_31 : decode cX8_add 31 = .ok (.iastore, 1) := by decide +kernel
theorem dX8_add_32 : decode cX8_add 32 = .ok (.aload_n 0, 1) := by decide +kernel
theorem dX8_add_33 : decode cX8_add 33 = .ok (.getfield 21, 3) := by decide +kernel
theorem dX8_add_36 : decode cX8_add 36 = .ok (.aload_n 0, 1) := by decide +kernel
theorem dX8_add_37 : decode cX8_add 37 = .ok (.getfield 52, 3) := by decide +kernel
theorem dX8_add_40 : decode cX8_add 40 = .ok (.iload_n 3, 1) := by decide +kernel
theorem dX8_add_41 : decode cX8_add 41 = .ok (.iastore, 1) := by decide +kernel
theorem dX8_add_42 : decode cX8_add 42 = .ok (.aload_n 0, 1) := by decide +kernel
theorem dX8_add_43 : decode cX8_add 43 = .ok (.dup, 1) := by decide +kernel
theorem dX8_add_44 : decode cX8_add 44 = .ok (.getfield 52, 3) := by decide +kernel
theorem dX8_add_47 : decode cX8_add 47 = .ok (.iconst 1, 1) := by decide +kernel
theorem dX8_add_48 : decode cX8_add 48 = .ok (.iadd, 1) := by decide +kernel
theorem dX8_add_49 : decode cX8_add 49 = .ok (.putfield 52, 3) := by decide +kernel
theorem dX8_add_52 : decode cX8_add 52 = .ok (.return_, 1) := by decide +kernel
theorem dX8_advance_0 : decode cX8_advance 0 = .ok (.aload_n 0, 1) := by decide +kernel
theorem dX8_advance_1 : decode cX8_advance 1 = .ok (.getfield 82, 3) := by decide +kernel
theorem dX8_advance_4 : decode cX8_advance 4 = .ok (.iconst 1, 1) := by decide +kernel
theorem dX8_advance_5 : decode cX8_advance 5 = .ok (.iadd, 1) := by decide +kernel
theorem dX8_advance_6 : decode cX8_advance 6 = .ok (.aload_n 0, 1) := by decide +kernel
theorem dX8_advance_7 : decode cX8_advance 7 = .ok (.getfield 52, 3) := by decide +kernel
theorem dX8_advance_10 : decode cX8_advance 10 = .ok (.if_icmp .ge 52, 3) := by decide +kernel
theorem dX8_advance_13 : decode cX8_advance 13 = .ok (.aload_n 0, 1) := by decide +kernel
theorem dX8_advance_14 : decode cX8_advance 14 = .ok (.dup, 1) := by decide +kernel
theorem dX8_advance_15 : decode cX8_advance 15 = .ok (.getfield 82, 3) := by decide +kernel
theorem dX8_advance_18 : decode cX8_advance 18 = .ok (.iconst 1, 1) := by decide +kernel
theorem dX8_advance_19 : decode cX8_advance 19 = .ok (.iadd, 1) := by decide +kernel
theorem dX8_advance_20 : decode cX8_advance 20 = .ok (.putfield 82, 3) := by decide +kernel
theorem dX8_advance_23 : decode cX8_advance 23 = .ok (.aload_n 0, 1) := by decide +kernel
theorem dX8_advance_24 : decode cX8_advance 24 = .ok (.aload_n 0, 1) := by decide +kernel
theorem dX8_advance_25 : decode cX8_advance 25 = .ok (.getfield 15, 3) := by decide +kernel
theorem dX8_advance_28 : decode cX8_advance 28 = .ok (.aload_n 0, 1) := by decide +kernel
theorem dX8_advance_29 : decode cX8_advance 29 = .ok (.getfield 82, 3) := by decide +kernel
theorem dX8_advance_32 : decode cX8_advance 32 = .ok (.iaload, 1) := by decide +kernel
theorem dX8_advance_33 : decode cX8_advance 33 = .ok (.putfield 88, 3) := by decide +kernel
theorem dX8_advance_36 : decode cX8_advance 36 = .ok (.aload_n 0, 1) := by decide +kernel
theorem dX8_advance_37 : decode cX8_advance 37 = .ok (.aload_n 0, 1) := by decide +kernel
theorem dX8_advance_38 : decode cX8_advance 38 = .ok (.getfield 18, 3) := by decide +kernel
theorem dX8_advance_41 : decode cX8_advance 41 = .ok (.aload_n 0, 1) := by decide +kernel
theorem dX8_advance_42 : decode cX8_advance 42 = .ok (.getfield 82, 3) := by decide +kernel
theorem dX8_advance_45 : decode cX8_advance 45 = .ok (.iaload, 1) := by decide +kernel
theorem dX8_advance_46 : decode cX8_advance 46 = .ok (.putfield 91, 3) := by decide +kernel
theorem dX8_advance_49 : decode cX8_advance 49 = .ok (.aload_n 0, 1) := by decide +kernel
theorem dX8_advance_50 : decode cX8_advance 50 = .ok (.aload_n 0, 1) := by decide +kernel
theorem dX8_advance_51 : decode cX8_advance 51 = .ok (.getfield 21, 3) := by decide +kernel
theorem dX8_advance_54 : decode cX8_advance 54 = .ok (.aload_n 0, 1) := by decide +kernel
theorem dX8_advance_55 : decode cX8_advance 55 = .ok (.getfield 82, 3) := by decide +kernel
theorem dX8_advance_58 : decode cX8_advance 58 = .ok (.iaload, 1) := by decide +kernel
theorem dX8_advance_59 : decode cX8_advance 59 = .ok (.putfield 94, 3) := by decide +kernel
theorem dX8_advance_62 : decode cX8_advance 62 = .ok (.return_, 1) := by decide +kernel
theorem dX8_init_0 : decode cX8_init 0 = .ok (.aload_n 0, 1) := by decide +kernel
theorem dX8_init_1 : decode cX8_init 1 = .ok (.invokespecial 3, 3) := by decide +kernel
theorem dX8_init_4 : decode cX8_init 4 = .ok (.aload_n 0, 1) := by decide +kernel
theorem dX8_init_5 : decode cX8_init 5 = .ok (.bipush 25, 2) := by decide +kernel
theorem dX8_init_7 : decode cX8_init 7 = .ok (.newarray .int, 2) := by decide +kernel
theorem dX8_init_9 : decode cX8_init 9 = .ok (.putfield 11, 3) := by decide +kernel
theorem dX8_init_12 : decode cX8_init 12 = .ok (.aload_n 0, 1) := by decide +kernel
theorem dX8_init_13 : decode cX8_init 13 = .ok (.sipush 401, 3) := by decide +kernel
theorem dX8_init_16 : decode cX8_init 16 = .ok (.newarray .int, 2) := by decide +kernel
theorem dX8_init_18 : decode cX8_init 18 = .ok (.putfield 15, 3) := by decide +kernel
theorem dX8_init_21 : decode cX8_init 21 = .ok (.aload_n 0, 1) := by decide +kernel
theorem dX8_init_22 : decode cX8_init 22 = .ok (.sipush 401, 3) := by decide +kernel
theorem dX8_init_25 : decode cX8_init 25 = .ok (.newarray .int, 2) := by decide +kernel
theorem dX8_init_27 : decode cX8_init 27 = .ok (.putfield 18, 3) := by decide +kernel
theorem dX8_init_30 : decode cX8_init 30 = .ok (.aload_n 0, 1) := by decide +kernel
theorem dX8_init_31 : decode cX8_init 31 = .ok (.sipush 401, 3) := by decide +kernel
theorem dX8_init_34 : decode cX8_init 34 = .ok (.newarray .int, 2) := by decide +kernel
theorem dX8_init_36 : decode cX8_init 36 = .ok (.putfield 21, 3) := by decide +kernel
theorem dX8_init_39 : decode cX8_init 39 = .ok (.aload_n 0, 1) := by decide +kernel
theorem dX8_init_40 : decode cX8_init 40 = .ok (.aload_n 1, 1) := by decide +kernel
theorem dX8_init_41 : decode cX8_init 41 = .ok (.putfield 24, 3) := by decide +kernel
theorem dX8_init_44 : decode cX8_init 44 = .ok (.iconst 0, 1) := by decide +kernel
theorem dX8_init_45 : decode cX8_init 45 = .ok (.istore_n 2, 1) := by decide +kernel
theorem dX8_init_46 : decode cX8_init 46 = .ok (.iconst 0, 1) := by decide +kernel
theorem dX8_init_47 : decode cX8_init 47 = .ok (.istore_n 3, 1) := by decide +kernel
theorem dX8_init_48 : decode cX8_init 48 = .ok (.iconst 0, 1) := by decide +kernel
theorem dX8_init_49 : decode cX8_init 49 = .ok (.istore 4, 2) := by decide +kernel
theorem dX8_init_51 : decode cX8_init 51 = .ok (.iconst 0, 1) := by decide +kernel
theorem dX8_init_52 : decode cX8_init 52 = .ok (.istore 5, 2) := by decide +kernel
theorem dX8_init_54 : decode cX8_init 54 = .ok (.iload 5, 2) := by decide +kernel
theorem dX8_init_56 : decode cX8_init 56 = .ok (.ldc 27, 2) := by decide +kernel
theorem dX8_init_58 : decode cX8_init 58 = .ok (.invokevirtual 29, 3) := by decide +kernel
theorem dX8_init_61 : decode cX8_init 61 = .ok (.if_icmp .ge 72, 3) := by decide +kernel
theorem dX8_init_64 : decode cX8_init 64 = .ok (.ldc 27, 2) := by decide +kernel
theorem dX8_init_66 : decode cX8_init 66 = .ok (.iload 5, 2) := by decide +kernel
theorem dX8_init_68 : decode cX8_init 68 = .ok (.invokevirtual 35, 3) := by decide +kernel
theorem dX8_init_71 : decode cX8_init 71 = .ok (.istore 6, 2) := by decide +kernel
theorem dX8_init_73 : decode cX8_init 73 = .ok (.iload 6, 2) := by decide +kernel
theorem dX8_init_75 : decode cX8_init 75 = .ok (.invokestatic 39, 3) := by decide +kernel
theorem dX8_init_78 : decode cX8_init 78 = .ok (.ifCond .eq 20, 3) := by decide +kernel
theorem dX8_init_81 : decode cX8_init 81 = .ok (.iload_n 3, 1) := by decide +kernel
theorem dX8_init_82 : decode cX8_init 82 = .ok (.bipush 27, 2) := by decide +kernel
theorem dX8_init_84 : decode cX8_init 84 = .ok (.imul, 1) := by decide +kernel
theorem dX8_init_85 : decode cX8_init 85 = .ok (.iload 6, 2) := by decide +kernel
theorem dX8_init_87 : decode cX8_init 87 = .ok (.iadd, 1) := by decide +kernel
theorem dX8_init_88 : decode cX8_init 88 = .ok (.bipush 96, 2) := by decide +kernel
theorem dX8_init_90 : decode cX8_init 90 = .ok (.isub, 1) := by decide +kernel
theorem dX8_init_91 : decode cX8_init 91 = .ok (.istore_n 3, 1) := by decide +kernel
theorem dX8_init_92 : decode cX8_init 92 = .ok (.iinc 4 1, 3) := by decide +kernel
theorem dX8_init_95 : decode cX8_init 95 = .ok (.goto 32, 3) := by decide +kernel
theorem dX8_init_98 : decode cX8_init 98 = .ok (.iload_n 2, 1) := by decide +kernel
theorem dX8_init_99 : decode cX8_init 99 = .ok (.aload_n 0, 1) := by decide +kernel
theorem dX8_init_100 : decode cX8_init 100 = .ok (.getfield 11, 3) := by decide +kernel
theorem dX8_init_103 : decode cX8_init 103 = .ok (.arraylength, 1) := by decide +kernel
theorem dX8_init_104 : decode cX8_init 104 = .ok (.if_icmp .ge 23, 3) := by decide +kernel
theorem dX8_init_107 : decode cX8_init 107 = .ok (.aload_n 0, 1) := by decide +kernel
theorem dX8_init_108 : decode cX8_init 108 = .ok (.getfield 11, 3) := by decide +kernel
theorem dX8_init_111 : decode cX8_init 111 = .ok (.iload_n 2, 1) := by decide +kernel
theorem dX8_init_112 : decode cX8_init 112 = .ok (.iload_n 3, 1) := by decide +kernel
theorem dX8_init_113 : decode cX8_init 113 = .ok (.iload 4, 2) := by decide +kernel
theorem dX8_init_115 : decode cX8_init 115 = .ok (.invokestatic 43, 3) := by decide +kernel
theorem dX8_init_118 : decode cX8_init 118 = .ok (.iastore, 1) := by decide +kernel
theorem dX8_init_119 : decode cX8_init 119 = .ok (.iinc 2 1, 3) := by decide +kernel
theorem dX8_init_122 : decode cX8_init 122 = .ok (.iconst 0, 1) := by decide +kernel
theorem dX8_init_123 : decode cX8_init 123 = .ok (.istore_n 3, 1) := by decide +kernel
theorem dX8_init_124 : decode cX8_init 124 = .ok (.iconst 0, 1) := by decide +kernel
theorem dX8_init_125 : decode cX8_init 125 = .ok (.istore 4, 2) := by decide +kernel
theorem dX8_init_127 : decode cX8_init 127 = .ok (.iinc 5 1, 3) := by decide +kernel
theorem dX8_init_130 : decode cX8_init 130 = .ok (.goto (-76), 3) := by decide +kernel
theorem dX8_init_133 : decode cX8_init 133 = .ok (.return_, 1) := by decide +kernel
theorem dX8_isLetter_0 : decode cX8_isLetter 0 = .ok (.iload_n 0, 1) := by decide +kernel
theorem dX8_isLetter_1 : decode cX8_isLetter 1 = .ok (.bipush 97, 2) := by decide +kernel
theorem dX8_isLetter_3 : decode cX8_isLetter 3 = .ok (.if_icmp .lt 13, 3) := by decide +kernel
theorem dX8_isLetter_6 : decode cX8_isLetter 6 = .ok (.iload_n 0, 1) := by decide +kernel
theorem dX8_isLetter_7 : decode cX8_isLetter 7 = .ok (.bipush 122, 2) := by decide +kernel
theorem dX8_isLetter_9 : decode cX8_isLetter 9 = .ok (.if_icmp .gt 7, 3) := by decide +kernel
theorem dX8_isLetter_12 : decode cX8_isLetter 12 = .ok (.iconst 1, 1) := by decide +kernel
theorem dX8_isLetter_13 : decode cX8_isLetter 13 = .ok (.goto 4, 3) := by decide +kernel
theorem dX8_isLetter_16 : decode cX8_isLetter 16 = .ok (.iconst 0, 1) := by decide +kernel
theorem dX8_isLetter_17 : decode cX8_isLetter 17 = .ok (.ireturn, 1) := by decide +kernel
theorem dX8_nameHere_0 : decode cX8_nameHere 0 = .ok (.aload_n 0, 1) := by decide +kernel
theorem dX8_nameHere_1 : decode cX8_nameHere 1 = .ok (.getfield 88, 3) := by decide +kernel
theorem dX8_nameHere_4 : decode cX8_nameHere 4 = .ok (.iconst 2, 1) := by decide +kernel
theorem dX8_nameHere_5 : decode cX8_nameHere 5 = .ok (.if_icmp .ne 10, 3) := by decide +kernel
theorem dX8_nameHere_15 : decode cX8_nameHere 15 = .ok (.iconst (-1), 1) := by decide +kernel
theorem dX8_nameHere_16 : decode cX8_nameHere 16 = .ok (.ireturn, 1) := by decide +kernel
theorem dX8_onlyName_0 : decode cX8_onlyName 0 = .ok (.aload_n 0, 1) := by decide +kernel
theorem dX8_onlyName_1 : decode cX8_onlyName 1 = .ok (.iload_n 1, 1) := by decide +kernel
theorem dX8_onlyName_2 : decode cX8_onlyName 2 = .ok (.invokevirtual 100, 3) := by decide +kernel
theorem dX8_onlyName_5 : decode cX8_onlyName 5 = .ok (.aload_n 0, 1) := by decide +kernel
theorem dX8_onlyName_6 : decode cX8_onlyName 6 = .ok (.invokevirtual 104, 3) := by decide +kernel
theorem dX8_onlyName_9 : decode cX8_onlyName 9 = .ok (.istore_n 2, 1) := by decide +kernel
theorem dX8_onlyName_10 : decode cX8_onlyName 10 = .ok (.aload_n 0, 1) := by decide +kernel
theorem dX8_onlyName_11 : decode cX8_onlyName 11 = .ok (.invokevirtual 85, 3) := by decide +kernel
theorem dX8_onlyName_14 : decode cX8_onlyName 14 = .ok (.aload_n 0, 1) := by decide +kernel
theorem dX8_onlyName_15 : decode cX8_onlyName 15 = .ok (.getfield 88, 3) := by decide +kernel
theorem dX8_onlyName_18 : decode cX8_onlyName 18 = .ok (.ifCond .ne 7, 3) := by decide +kernel
theorem dX8_onlyName_21 : decode cX8_onlyName 21 = .ok (.iload_n 2, 1) := by decide +kernel
theorem dX8_onlyName_22 : decode cX8_onlyName 22 = .ok (.goto 4, 3) := by decide +kernel
theorem dX8_onlyName_26 : decode cX8_onlyName 26 = .ok (.ireturn, 1) := by decide +kernel
theorem dX8_padded_0 : decode cX8_padded 0 = .ok (.iload_n 0, 1) := by decide +kernel
theorem dX8_padded_1 : decode cX8_padded 1 = .ok (.istore_n 2, 1) := by decide +kernel
theorem dX8_padded_2 : decode cX8_padded 2 = .ok (.iload_n 1, 1) := by decide +kernel
theorem dX8_padded_3 : decode cX8_padded 3 = .ok (.istore_n 3, 1) := by decide +kernel
theorem dX8_padded_4 : decode cX8_padded 4 = .ok (.iload_n 3, 1) := by decide +kernel
theorem dX8_padded_5 : decode cX8_padded 5 = .ok (.bipush 6, 2) := by decide +kernel
theorem dX8_padded_7 : decode cX8_padded 7 = .ok (.if_icmp .ge 14, 3) := by decide +kernel
theorem dX8_padded_10 : decode cX8_padded 10 = .ok (.iload_n 2, 1) := by decide +kernel
theorem dX8_padded_11 : decode cX8_padded 11 = .ok (.bipush 27, 2) := by decide +kernel
theorem dX8_padded_13 : decode cX8_padded 13 = .ok (.imul, 1) := by decide +kernel
theorem dX8_padded_14 : decode cX8_padded 14 = .ok (.istore_n 2, 1) := by decide +kernel
theorem dX8_padded_15 : decode cX8_padded 15 = .ok (.iinc 3 1, 3) := by decide +kernel
theorem dX8_padded_18 : decode cX8_padded 18 = .ok (.goto (-14), 3) := by decide +kernel
theorem dX8_padded_21 : decode cX8_padded 21 = .ok (.iload_n 2, 1) := by decide +kernel
theorem dX8_padded_22 : decode cX8_padded 22 = .ok (.ireturn, 1) := by decide +kernel
theorem dX8_refuse_0 : decode cX8_refuse 0 = .ok (.aload_n 0, 1) := by decide +kernel
theorem dX8_refuse_1 : decode cX8_refuse 1 = .ok (.getfield 76, 3) := by decide +kernel
theorem dX8_refuse_4 : decode cX8_refuse 4 = .ok (.ifCond .ne 13, 3) := by decide +kernel
theorem dX8_refuse_7 : decode cX8_refuse 7 = .ok (.aload_n 0, 1) := by decide +kernel
theorem dX8_refuse_8 : decode cX8_refuse 8 = .ok (.iload_n 1, 1) := by decide +kernel
theorem dX8_refuse_9 : decode cX8_refuse 9 = .ok (.putfield 76, 3) := by decide +kernel
theorem dX8_refuse_12 : decode cX8_refuse 12 = .ok (.aload_n 0, 1) := by decide +kernel
theorem dX8_refuse_13 : decode cX8_refuse 13 = .ok (.iload_n 2, 1) := by decide +kernel
theorem dX8_refuse_14 : decode cX8_refuse 14 = .ok (.putfield 79, 3) := by decide +kernel
theorem dX8_refuse_17 : decode cX8_refuse 17 = .ok (.aload_n 0, 1) := by decide +kernel
theorem dX8_refuse_18 : decode cX8_refuse 18 = .ok (.iconst 1, 1) := by decide +kernel
theorem dX8_refuse_19 : decode cX8_refuse 19 = .ok (.putfield 88, 3) := by decide +kernel
theorem dX8_refuse_22 : decode cX8_refuse 22 = .ok (.iconst (-1), 1) := by decide +kernel
theorem dX8_refuse_23 : decode cX8_refuse 23 = .ok (.ireturn, 1) := by decide +kernel
theorem dX8_start_0 : decode cX8_start 0 = .ok (.iload_n 1, 1) := by decide +kernel
theorem dX8_start_1 : decode cX8_start 1 = .ok (.aload_n 0, 1) := by decide +kernel
theorem dX8_start_2 : decode cX8_start 2 = .ok (.getfield 24, 3) := by decide +kernel
theorem dX8_start_5 : decode cX8_start 5 = .ok (.arraylength, 1) := by decide +kernel
theorem dX8_start_6 : decode cX8_start 6 = .ok (.invokestatic 47, 3) := by decide +kernel
theorem dX8_start_9 : decode cX8_start 9 = .ok (.istore_n 2, 1) := by decide +kernel
theorem dX8_start_10 : decode cX8_start 10 = .ok (.aload_n 0, 1) := by decide +kernel
theorem dX8_start_11 : decode cX8_start 11 = .ok (.iconst 0, 1) := by decide +kernel
theorem dX8_start_12 : decode cX8_start 12 = .ok (.putfield 52, 3) := by decide +kernel
theorem dX8_start_15 : decode cX8_start 15 = .ok (.iconst 1, 1) := by decide +kernel
theorem dX8_start_16 : decode cX8_start 16 = .ok (.istore_n 3, 1) := by decide +kernel
theorem dX8_start_17 : decode cX8_start 17 = .ok (.iconst 0, 1) := by decide +kernel
theorem dX8_start_18 : decode cX8_start 18 = .ok (.istore 4, 2) := by decide +kernel
theorem dX8_start_20 : decode cX8_start 20 = .ok (.iload 4, 2) := by decide +kernel
theorem dX8_start_22 : decode cX8_start 22 = .ok (.iload_n 2, 1) := by decide +kernel
theorem dX8_start_23 : decode cX8_start 23 = .ok (.if_icmp .ge 126, 3) := by decide +kernel
theorem dX8_start_149 : decode cX8_start 149 = .ok (.aload_n 0, 1) := by decide +kernel
theorem dX8_start_150 : decode cX8_start 150 = .ok (.iconst 0, 1) := by decide +kernel
theorem dX8_start_151 : decode cX8_start 151 = .ok (.iload_n 2, 1) := by decide +kernel
theorem dX8_start_152 : decode cX8_start 152 = .ok (.iconst (-1), 1) := by decide +kernel
theorem dX8_start_153 : decode cX8_start 153 = .ok (.invokevirtual 72, 3) := by decide +kernel
theorem dX8_start_156 : decode cX8_start 156 = .ok (.aload_n 0, 1) := by decide +kernel
theorem dX8_start_157 : decode cX8_start 157 = .ok (.iconst 0, 1) := by decide +kernel
theorem dX8_start_158 : decode cX8_start 158 = .ok (.putfield 76, 3) := by decide +kernel
theorem dX8_start_161 : decode cX8_start 161 = .ok (.aload_n 0, 1) := by decide +kernel
theorem dX8_start_162 : decode cX8_start 162 = .ok (.iconst (-1), 1) := by decide +kernel
theorem dX8_start_163 : decode cX8_start 163 = .ok (.putfield 79, 3) := by decide +kernel
theorem dX8_start_166 : decode cX8_start 166 = .ok (.aload_n 0, 1) := by decide +kernel
theorem dX8_start_167 : decode cX8_start 167 = .ok (.iconst (-1), 1) := by decide +kernel
theorem dX8_start_168 : decode cX8_start 168 = .ok (.putfield 82, 3) := by decide +kernel
theorem dX8_start_171 : decode cX8_start 171 = .ok (.aload_n 0, 1) := by decide +kernel
theorem dX8_start_172 : decode cX8_start 172 = .ok (.invokevirtual 85, 3) := by decide +kernel
theorem dX8_start_175 : decode cX8_start 175 = .ok (.return_, 1) := by decide +kernel
theorem dX8_takeEnd_0 : decode cX8_takeEnd 0 = .ok (.aload_n 0, 1) := by decide +kernel
theorem dX8_takeEnd_1 : decode cX8_takeEnd 1 = .ok (.getfield 88, 3) := by decide +kernel
theorem dX8_takeEnd_4 : decode cX8_takeEnd 4 = .ok (.ifCond .eq 13, 3) := by decide +kernel
theorem dX8_takeEnd_7 : decode cX8_takeEnd 7 = .ok (.aload_n 0, 1) := by decide +kernel
theorem dX8_takeEnd_8 : decode cX8_takeEnd 8 = .ok (.iconst 1, 1) := by decide +kernel
theorem dX8_takeEnd_9 : decode cX8_takeEnd 9 = .ok (.aload_n 0, 1) := by decide +kernel
theorem dX8_takeEnd_10 : decode cX8_takeEnd 10 = .ok (.getfield 91, 3) := by decide +kernel
theorem dX8_takeEnd_13 : decode cX8_takeEnd 13 = .ok (.invokevirtual 97, 3) := by decide +kernel
theorem dX8_takeEnd_16 : decode cX8_takeEnd 16 = .ok (.pop, 1) := by decide +kernel
theorem dX8_takeEnd_17 : decode cX8_takeEnd 17 = .ok (.return_, 1) := by decide +kernel
theorem dX8_wordHere_0 : decode cX8_wordHere 0 = .ok (.aload_n 0, 1) := by decide +kernel
theorem dX8_wordHere_1 : decode cX8_wordHere 1 = .ok (.getfield 88, 3) := by decide +kernel
theorem dX8_wordHere_4 : decode cX8_wordHere 4 = .ok (.iconst 3, 1) := by decide +kernel
theorem dX8_wordHere_5 : decode cX8_wordHere 5 = .ok (.if_icmp .ne 10, 3) := by decide +kernel
theorem dX8_wordHere_15 : decode cX8_wordHere 15 = .ok (.iconst (-1), 1) := by decide +kernel
theorem dX8_wordHere_16 : decode cX8_wordHere 16 = .ok (.ireturn, 1) := by decide +kernel
theorem dX9_clear_0 : decode cX9_clear 0 = .ok (.aload_n 0, 1) := by decide +kernel
theorem dX9_clear_1 : decode cX9_clear 1 = .ok (.iconst 0, 1) := by decide +kernel
theorem dX9_clear_2 : decode cX9_clear 2 = .ok (.putfield 40, 3) := by decide +kernel
theorem dX9_clear_5 : decode cX9_clear 5 = .ok (.aload_n 0, 1) := by decide +kernel
theorem dX9_clear_6 : decode cX9_clear 6 = .ok (.iconst 0, 1) := by decide +kernel
theorem dX9_clear_7 : decode cX9_clear 7 = .ok (.putfield 44, 3) := by decide +kernel
theorem dX9_clear_10 : decode cX9_clear 10 = .ok (.aload_n 0, 1) := by decide +kernel
theorem dX9_clear_11 : decode cX9_clear 11 = .ok (.iconst 0, 1) := by decide +kernel
theorem dX9_clear_12 : decode cX9_clear 12 = .ok (.putfield 47, 3) := by decide +kernel
theorem dX9_clear_15 : decode cX9_clear 15 = .ok (.return_, 1) := by decide +kernel
theorem dX9_definedCount_0 : decode cX9_definedCount 0 = .ok (.iconst 0, 1) := by decide +kernel
theorem dX9_definedCount_1 : decode cX9_definedCount 1 = .ok (.istore_n 1, 1) := by decide +kernel
theorem dX9_definedCount_2 : decode cX9_definedCount 2 = .ok (.iconst 0, 1) := by decide +kernel
theorem dX9_definedCount_3 : decode cX9_definedCount 3 = .ok (.istore_n 2, 1) := by decide +kernel
theorem dX9_definedCount_4 : decode cX9_definedCount 4 = .ok (.iload_n 2, 1) := by decide +kernel
theorem dX9_definedCount_5 : decode cX9_definedCount 5 = .ok (.aload_n 0, 1) := by decide +kernel
theorem dX9_definedCount_6 : decode cX9_definedCount 6 = .ok (.getfield 44, 3) := by decide +kernel
theorem dX9_definedCount_9 : decode cX9_definedCount 9 = .ok (.if_icmp .ge 20, 3) := by decide +kernel
theorem dX9_definedCount_29 : decode cX9_definedCount 29 = .ok (.iload_n 1, 1) := by decide +kernel
theorem dX9_definedCount_30 : decode cX9_definedCount 30 = .ok (.ireturn, 1) := by decide +kernel
theorem dX9_goBack_0 : decode cX9_goBack 0 = .ok (.aload_n 0, 1) := by decide +kernel
theorem dX9_goBack_1 : decode cX9_goBack 1 = .ok (.aload_n 0, 1) := by decide +kernel
theorem dX9_goBack_2 : decode cX9_goBack 2 = .ok (.getfield 50, 3) := by decide +kernel
theorem dX9_goBack_5 : decode cX9_goBack 5 = .ok (.putfield 40, 3) := by decide +kernel
theorem dX9_goBack_8 : decode cX9_goBack 8 = .ok (.aload_n 0, 1) := by decide +kernel
theorem dX9_goBack_9 : decode cX9_goBack 9 = .ok (.aload_n 0, 1) := by decide +kernel
theorem dX9_goBack_10 : decode cX9_goBack 10 = .ok (.getfield 53, 3) := by decide +kernel
theorem dX9_goBack_13 : decode cX9_goBack 13 = .ok (.putfield 44, 3) := by decide +kernel
theorem dX9_goBack_16 : decode cX9_goBack 16 = .ok (.aload_n 0, 1) := by decide +kernel
theorem dX9_goBack_17 : decode cX9_goBack 17 = .ok (.aload_n 0, 1) := by decide +kernel
theorem dX9_goBack_18 : decode cX9_goBack 18 = .ok (.getfield 56, 3) := by decide +kernel
theorem dX9_goBack_21 : decode cX9_goBack 21 = .ok (.putfield 47, 3) := by decide +kernel
theorem dX9_goBack_24 : decode cX9_goBack 24 = .ok (.return_, 1) := by decide +kernel
theorem dX9_hasTheorem_0 : decode cX9_hasTheorem 0 = .ok (.iload_n 1, 1) := by decide +kernel
theorem dX9_hasTheorem_1 : decode cX9_hasTheorem 1 = .ok (.ifCond .lt 15, 3) := by decide +kernel
theorem dX9_hasTheorem_4 : decode cX9_hasTheorem 4 = .ok (.iload_n 1, 1) := by decide +kernel
theorem dX9_hasTheorem_5 : decode cX9_hasTheorem 5 = .ok (.aload_n 0, 1) := by decide +kernel
theorem dX9_hasTheorem_6 : decode cX9_hasTheorem 6 = .ok (.getfield 47, 3) := by decide +kernel
theorem dX9_hasTheorem_9 : decode cX9_hasTheorem 9 = .ok (.if_icmp .ge 7, 3) := by decide +kernel
theorem dX9_hasTheorem_16 : decode cX9_hasTheorem 16 = .ok (.iconst 0, 1) := by decide +kernel
theorem dX9_hasTheorem_17 : decode cX9_hasTheorem 17 = .ok (.ireturn, 1) := by decide +kernel
theorem dX9_hasVar_0 : decode cX9_hasVar 0 = .ok (.iload_n 1, 1) := by decide +kernel
theorem dX9_hasVar_1 : decode cX9_hasVar 1 = .ok (.ifCond .lt 15, 3) := by decide +kernel
theorem dX9_hasVar_4 : decode cX9_hasVar 4 = .ok (.iload_n 1, 1) := by decide +kernel
theorem dX9_hasVar_5 : decode cX9_hasVar 5 = .ok (.aload_n 0, 1) := by decide +kernel
theorem dX9_hasVar_6 : decode cX9_hasVar 6 = .ok (.getfield 40, 3) := by decide +kernel
theorem dX9_hasVar_9 : decode cX9_hasVar 9 = .ok (.if_icmp .ge 7, 3) := by decide +kernel
theorem dX9_hasVar_16 : decode cX9_hasVar 16 = .ok (.iconst 0, 1) := by decide +kernel
theorem dX9_hasVar_17 : decode cX9_hasVar 17 = .ok (.ireturn, 1) := by decide +kernel
theorem dX9_init_0 : decode cX9_init 0 = .ok (.aload_n 0, 1) := by decide +kernel
theorem dX9_init_1 : decode cX9_init 1 = .ok (.invokespecial 3, 3) := by decide +kernel
theorem dX9_init_4 : decode cX9_init 4 = .ok (.aload_n 0, 1) := by decide +kernel
theorem dX9_init_5 : decode cX9_init 5 = .ok (.bipush 10, 2) := by decide +kernel
theorem dX9_init_7 : decode cX9_init 7 = .ok (.newarray .int, 2) := by decide +kernel
theorem dX9_init_9 : decode cX9_init 9 = .ok (.putfield 9, 3) := by decide +kernel
theorem dX9_init_12 : decode cX9_init 12 = .ok (.aload_n 0, 1) := by decide +kernel
theorem dX9_init_13 : decode cX9_init 13 = .ok (.bipush 10, 2) := by decide +kernel
theorem dX9_init_15 : decode cX9_init 15 = .ok (.newarray .int, 2) := by decide +kernel
theorem dX9_init_17 : decode cX9_init 17 = .ok (.putfield 15, 3) := by decide +kernel
theorem dX9_init_20 : decode cX9_init 20 = .ok (.aload_n 0, 1) := by decide +kernel
theorem dX9_init_21 : decode cX9_init 21 = .ok (.bipush 10, 2) := by decide +kernel
theorem dX9_init_23 : decode cX9_init 23 = .ok (.newarray .int, 2) := by decide +kernel
theorem dX9_init_25 : decode cX9_init 25 = .ok (.putfield 18, 3) := by decide +kernel
theorem dX9_init_28 : decode cX9_init 28 = .ok (.aload_n 0, 1) := by decide +kernel
theorem dX9_init_29 : decode cX9_init 29 = .ok (.bipush 10, 2) := by decide +kernel
theorem dX9_init_31 : decode cX9_init 31 = .ok (.newarray .int, 2) := by decide +kernel
theorem dX9_init_33 : decode cX9_init 33 = .ok (.putfield 21, 3) := by decide +kernel
theorem dX9_init_36 : decode cX9_init 36 = .ok (.aload_n 0, 1) := by decide +kernel
theorem dX9_init_37 : decode cX9_init 37 = .ok (.bipush 10, 2) := by decide +kernel
theorem dX9_init_39 : decode cX9_init 39 = .ok (.newarray .int, 2) := by decide +kernel
theorem dX9_init_41 : decode cX9_init 41 = .ok (.putfield 24, 3) := by decide +kernel
theorem dX9_init_44 : decode cX9_init 44 = .ok (.aload_n 0, 1) := by decide +kernel
theorem dX9_init_45 : decode cX9_init 45 = .ok (.bipush 60, 2) := by decide +kernel
theorem dX9_init_47 : decode cX9_init 47 = .ok (.newarray .int, 2) := by decide +kernel
theorem dX9_init_49 : decode cX9_init 49 = .ok (.putfield 27, 3) := by decide +kernel
theorem dX9_init_52 : decode cX9_init 52 = .ok (.aload_n 0, 1) := by decide +kernel
theorem dX9_init_53 : decode cX9_init 53 = .ok (.bipush 60, 2) := by decide +kernel
theorem dX9_init_55 : decode cX9_init 55 = .ok (.newarray .int, 2) := by decide +kernel
theorem dX9_init_57 : decode cX9_init 57 = .ok (.putfield 30, 3) := by decide +kernel
theorem dX9_init_60 : decode cX9_init 60 = .ok (.aload_n 0, 1) := by decide +kernel
theorem dX9_init_61 : decode cX9_init 61 = .ok (.bipush 60, 2) := by decide +kernel
theorem dX9_init_63 : decode cX9_init 63 = .ok (.newarray .int, 2) := by decide +kernel
theorem dX9_init_65 : decode cX9_init 65 = .ok (.putfield 33, 3) := by decide +kernel
theorem dX9_init_68 : decode cX9_init 68 = .ok (.aload_n 0, 1) := by decide +kernel
theorem dX9_init_69 : decode cX9_init 69 = .ok (.aload_n 1, 1) := by decide +kernel
theorem dX9_init_70 : decode cX9_init 70 = .ok (.putfield 36, 3) := by decide +kernel
theorem dX9_init_73 : decode cX9_init 73 = .ok (.return_, 1) := by decide +kernel
theorem dX9_mark_0 : decode cX9_mark 0 = .ok (.aload_n 0, 1) := by decide +kernel
theorem dX9_mark_1 : decode cX9_mark 1 = .ok (.aload_n 0, 1) := by decide +kernel
theorem dX9_mark_2 : decode cX9_mark 2 = .ok (.getfield 40, 3) := by decide +kernel
theorem dX9_mark_5 : decode cX9_mark 5 = .ok (.putfield 50, 3) := by decide +kernel
theorem dX9_mark_8 : decode cX9_mark 8 = .ok (.aload_n 0, 1) := by decide +kernel
theorem dX9_mark_9 : decode cX9_mark 9 = .ok (.aload_n 0, 1) := by decide +kernel
theorem dX9_mark_10 : decode cX9_mark 10 = .ok (.getfield 44, 3) := by decide +kernel
theorem dX9_mark_13 : decode cX9_mark 13 = .ok (.putfield 53, 3) := by decide +kernel
theorem dX9_mark_16 : decode cX9_mark 16 = .ok (.aload_n 0, 1) := by decide +kernel
theorem dX9_mark_17 : decode cX9_mark 17 = .ok (.aload_n 0, 1) := by decide +kernel
theorem dX9_mark_18 : decode cX9_mark 18 = .ok (.getfield 47, 3) := by decide +kernel
theorem dX9_mark_21 : decode cX9_mark 21 = .ok (.putfield 56, 3) := by decide +kernel
theorem dX9_mark_24 : decode cX9_mark 24 = .ok (.return_, 1) := by decide +kernel
