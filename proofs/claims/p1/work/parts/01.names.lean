def RX0 : String := "TenRules$Arena"
def TX0 : u_T := fun k => match k with
  | 0 => ("TenRules$Arena", "kinds", "[I", false)
  | 1 => ("TenRules$Arena", "lefts", "[I", false)
  | 2 => ("TenRules$Arena", "rights", "[I", false)
  | 3 => ("TenRules$Arena", "types", "[I", false)
  | 4 => ("TenRules$Arena", "sizes", "[I", false)
  | 5 => ("TenRules$Arena", "looses", "[I", false)
  | 6 => ("TenRules$Arena", "vars", "[I", false)
  | 7 => ("TenRules$Arena", "consts", "[I", false)
  | 8 => ("TenRules$Arena", "hashes", "[I", false)
  | 9 => ("TenRules$Arena", "nexts", "[I", false)
  | 10 => ("TenRules$Arena", "moves", "[I", false)
  | 11 => ("TenRules$Arena", "heads", "[I", false)
  | 12 => ("TenRules$Arena", "count", "I", false)
  | _ => ("TenRules$Arena", "marked", "I", false)
def tyX0 : Nat → FieldType := fun k => match k with
  | 0 => .array .int
  | 1 => .array .int
  | 2 => .array .int
  | 3 => .array .int
  | 4 => .array .int
  | 5 => .array .int
  | 6 => .array .int
  | 7 => .array .int
  | 8 => .array .int
  | 9 => .array .int
  | 10 => .array .int
  | 11 => .array .int
  | 12 => .int
  | _ => .int
abbrev wsX00 : List Cond := u_ws RX0 TX0 14
theorem nmX0 : ∀ a, a < 14 → ∀ b, b < 14 → a ≠ b → (TX0 a).2.1 ≠ (TX0 b).2.1 := by decide +kernel
theorem tyX0_ok : ∀ k, k < 14 → parseFieldDescriptor (TX0 k).2.2.1 = some (tyX0 k) := by decide +kernel
def RX1 : String := "TenRules$Conv"
def TX1 : u_T := fun k => match k with
  | 0 => ("TenRules$Conv", "tokens", "LTenRules$Tokens;", true)
  | 1 => ("TenRules$Conv", "told", "LTenRules$Told;", true)
  | 2 => ("TenRules$Conv", "ops", "[I", true)
  | 3 => ("TenRules$Conv", "firsts", "[I", true)
  | 4 => ("TenRules$Conv", "seconds", "[I", true)
  | _ => ("TenRules$Conv", "count", "I", false)
def tyX1 : Nat → FieldType := fun k => match k with
  | 0 => .object "TenRules$Tokens"
  | 1 => .object "TenRules$Told"
  | 2 => .array .int
  | 3 => .array .int
  | 4 => .array .int
  | _ => .int
abbrev wsX10 : List Cond := u_ws RX1 TX1 6
theorem nmX1 : ∀ a, a < 6 → ∀ b, b < 6 → a ≠ b → (TX1 a).2.1 ≠ (TX1 b).2.1 := by decide +kernel
theorem tyX1_ok : ∀ k, k < 6 → parseFieldDescriptor (TX1 k).2.2.1 = some (tyX1 k) := by decide +kernel
def RX2 : String := "TenRules$Engine"
def TX2 : u_T := fun k => match k with
  | 0 => ("TenRules$Engine", "arena", "LTenRules$Arena;", true)
  | 1 => ("TenRules$Engine", "terms", "LTenRules$Terms;", true)
  | 2 => ("TenRules$Engine", "told", "LTenRules$Told;", true)
  | 3 => ("TenRules$Engine", "kernel", "LTenRules$Kernel;", true)
  | 4 => ("TenRules$Engine", "conv", "LTenRules$Conv;", true)
  | 5 => ("TenRules$Engine", "nodes", "[I", false)
  | 6 => ("TenRules$Engine", "subjects", "[I", false)
  | 7 => ("TenRules$Engine", "states", "[I", false)
  | 8 => ("TenRules$Engine", "kept", "[I", false)
  | 9 => ("TenRules$Engine", "top", "I", false)
  | 10 => ("TenRules$Engine", "opened", "I", false)
  | _ => ("TenRules$Engine", "found", "[I", true)
def tyX2 : Nat → FieldType := fun k => match k with
  | 0 => .object "TenRules$Arena"
  | 1 => .object "TenRules$Terms"
  | 2 => .object "TenRules$Told"
  | 3 => .object "TenRules$Kernel"
  | 4 => .object "TenRules$Conv"
  | 5 => .array .int
  | 6 => .array .int
  | 7 => .array .int
  | 8 => .array .int
  | 9 => .int
  | 10 => .int
  | _ => .array .int
abbrev wsX20 : List Cond := u_ws RX2 TX2 12
theorem nmX2 : ∀ a, a < 12 → ∀ b, b < 12 → a ≠ b → (TX2 a).2.1 ≠ (TX2 b).2.1 := by decide +kernel
theorem tyX2_ok : ∀ k, k < 12 → parseFieldDescriptor (TX2 k).2.2.1 = some (tyX2 k) := by decide +kernel
def RX3 : String := "TenRules$Kernel"
def TX3 : u_T := fun k => match k with
  | 0 => ("TenRules$Kernel", "arena", "LTenRules$Arena;", true)
  | 1 => ("TenRules$Kernel", "terms", "LTenRules$Terms;", true)
  | 2 => ("TenRules$Kernel", "survey", "LTenRules$Survey;", true)
  | 3 => ("TenRules$Kernel", "counts", "[I", true)
  | 4 => ("TenRules$Kernel", "markedCounts", "[I", true)
  | 5 => ("TenRules$Kernel", "spent", "I", false)
  | 6 => ("TenRules$Kernel", "row", "[I", true)
  | _ => ("TenRules$Kernel", "rowLength", "I", false)
def tyX3 : Nat → FieldType := fun k => match k with
  | 0 => .object "TenRules$Arena"
  | 1 => .object "TenRules$Terms"
  | 2 => .object "TenRules$Survey"
  | 3 => .array .int
  | 4 => .array .int
  | 5 => .int
  | 6 => .array .int
  | _ => .int
abbrev wsX30 : List Cond := u_ws RX3 TX3 8
theorem nmX3 : ∀ a, a < 8 → ∀ b, b < 8 → a ≠ b → (TX3 a).2.1 ≠ (TX3 b).2.1 := by decide +kernel
theorem tyX3_ok : ∀ k, k < 8 → parseFieldDescriptor (TX3 k).2.2.1 = some (tyX3 k) := by decide +kernel
def RX4 : String := "TenRules$LineReader"
def TX4 : u_T := fun k => match k with
  | 0 => ("TenRules$LineReader", "tokens", "LTenRules$Tokens;", true)
  | 1 => ("TenRules$LineReader", "termReader", "LTenRules$TermReader;", true)
  | 2 => ("TenRules$LineReader", "arena", "LTenRules$Arena;", true)
  | 3 => ("TenRules$LineReader", "terms", "LTenRules$Terms;", true)
  | 4 => ("TenRules$LineReader", "told", "LTenRules$Told;", true)
  | _ => ("TenRules$LineReader", "kernel", "LTenRules$Kernel;", true)
def tyX4 : Nat → FieldType := fun k => match k with
  | 0 => .object "TenRules$Tokens"
  | 1 => .object "TenRules$TermReader"
  | 2 => .object "TenRules$Arena"
  | 3 => .object "TenRules$Terms"
  | 4 => .object "TenRules$Told"
  | _ => .object "TenRules$Kernel"
abbrev wsX40 : List Cond := u_ws RX4 TX4 6
theorem nmX4 : ∀ a, a < 6 → ∀ b, b < 6 → a ≠ b → (TX4 a).2.1 ≠ (TX4 b).2.1 := by decide +kernel
theorem tyX4_ok : ∀ k, k < 6 → parseFieldDescriptor (TX4 k).2.2.1 = some (tyX4 k) := by decide +kernel
def RX5 : String := "TenRules$Survey"
def TX5 : u_T := fun k => match k with
  | 0 => ("TenRules$Survey", "arena", "LTenRules$Arena;", true)
  | 1 => ("TenRules$Survey", "terms", "LTenRules$Terms;", true)
  | _ => ("TenRules$Survey", "told", "LTenRules$Told;", true)
def tyX5 : Nat → FieldType := fun k => match k with
  | 0 => .object "TenRules$Arena"
  | 1 => .object "TenRules$Terms"
  | _ => .object "TenRules$Told"
abbrev wsX50 : List Cond := u_ws RX5 TX5 3
theorem nmX5 : ∀ a, a < 3 → ∀ b, b < 3 → a ≠ b → (TX5 a).2.1 ≠ (TX5 b).2.1 := by decide +kernel
theorem tyX5_ok : ∀ k, k < 3 → parseFieldDescriptor (TX5 k).2.2.1 = some (tyX5 k) := by decide +kernel
def RX6 : String := "TenRules$TermReader"
def TX6 : u_T := fun k => match k with
  | 0 => ("TenRules$TermReader", "tokens", "LTenRules$Tokens;", true)
  | 1 => ("TenRules$TermReader", "arena", "LTenRules$Arena;", true)
  | 2 => ("TenRules$TermReader", "terms", "LTenRules$Terms;", true)
  | 3 => ("TenRules$TermReader", "told", "LTenRules$Told;", true)
  | 4 => ("TenRules$TermReader", "boundNames", "[I", true)
  | 5 => ("TenRules$TermReader", "boundTypes", "[I", true)
  | 6 => ("TenRules$TermReader", "boundCount", "I", false)
  | 7 => ("TenRules$TermReader", "atoms", "[I", true)
  | _ => ("TenRules$TermReader", "atomCount", "I", false)
def tyX6 : Nat → FieldType := fun k => match k with
  | 0 => .object "TenRules$Tokens"
  | 1 => .object "TenRules$Arena"
  | 2 => .object "TenRules$Terms"
  | 3 => .object "TenRules$Told"
  | 4 => .array .int
  | 5 => .array .int
  | 6 => .int
  | 7 => .array .int
  | _ => .int
abbrev wsX60 : List Cond := u_ws RX6 TX6 9
theorem nmX6 : ∀ a, a < 9 → ∀ b, b < 9 → a ≠ b → (TX6 a).2.1 ≠ (TX6 b).2.1 := by decide +kernel
theorem tyX6_ok : ∀ k, k < 9 → parseFieldDescriptor (TX6 k).2.2.1 = some (tyX6 k) := by decide +kernel
def RX7 : String := "TenRules$Terms"
def TX7 : u_T := fun k => match k with
  | _ => ("TenRules$Terms", "arena", "LTenRules$Arena;", true)
def tyX7 : Nat → FieldType := fun k => match k with
  | _ => .object "TenRules$Arena"
abbrev wsX70 : List Cond := u_ws RX7 TX7 1
theorem nmX7 : ∀ a, a < 1 → ∀ b, b < 1 → a ≠ b → (TX7 a).2.1 ≠ (TX7 b).2.1 := by decide +kernel
theorem tyX7_ok : ∀ k, k < 1 → parseFieldDescriptor (TX7 k).2.2.1 = some (tyX7 k) := by decide +kernel
def RX8 : String := "TenRules$Tokens"
def TX8 : u_T := fun k => match k with
  | 0 => ("TenRules$Tokens", "tape", "[I", true)
  | 1 => ("TenRules$Tokens", "words", "[I", true)
  | 2 => ("TenRules$Tokens", "kinds", "[I", true)
  | 3 => ("TenRules$Tokens", "places", "[I", true)
  | 4 => ("TenRules$Tokens", "values", "[I", true)
  | 5 => ("TenRules$Tokens", "count", "I", false)
  | 6 => ("TenRules$Tokens", "at", "I", false)
  | 7 => ("TenRules$Tokens", "kind", "I", false)
  | 8 => ("TenRules$Tokens", "place", "I", false)
  | 9 => ("TenRules$Tokens", "value", "I", false)
  | 10 => ("TenRules$Tokens", "fault", "I", false)
  | _ => ("TenRules$Tokens", "faultPlace", "I", false)
def tyX8 : Nat → FieldType := fun k => match k with
  | 0 => .array .int
  | 1 => .array .int
  | 2 => .array .int
  | 3 => .array .int
  | 4 => .array .int
  | 5 => .int
  | 6 => .int
  | 7 => .int
  | 8 => .int
  | 9 => .int
  | 10 => .int
  | _ => .int
abbrev wsX80 : List Cond := u_ws RX8 TX8 12
theorem nmX8 : ∀ a, a < 12 → ∀ b, b < 12 → a ≠ b → (TX8 a).2.1 ≠ (TX8 b).2.1 := by decide +kernel
theorem tyX8_ok : ∀ k, k < 12 → parseFieldDescriptor (TX8 k).2.2.1 = some (tyX8 k) := by decide +kernel
def RX9 : String := "TenRules$Told"
def TX9 : u_T := fun k => match k with
  | 0 => ("TenRules$Told", "arena", "LTenRules$Arena;", true)
  | 1 => ("TenRules$Told", "varNames", "[I", true)
  | 2 => ("TenRules$Told", "varTypes", "[I", true)
  | 3 => ("TenRules$Told", "constNames", "[I", true)
  | 4 => ("TenRules$Told", "constTypes", "[I", true)
  | 5 => ("TenRules$Told", "constTheorems", "[I", true)
  | 6 => ("TenRules$Told", "theoremNodes", "[I", true)
  | 7 => ("TenRules$Told", "theoremNames", "[I", true)
  | 8 => ("TenRules$Told", "theoremMakers", "[I", true)
  | 9 => ("TenRules$Told", "varCount", "I", false)
  | 10 => ("TenRules$Told", "constCount", "I", false)
  | 11 => ("TenRules$Told", "theoremCount", "I", false)
  | 12 => ("TenRules$Told", "markedVars", "I", false)
  | 13 => ("TenRules$Told", "markedConsts", "I", false)
  | _ => ("TenRules$Told", "markedTheorems", "I", false)
def tyX9 : Nat → FieldType := fun k => match k with
  | 0 => .object "TenRules$Arena"
  | 1 => .array .int
  | 2 => .array .int
  | 3 => .array .int
  | 4 => .array .int
  | 5 => .array .int
  | 6 => .array .int
  | 7 => .array .int
  | 8 => .array .int
  | 9 => .int
  | 10 => .int
  | 11 => .int
  | 12 => .int
  | 13 => .int
  | _ => .int
abbrev wsX90 : List Cond := u_ws RX9 TX9 15
theorem nmX9 : ∀ a, a < 15 → ∀ b, b < 15 → a ≠ b → (TX9 a).2.1 ≠ (TX9 b).2.1 := by decide +kernel
theorem tyX9_ok : ∀ k, k < 15 → parseFieldDescriptor (TX9 k).2.2.1 = some (tyX9 k) := by decide +kernel
def RX10 : String := "TenRules$Writer"
def TX10 : u_T := fun k => match k with
  | 0 => ("TenRules$Writer", "arena", "LTenRules$Arena;", true)
  | 1 => ("TenRules$Writer", "told", "LTenRules$Told;", true)
  | 2 => ("TenRules$Writer", "row", "[I", true)
  | _ => ("TenRules$Writer", "length", "I", false)
def tyX10 : Nat → FieldType := fun k => match k with
  | 0 => .object "TenRules$Arena"
  | 1 => .object "TenRules$Told"
  | 2 => .array .int
  | _ => .int
abbrev wsX100 : List Cond := u_ws RX10 TX10 4
theorem nmX10 : ∀ a, a < 4 → ∀ b, b < 4 → a ≠ b → (TX10 a).2.1 ≠ (TX10 b).2.1 := by decide +kernel
theorem tyX10_ok : ∀ k, k < 4 → parseFieldDescriptor (TX10 k).2.2.1 = some (tyX10 k) := by decide +kernel
def RX11 : String := "TenRules"
def TX11 : u_T := fun k => match k with
  | 0 => ("TenRules", "tape", "[I", true)
  | 1 => ("TenRules", "tapeLength", "I", false)
  | 2 => ("TenRules", "faultNumber", "I", false)
  | 3 => ("TenRules", "faultPlace", "I", false)
  | 4 => ("TenRules", "troubleNumber", "I", false)
  | 5 => ("TenRules", "arena", "LTenRules$Arena;", true)
  | 6 => ("TenRules", "terms", "LTenRules$Terms;", true)
  | 7 => ("TenRules", "told", "LTenRules$Told;", true)
  | 8 => ("TenRules", "survey", "LTenRules$Survey;", true)
  | 9 => ("TenRules", "kernel", "LTenRules$Kernel;", true)
  | 10 => ("TenRules", "tokens", "LTenRules$Tokens;", true)
  | 11 => ("TenRules", "termReader", "LTenRules$TermReader;", true)
  | 12 => ("TenRules", "lineReader", "LTenRules$LineReader;", true)
  | 13 => ("TenRules", "conv", "LTenRules$Conv;", true)
  | 14 => ("TenRules", "engine", "LTenRules$Engine;", true)
  | _ => ("TenRules", "writer", "LTenRules$Writer;", true)
def tyX11 : Nat → FieldType := fun k => match k with
  | 0 => .array .int
  | 1 => .int
  | 2 => .int
  | 3 => .int
  | 4 => .int
  | 5 => .object "TenRules$Arena"
  | 6 => .object "TenRules$Terms"
  | 7 => .object "TenRules$Told"
  | 8 => .object "TenRules$Survey"
  | 9 => .object "TenRules$Kernel"
  | 10 => .object "TenRules$Tokens"
  | 11 => .object "TenRules$TermReader"
  | 12 => .object "TenRules$LineReader"
  | 13 => .object "TenRules$Conv"
  | 14 => .object "TenRules$Engine"
  | _ => .object "TenRules$Writer"
abbrev wsX110 : List Cond := u_ws RX11 TX11 16
theorem nmX11 : ∀ a, a < 16 → ∀ b, b < 16 → a ≠ b → (TX11 a).2.1 ≠ (TX11 b).2.1 := by decide +kernel
theorem tyX11_ok : ∀ k, k < 16 → parseFieldDescriptor (TX11 k).2.2.1 = some (tyX11 k) := by decide +kernel
def RX12 : String := "TenRulesModel"
def TX12 : u_T := fun k => match k with
  | 0 => ("TenRulesModel", "thrown", "I", false)
  | 1 => ("TenRulesModel", "trouble", "I", false)
  | 2 => ("TenRulesModel", "wrongAt", "I", false)
  | 3 => ("TenRulesModel", "tape", "[I", true)
  | 4 => ("TenRulesModel", "taped", "I", false)
  | 5 => ("TenRulesModel", "size", "I", false)
  | 6 => ("TenRulesModel", "spot", "I", false)
  | 7 => ("TenRulesModel", "fault", "I", false)
  | 8 => ("TenRulesModel", "faultAt", "I", false)
  | 9 => ("TenRulesModel", "token", "I", false)
  | 10 => ("TenRulesModel", "at", "I", false)
  | 11 => ("TenRulesModel", "sign", "I", false)
  | 12 => ("TenRulesModel", "word", "J", false)
  | 13 => ("TenRulesModel", "nested", "I", false)
  | 14 => ("TenRulesModel", "takes", "[I", true)
  | 15 => ("TenRulesModel", "gives", "[I", true)
  | 16 => ("TenRulesModel", "nextType", "[I", true)
  | 17 => ("TenRulesModel", "heads", "[I", true)
  | 18 => ("TenRulesModel", "types", "I", false)
  | 19 => ("TenRulesModel", "letters", "I", false)
  | 20 => ("TenRulesModel", "varName", "[J", true)
  | 21 => ("TenRulesModel", "constName", "[J", true)
  | 22 => ("TenRulesModel", "thmName", "[J", true)
  | 23 => ("TenRulesModel", "varType", "[I", true)
  | 24 => ("TenRulesModel", "constType", "[I", true)
  | 25 => ("TenRulesModel", "constThm", "[I", true)
  | 26 => ("TenRulesModel", "vars", "I", false)
  | 27 => ("TenRulesModel", "consts", "I", false)
  | 28 => ("TenRulesModel", "thms", "I", false)
  | 29 => ("TenRulesModel", "freshVars", "I", false)
  | 30 => ("TenRulesModel", "read", "[I", true)
  | 31 => ("TenRulesModel", "boundType", "[I", true)
  | 32 => ("TenRulesModel", "boundName", "[J", true)
  | 33 => ("TenRulesModel", "signs", "I", false)
  | 34 => ("TenRulesModel", "depth", "I", false)
  | 35 => ("TenRulesModel", "termAt", "I", false)
  | 36 => ("TenRulesModel", "m", "[I", true)
  | 37 => ("TenRulesModel", "len", "[I", true)
  | 38 => ("TenRulesModel", "regLen", "[I", true)
  | 39 => ("TenRulesModel", "hyps", "[I", true)
  | 40 => ("TenRulesModel", "madeBy", "[I", true)
  | 41 => ("TenRulesModel", "top", "I", false)
  | 42 => ("TenRulesModel", "regTop", "I", false)
  | 43 => ("TenRulesModel", "roundType", "[I", true)
  | 44 => ("TenRulesModel", "round", "I", false)
  | 45 => ("TenRulesModel", "typed", "I", false)
  | 46 => ("TenRulesModel", "ink", "[I", true)
  | 47 => ("TenRulesModel", "inked", "[I", true)
  | 48 => ("TenRulesModel", "inkRow", "I", false)
  | 49 => ("TenRulesModel", "calls", "[I", true)
  | 50 => ("TenRulesModel", "used", "[I", true)
  | 51 => ("TenRulesModel", "usedNow", "I", false)
  | 52 => ("TenRulesModel", "isFull", "Z", false)
  | 53 => ("TenRulesModel", "outAt", "I", false)
  | 54 => ("TenRulesModel", "outMany", "I", false)
  | 55 => ("TenRulesModel", "conv", "[I", true)
  | 56 => ("TenRulesModel", "first", "[I", true)
  | 57 => ("TenRulesModel", "second", "[I", true)
  | 58 => ("TenRulesModel", "convs", "I", false)
  | 59 => ("TenRulesModel", "found", "[I", true)
  | 60 => ("TenRulesModel", "free", "I", false)
  | 61 => ("TenRulesModel", "betas", "I", false)
  | 62 => ("TenRulesModel", "defs", "I", false)
  | 63 => ("TenRulesModel", "etas", "I", false)
  | _ => ("TenRulesModel", "deepest", "I", false)
def tyX12 : Nat → FieldType := fun k => match k with
  | 0 => .int
  | 1 => .int
  | 2 => .int
  | 3 => .array .int
  | 4 => .int
  | 5 => .int
  | 6 => .int
  | 7 => .int
  | 8 => .int
  | 9 => .int
  | 10 => .int
  | 11 => .int
  | 12 => .long
  | 13 => .int
  | 14 => .array .int
  | 15 => .array .int
  | 16 => .array .int
  | 17 => .array .int
  | 18 => .int
  | 19 => .int
  | 20 => .array .long
  | 21 => .array .long
  | 22 => .array .long
  | 23 => .array .int
  | 24 => .array .int
  | 25 => .array .int
  | 26 => .int
  | 27 => .int
  | 28 => .int
  | 29 => .int
  | 30 => .array .int
  | 31 => .array .int
  | 32 => .array .long
  | 33 => .int
  | 34 => .int
  | 35 => .int
  | 36 => .array .int
  | 37 => .array .int
  | 38 => .array .int
  | 39 => .array .int
  | 40 => .array .int
  | 41 => .int
  | 42 => .int
  | 43 => .array .int
  | 44 => .int
  | 45 => .int
  | 46 => .array .int
  | 47 => .array .int
  | 48 => .int
  | 49 => .array .int
  | 50 => .array .int
  | 51 => .int
  | 52 => .boolean
  | 53 => .int
  | 54 => .int
  | 55 => .array .int
  | 56 => .array .int
  | 57 => .array .int
  | 58 => .int
  | 59 => .array .int
  | 60 => .int
  | 61 => .int
  | 62 => .int
  | 63 => .int
  | _ => .int
abbrev wsX120 : List Cond := u_ws RX12 TX12 65
theorem nmX12 : ∀ a, a < 65 → ∀ b, b < 65 → a ≠ b → (TX12 a).2.1 ≠ (TX12 b).2.1 := by decide +kernel
theorem tyX12_ok : ∀ k, k < 65 → parseFieldDescriptor (TX12 k).2.2.1 = some (tyX12 k) := by decide +kernel
def RL : String := "TenRulesLaw"
abbrev cX8_refuse : ByteArray := prog_10_method_7_code
def yX8_refuse : MethodName := ⟨RX8, "refuse", "(II)I"⟩
abbrev cX11_opens : ByteArray := prog_1_method_42_code
def yX11_opens : MethodName := ⟨RX11, "opens", "(I)Z"⟩
abbrev vwCl : List vw_C := [(RX0, TX0, 14), (RX1, TX1, 6), (RX2, TX2, 12), (RX3, TX3, 8), (RX4, TX4, 6), (RX5, TX5, 3), (RX6, TX6, 9), (RX7, TX7, 1), (RX8, TX8, 12), (RX9, TX9, 15), (RX10, TX10, 4), (RX11, TX11, 16), (RX12, TX12, 65)]
theorem dX8_refuse_0 : decode cX8_refuse 0 = .ok (.aload_n 0, 1) := by decide +kernel
theorem dX8_refuse_1 : decode cX8_refuse 1 = .ok (.getfield 76, 3) := by decide +kernel
theorem dX8_refuse_4 : decode cX8_refuse 4 = .ok (.ifCond .ne 13, 3) := by decide +kernel
theorem dX8_refuse_7 : decode cX8_refuse 7 = .ok (.aload_n 0, 1) := by decide +kernel
theorem dX8_refuse_8 : decode cX8_refuse 8 = .ok (.iload_n 1, 1) := by decide +kernel
theorem dX8_refuse_9 : decode cX8_refuse 9 = .ok (.putfield 76, 3) := by decide +kernel
theorem dX8_refuse_12 : decode cX8_refuse 12 = .ok (.aload_n 0, 1) := by decide +kernel
theorem dX8_refuse_13 : decode cX8_refuse 13 = .ok (.iload_n 2, 1) := by decide +kernel
theorem dX8_refuse_14 : decode cX8_refuse 14 = .ok (.putfield 79, 3) := by decide +kernel
theorem dX8_refuse_17 : decode cX8_refuse 17 = .ok (.aload_n 0, 1) := by decide +kernel
theorem dX8_refuse_18 : decode cX8_refuse 18 = .ok (.iconst 1, 1) := by decide +kernel
theorem dX8_refuse_19 : decode cX8_refuse 19 = .ok (.putfield 88, 3) := by decide +kernel
theorem dX8_refuse_22 : decode cX8_refuse 22 = .ok (.iconst (-1), 1) := by decide +kernel
theorem dX8_refuse_23 : decode cX8_refuse 23 = .ok (.ireturn, 1) := by decide +kernel
