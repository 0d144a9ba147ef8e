def RX0 : String := "ProofServer$Bytes"
def TX0 : u_T := fun k => match k with
  | 0 => ("ProofServer$Bytes", "row", "[B", false)
  | _ => ("ProofServer$Bytes", "count", "I", false)
def tyX0 : Nat → FieldType := fun k => match k with
  | 0 => .array .byte
  | _ => .int
theorem nmX0 : ∀ a, a < 2 → ∀ b, b < 2 → a ≠ b → (TX0 a).2.1 ≠ (TX0 b).2.1 := by decide +kernel
theorem tyX0_ok : ∀ k, k < 2 → parseFieldDescriptor (TX0 k).2.2.1 = some (tyX0 k) := by decide +kernel
def RX1 : String := "ProofServer$Document"
def TX1 : u_T := fun k => match k with
  | 0 => ("ProofServer$Document", "uri", "[I", false)
  | 1 => ("ProofServer$Document", "version", "I", false)
  | 2 => ("ProofServer$Document", "text", "[I", true)
  | 3 => ("ProofServer$Document", "length", "I", false)
  | 4 => ("ProofServer$Document", "sentences", "I", false)
  | 5 => ("ProofServer$Document", "starts", "[I", true)
  | 6 => ("ProofServer$Document", "ends", "[I", true)
  | 7 => ("ProofServer$Document", "costs", "[I", true)
  | 8 => ("ProofServer$Document", "early", "[I", true)
  | 9 => ("ProofServer$Document", "behind", "[LProofServer$State;", true)
  | 10 => ("ProofServer$Document", "checked", "I", false)
  | 11 => ("ProofServer$Document", "checking", "[I", false)
  | 12 => ("ProofServer$Document", "found", "LProofServer$State;", false)
  | 13 => ("ProofServer$Document", "left", "I", false)
  | 14 => ("ProofServer$Document", "line", "I", false)
  | 15 => ("ProofServer$Document", "lineStart", "I", false)
  | _ => ("ProofServer$Document", "cursor", "I", false)
def tyX1 : Nat → FieldType := fun k => match k with
  | 0 => .array .int
  | 1 => .int
  | 2 => .array .int
  | 3 => .int
  | 4 => .int
  | 5 => .array .int
  | 6 => .array .int
  | 7 => .array .int
  | 8 => .array .int
  | 9 => .array (.object "ProofServer$State")
  | 10 => .int
  | 11 => .array .int
  | 12 => .object "ProofServer$State"
  | 13 => .int
  | 14 => .int
  | 15 => .int
  | _ => .int
theorem nmX1 : ∀ a, a < 17 → ∀ b, b < 17 → a ≠ b → (TX1 a).2.1 ≠ (TX1 b).2.1 := by decide +kernel
theorem tyX1_ok : ∀ k, k < 17 → parseFieldDescriptor (TX1 k).2.2.1 = some (tyX1 k) := by decide +kernel
def RX2 : String := "ProofServer$Frames"
def TX2 : u_T := fun k => match k with
  | 0 => ("ProofServer$Frames", "body", "[B", true)
  | 1 => ("ProofServer$Frames", "length", "I", false)
  | 2 => ("ProofServer$Frames", "kept", "I", false)
  | 3 => ("ProofServer$Frames", "messages", "I", false)
  | 4 => ("ProofServer$Frames", "broken", "Z", false)
  | 5 => ("ProofServer$Frames", "place", "I", false)
  | 6 => ("ProofServer$Frames", "told", "I", false)
  | 7 => ("ProofServer$Frames", "filled", "I", false)
  | 8 => ("ProofServer$Frames", "signs", "I", false)
  | 9 => ("ProofServer$Frames", "isLengthName", "Z", false)
  | 10 => ("ProofServer$Frames", "digits", "I", false)
  | _ => ("ProofServer$Frames", "value", "I", false)
def tyX2 : Nat → FieldType := fun k => match k with
  | 0 => .array .byte
  | 1 => .int
  | 2 => .int
  | 3 => .int
  | 4 => .boolean
  | 5 => .int
  | 6 => .int
  | 7 => .int
  | 8 => .int
  | 9 => .boolean
  | 10 => .int
  | _ => .int
theorem nmX2 : ∀ a, a < 12 → ∀ b, b < 12 → a ≠ b → (TX2 a).2.1 ≠ (TX2 b).2.1 := by decide +kernel
theorem tyX2_ok : ∀ k, k < 12 → parseFieldDescriptor (TX2 k).2.2.1 = some (tyX2 k) := by decide +kernel
def RX3 : String := "ProofServer$Goal"
def TX3 : u_T := fun k => match k with
  | 0 => ("ProofServer$Goal", "variables", "[I", true)
  | 1 => ("ProofServer$Goal", "names", "[I", true)
  | 2 => ("ProofServer$Goal", "hypotheses", "[[I", true)
  | _ => ("ProofServer$Goal", "formula", "[I", true)
def tyX3 : Nat → FieldType := fun k => match k with
  | 0 => .array .int
  | 1 => .array .int
  | 2 => .array (.array .int)
  | _ => .array .int
theorem nmX3 : ∀ a, a < 4 → ∀ b, b < 4 → a ≠ b → (TX3 a).2.1 ≠ (TX3 b).2.1 := by decide +kernel
theorem tyX3_ok : ∀ k, k < 4 → parseFieldDescriptor (TX3 k).2.2.1 = some (tyX3 k) := by decide +kernel
def RX4 : String := "ProofServer$Json"
def TX4 : u_T := fun k => match k with
  | 0 => ("ProofServer$Json", "kinds", "[I", true)
  | 1 => ("ProofServer$Json", "firsts", "[I", true)
  | 2 => ("ProofServer$Json", "sizes", "[I", true)
  | 3 => ("ProofServer$Json", "nexts", "[I", true)
  | 4 => ("ProofServer$Json", "keyFirsts", "[I", true)
  | 5 => ("ProofServer$Json", "keySizes", "[I", true)
  | 6 => ("ProofServer$Json", "units", "[I", true)
  | 7 => ("ProofServer$Json", "values", "I", false)
  | 8 => ("ProofServer$Json", "unitCount", "I", false)
  | 9 => ("ProofServer$Json", "bytes", "[B", false)
  | 10 => ("ProofServer$Json", "end", "I", false)
  | _ => ("ProofServer$Json", "at", "I", false)
def tyX4 : Nat → FieldType := fun k => match k with
  | 0 => .array .int
  | 1 => .array .int
  | 2 => .array .int
  | 3 => .array .int
  | 4 => .array .int
  | 5 => .array .int
  | 6 => .array .int
  | 7 => .int
  | 8 => .int
  | 9 => .array .byte
  | 10 => .int
  | _ => .int
theorem nmX4 : ∀ a, a < 12 → ∀ b, b < 12 → a ≠ b → (TX4 a).2.1 ≠ (TX4 b).2.1 := by decide +kernel
theorem tyX4_ok : ∀ k, k < 12 → parseFieldDescriptor (TX4 k).2.2.1 = some (tyX4 k) := by decide +kernel
def RX5 : String := "ProofServer$Kernel"
def TX5 : u_T := fun k => match k with
  | 0 => ("ProofServer$Kernel", "names", "LProofServer$Names;", true)
  | 1 => ("ProofServer$Kernel", "syntax", "LProofServer$Syntax;", true)
  | 2 => ("ProofServer$Kernel", "start", "LProofServer$State;", true)
  | 3 => ("ProofServer$Kernel", "scopeNames", "[I", true)
  | 4 => ("ProofServer$Kernel", "scopeEnds", "[I", true)
  | 5 => ("ProofServer$Kernel", "source", "[I", false)
  | 6 => ("ProofServer$Kernel", "termFrom", "[I", true)
  | 7 => ("ProofServer$Kernel", "termSize", "[I", true)
  | 8 => ("ProofServer$Kernel", "single", "[I", true)
  | 9 => ("ProofServer$Kernel", "fresh", "[LProofServer$Goal;", true)
  | _ => ("ProofServer$Kernel", "freshCount", "I", false)
def tyX5 : Nat → FieldType := fun k => match k with
  | 0 => .object "ProofServer$Names"
  | 1 => .object "ProofServer$Syntax"
  | 2 => .object "ProofServer$State"
  | 3 => .array .int
  | 4 => .array .int
  | 5 => .array .int
  | 6 => .array .int
  | 7 => .array .int
  | 8 => .array .int
  | 9 => .array (.object "ProofServer$Goal")
  | _ => .int
theorem nmX5 : ∀ a, a < 11 → ∀ b, b < 11 → a ≠ b → (TX5 a).2.1 ≠ (TX5 b).2.1 := by decide +kernel
theorem tyX5_ok : ∀ k, k < 11 → parseFieldDescriptor (TX5 k).2.2.1 = some (tyX5 k) := by decide +kernel
def RX6 : String := "ProofServer$Names"
def TX6 : u_T := fun k => match k with
  | 0 => ("ProofServer$Names", "stems", "[J", true)
  | 1 => ("ProofServer$Names", "primes", "[I", true)
  | 2 => ("ProofServer$Names", "slots", "[I", true)
  | _ => ("ProofServer$Names", "count", "I", false)
def tyX6 : Nat → FieldType := fun k => match k with
  | 0 => .array .long
  | 1 => .array .int
  | 2 => .array .int
  | _ => .int
theorem nmX6 : ∀ a, a < 4 → ∀ b, b < 4 → a ≠ b → (TX6 a).2.1 ≠ (TX6 b).2.1 := by decide +kernel
theorem tyX6_ok : ∀ k, k < 4 → parseFieldDescriptor (TX6 k).2.2.1 = some (tyX6 k) := by decide +kernel
def RX7 : String := "ProofServer$Printer"
def TX7 : u_T := fun k => match k with
  | 0 => ("ProofServer$Printer", "names", "LProofServer$Names;", true)
  | 1 => ("ProofServer$Printer", "stack", "[I", true)
  | 2 => ("ProofServer$Printer", "height", "I", false)
  | 3 => ("ProofServer$Printer", "boundNames", "[I", true)
  | _ => ("ProofServer$Printer", "boundMore", "[I", true)
def tyX7 : Nat → FieldType := fun k => match k with
  | 0 => .object "ProofServer$Names"
  | 1 => .array .int
  | 2 => .int
  | 3 => .array .int
  | _ => .array .int
theorem nmX7 : ∀ a, a < 5 → ∀ b, b < 5 → a ≠ b → (TX7 a).2.1 ≠ (TX7 b).2.1 := by decide +kernel
theorem tyX7_ok : ∀ k, k < 5 → parseFieldDescriptor (TX7 k).2.2.1 = some (tyX7 k) := by decide +kernel
def RX8 : String := "ProofServer$Request"
def TX8 : u_T := fun k => match k with
  | 0 => ("ProofServer$Request", "id", "LProofServer$Bytes;", true)
  | 1 => ("ProofServer$Request", "about", "LProofServer$Document;", false)
  | 2 => ("ProofServer$Request", "needed", "I", false)
  | 3 => ("ProofServer$Request", "isStatement", "Z", false)
  | _ => ("ProofServer$Request", "name", "I", false)
def tyX8 : Nat → FieldType := fun k => match k with
  | 0 => .object "ProofServer$Bytes"
  | 1 => .object "ProofServer$Document"
  | 2 => .int
  | 3 => .boolean
  | _ => .int
theorem nmX8 : ∀ a, a < 5 → ∀ b, b < 5 → a ≠ b → (TX8 a).2.1 ≠ (TX8 b).2.1 := by decide +kernel
theorem tyX8_ok : ∀ k, k < 5 → parseFieldDescriptor (TX8 k).2.2.1 = some (tyX8 k) := by decide +kernel
def RX9 : String := "ProofServer$State"
def TX9 : u_T := fun k => match k with
  | 0 => ("ProofServer$State", "ahead", "LProofServer$State;", true)
  | 1 => ("ProofServer$State", "units", "[I", true)
  | 2 => ("ProofServer$State", "fault", "I", false)
  | 3 => ("ProofServer$State", "symbols", "[I", false)
  | 4 => ("ProofServer$State", "factNames", "[I", false)
  | 5 => ("ProofServer$State", "facts", "[[I", false)
  | 6 => ("ProofServer$State", "lemma", "I", false)
  | 7 => ("ProofServer$State", "statement", "[I", false)
  | _ => ("ProofServer$State", "goals", "[LProofServer$Goal;", false)
def tyX9 : Nat → FieldType := fun k => match k with
  | 0 => .object "ProofServer$State"
  | 1 => .array .int
  | 2 => .int
  | 3 => .array .int
  | 4 => .array .int
  | 5 => .array (.array .int)
  | 6 => .int
  | 7 => .array .int
  | _ => .array (.object "ProofServer$Goal")
theorem nmX9 : ∀ a, a < 9 → ∀ b, b < 9 → a ≠ b → (TX9 a).2.1 ≠ (TX9 b).2.1 := by decide +kernel
theorem tyX9_ok : ∀ k, k < 9 → parseFieldDescriptor (TX9 k).2.2.1 = some (tyX9 k) := by decide +kernel
def RX10 : String := "ProofServer$Syntax"
def TX10 : u_T := fun k => match k with
  | 0 => ("ProofServer$Syntax", "names", "LProofServer$Names;", true)
  | 1 => ("ProofServer$Syntax", "kinds", "[I", true)
  | 2 => ("ProofServer$Syntax", "values", "[I", true)
  | 3 => ("ProofServer$Syntax", "tokens", "I", false)
  | 4 => ("ProofServer$Syntax", "at", "I", false)
  | 5 => ("ProofServer$Syntax", "word", "I", false)
  | 6 => ("ProofServer$Syntax", "told", "[I", true)
  | 7 => ("ProofServer$Syntax", "toldCount", "I", false)
  | 8 => ("ProofServer$Syntax", "terms", "I", false)
  | 9 => ("ProofServer$Syntax", "nodes", "[I", true)
  | _ => ("ProofServer$Syntax", "nodeCount", "I", false)
def tyX10 : Nat → FieldType := fun k => match k with
  | 0 => .object "ProofServer$Names"
  | 1 => .array .int
  | 2 => .array .int
  | 3 => .int
  | 4 => .int
  | 5 => .int
  | 6 => .array .int
  | 7 => .int
  | 8 => .int
  | 9 => .array .int
  | _ => .int
theorem nmX10 : ∀ a, a < 11 → ∀ b, b < 11 → a ≠ b → (TX10 a).2.1 ≠ (TX10 b).2.1 := by decide +kernel
theorem tyX10_ok : ∀ k, k < 11 → parseFieldDescriptor (TX10 k).2.2.1 = some (tyX10 k) := by decide +kernel
def RX11 : String := "ProofServer"
def TX11 : u_T := fun k => match k with
  | 0 => ("ProofServer", "tape", "LProofServer$Bytes;", true)
  | 1 => ("ProofServer", "frames", "LProofServer$Frames;", true)
  | 2 => ("ProofServer", "json", "LProofServer$Json;", true)
  | 3 => ("ProofServer", "output", "LProofServer$Bytes;", true)
  | 4 => ("ProofServer", "body", "LProofServer$Bytes;", true)
  | 5 => ("ProofServer", "kernel", "LProofServer$Kernel;", true)
  | 6 => ("ProofServer", "printer", "LProofServer$Printer;", true)
  | 7 => ("ProofServer", "open", "Ljava/util/List;", true)
  | 8 => ("ProofServer", "waiting", "Ljava/util/List;", true)
  | 9 => ("ProofServer", "cache", "Ljava/util/List;", true)
  | 10 => ("ProofServer", "hands", "[LProofServer$Document;", true)
  | 11 => ("ProofServer", "phase", "I", false)
  | 12 => ("ProofServer", "steps", "I", false)
  | 13 => ("ProofServer", "reused", "I", false)
  | 14 => ("ProofServer", "lost", "I", false)
  | 15 => ("ProofServer", "spare", "LProofServer$Document;", false)
  | 16 => ("ProofServer", "latest", "LProofServer$Document;", false)
  | 17 => ("ProofServer", "shown", "LProofServer$Bytes;", true)
  | _ => ("ProofServer", "shownOf", "I", false)
def tyX11 : Nat → FieldType := fun k => match k with
  | 0 => .object "ProofServer$Bytes"
  | 1 => .object "ProofServer$Frames"
  | 2 => .object "ProofServer$Json"
  | 3 => .object "ProofServer$Bytes"
  | 4 => .object "ProofServer$Bytes"
  | 5 => .object "ProofServer$Kernel"
  | 6 => .object "ProofServer$Printer"
  | 7 => .object "java/util/List"
  | 8 => .object "java/util/List"
  | 9 => .object "java/util/List"
  | 10 => .array (.object "ProofServer$Document")
  | 11 => .int
  | 12 => .int
  | 13 => .int
  | 14 => .int
  | 15 => .object "ProofServer$Document"
  | 16 => .object "ProofServer$Document"
  | 17 => .object "ProofServer$Bytes"
  | _ => .int
theorem nmX11 : ∀ a, a < 19 → ∀ b, b < 19 → a ≠ b → (TX11 a).2.1 ≠ (TX11 b).2.1 := by decide +kernel
theorem tyX11_ok : ∀ k, k < 19 → parseFieldDescriptor (TX11 k).2.2.1 = some (tyX11 k) := by decide +kernel
def RX12 : String := "ProofServerModel$Document"
def TX12 : u_T := fun k => match k with
  | 0 => ("ProofServerModel$Document", "uri", "[I", true)
  | 1 => ("ProofServerModel$Document", "uriLength", "I", false)
  | 2 => ("ProofServerModel$Document", "version", "I", false)
  | 3 => ("ProofServerModel$Document", "text", "[I", true)
  | 4 => ("ProofServerModel$Document", "units", "I", false)
  | 5 => ("ProofServerModel$Document", "sentences", "I", false)
  | 6 => ("ProofServerModel$Document", "begin", "[I", true)
  | 7 => ("ProofServerModel$Document", "end", "[I", true)
  | 8 => ("ProofServerModel$Document", "flaw", "[I", true)
  | 9 => ("ProofServerModel$Document", "checked", "I", false)
  | _ => ("ProofServerModel$Document", "fault", "[I", true)
def tyX12 : Nat → FieldType := fun k => match k with
  | 0 => .array .int
  | 1 => .int
  | 2 => .int
  | 3 => .array .int
  | 4 => .int
  | 5 => .int
  | 6 => .array .int
  | 7 => .array .int
  | 8 => .array .int
  | 9 => .int
  | _ => .array .int
theorem nmX12 : ∀ a, a < 11 → ∀ b, b < 11 → a ≠ b → (TX12 a).2.1 ≠ (TX12 b).2.1 := by decide +kernel
theorem tyX12_ok : ∀ k, k < 11 → parseFieldDescriptor (TX12 k).2.2.1 = some (tyX12 k) := by decide +kernel
def RX13 : String := "ProofServerModel$Kernel"
def TX13 : u_T := fun k => match k with
  | 0 => ("ProofServerModel$Kernel", "sort", "[I", true)
  | 1 => ("ProofServerModel$Kernel", "name", "[I", true)
  | 2 => ("ProofServerModel$Kernel", "one", "[I", true)
  | 3 => ("ProofServerModel$Kernel", "two", "[I", true)
  | 4 => ("ProofServerModel$Kernel", "three", "[I", true)
  | 5 => ("ProofServerModel$Kernel", "nodes", "I", false)
  | 6 => ("ProofServerModel$Kernel", "signs", "[I", true)
  | 7 => ("ProofServerModel$Kernel", "signCount", "I", false)
  | 8 => ("ProofServerModel$Kernel", "nameAt", "[I", true)
  | 9 => ("ProofServerModel$Kernel", "nameLength", "[I", true)
  | 10 => ("ProofServerModel$Kernel", "nameCount", "I", false)
  | 11 => ("ProofServerModel$Kernel", "symbols", "I", false)
  | 12 => ("ProofServerModel$Kernel", "symbol", "[I", true)
  | 13 => ("ProofServerModel$Kernel", "predicate", "[Z", true)
  | 14 => ("ProofServerModel$Kernel", "arity", "[I", true)
  | 15 => ("ProofServerModel$Kernel", "facts", "I", false)
  | 16 => ("ProofServerModel$Kernel", "factName", "[I", true)
  | 17 => ("ProofServerModel$Kernel", "fact", "[I", true)
  | 18 => ("ProofServerModel$Kernel", "proof", "Z", false)
  | 19 => ("ProofServerModel$Kernel", "lemmaName", "I", false)
  | 20 => ("ProofServerModel$Kernel", "lemma", "I", false)
  | 21 => ("ProofServerModel$Kernel", "goals", "I", false)
  | 22 => ("ProofServerModel$Kernel", "goal", "[I", true)
  | 23 => ("ProofServerModel$Kernel", "vars", "[I", true)
  | 24 => ("ProofServerModel$Kernel", "varName", "[I", true)
  | 25 => ("ProofServerModel$Kernel", "hyps", "[I", true)
  | 26 => ("ProofServerModel$Kernel", "hypName", "[I", true)
  | 27 => ("ProofServerModel$Kernel", "hyp", "[I", true)
  | 28 => ("ProofServerModel$Kernel", "kind", "[I", true)
  | 29 => ("ProofServerModel$Kernel", "what", "[I", true)
  | 30 => ("ProofServerModel$Kernel", "tokens", "I", false)
  | 31 => ("ProofServerModel$Kernel", "loose", "I", false)
  | 32 => ("ProofServerModel$Kernel", "at", "I", false)
  | 33 => ("ProofServerModel$Kernel", "wrong", "Z", false)
  | 34 => ("ProofServerModel$Kernel", "fault", "I", false)
  | 35 => ("ProofServerModel$Kernel", "binder", "[I", true)
  | 36 => ("ProofServerModel$Kernel", "binders", "I", false)
  | 37 => ("ProofServerModel$Kernel", "single", "[I", true)
  | 38 => ("ProofServerModel$Kernel", "name1", "I", false)
  | 39 => ("ProofServerModel$Kernel", "name2", "I", false)
  | 40 => ("ProofServerModel$Kernel", "name3", "I", false)
  | 41 => ("ProofServerModel$Kernel", "digit", "I", false)
  | 42 => ("ProofServerModel$Kernel", "raw", "I", false)
  | 43 => ("ProofServerModel$Kernel", "terms", "[I", true)
  | 44 => ("ProofServerModel$Kernel", "newGoals", "[I", true)
  | 45 => ("ProofServerModel$Kernel", "line", "[I", true)
  | 46 => ("ProofServerModel$Kernel", "lines", "I", false)
  | 47 => ("ProofServerModel$Kernel", "writtenName", "[I", true)
  | 48 => ("ProofServerModel$Kernel", "writtenMarks", "[I", true)
  | _ => ("ProofServerModel$Kernel", "written", "I", false)
def tyX13 : Nat → FieldType := fun k => match k with
  | 0 => .array .int
  | 1 => .array .int
  | 2 => .array .int
  | 3 => .array .int
  | 4 => .array .int
  | 5 => .int
  | 6 => .array .int
  | 7 => .int
  | 8 => .array .int
  | 9 => .array .int
  | 10 => .int
  | 11 => .int
  | 12 => .array .int
  | 13 => .array .boolean
  | 14 => .array .int
  | 15 => .int
  | 16 => .array .int
  | 17 => .array .int
  | 18 => .boolean
  | 19 => .int
  | 20 => .int
  | 21 => .int
  | 22 => .array .int
  | 23 => .array .int
  | 24 => .array .int
  | 25 => .array .int
  | 26 => .array .int
  | 27 => .array .int
  | 28 => .array .int
  | 29 => .array .int
  | 30 => .int
  | 31 => .int
  | 32 => .int
  | 33 => .boolean
  | 34 => .int
  | 35 => .array .int
  | 36 => .int
  | 37 => .array .int
  | 38 => .int
  | 39 => .int
  | 40 => .int
  | 41 => .int
  | 42 => .int
  | 43 => .array .int
  | 44 => .array .int
  | 45 => .array .int
  | 46 => .int
  | 47 => .array .int
  | 48 => .array .int
  | _ => .int
theorem nmX13 : ∀ a, a < 50 → ∀ b, b < 50 → a ≠ b → (TX13 a).2.1 ≠ (TX13 b).2.1 := by decide +kernel
theorem tyX13_ok : ∀ k, k < 50 → parseFieldDescriptor (TX13 k).2.2.1 = some (tyX13 k) := by decide +kernel
def RX14 : String := "ProofServerModel"
def TX14 : u_T := fun k => match k with
  | 0 => ("ProofServerModel", "tape", "[I", true)
  | 1 => ("ProofServerModel", "taped", "I", false)
  | 2 => ("ProofServerModel", "out", "[I", true)
  | 3 => ("ProofServerModel", "outs", "I", false)
  | 4 => ("ProofServerModel", "lost", "I", false)
  | 5 => ("ProofServerModel", "frame", "[I", true)
  | 6 => ("ProofServerModel", "framed", "I", false)
  | 7 => ("ProofServerModel", "broken", "Z", false)
  | 8 => ("ProofServerModel", "messages", "I", false)
  | 9 => ("ProofServerModel", "kept", "[I", true)
  | 10 => ("ProofServerModel", "keptBytes", "I", false)
  | 11 => ("ProofServerModel", "mode", "I", false)
  | 12 => ("ProofServerModel", "headerBytes", "I", false)
  | 13 => ("ProofServerModel", "name", "Ljava/lang/StringBuilder;", true)
  | 14 => ("ProofServerModel", "value", "Ljava/lang/StringBuilder;", true)
  | 15 => ("ProofServerModel", "length", "I", false)
  | 16 => ("ProofServerModel", "bodyFrom", "I", false)
  | 17 => ("ProofServerModel", "sort", "[I", true)
  | 18 => ("ProofServerModel", "heir", "[I", true)
  | 19 => ("ProofServerModel", "next", "[I", true)
  | 20 => ("ProofServerModel", "nameFrom", "[I", true)
  | 21 => ("ProofServerModel", "nameTo", "[I", true)
  | 22 => ("ProofServerModel", "from", "[I", true)
  | 23 => ("ProofServerModel", "to", "[I", true)
  | 24 => ("ProofServerModel", "isInt", "[Z", true)
  | 25 => ("ProofServerModel", "ints", "[I", true)
  | 26 => ("ProofServerModel", "nodes", "I", false)
  | 27 => ("ProofServerModel", "pool", "[I", true)
  | 28 => ("ProofServerModel", "pooled", "I", false)
  | 29 => ("ProofServerModel", "at", "I", false)
  | 30 => ("ProofServerModel", "end", "I", false)
  | 31 => ("ProofServerModel", "bad", "Z", false)
  | 32 => ("ProofServerModel", "stringFrom", "I", false)
  | 33 => ("ProofServerModel", "utfChar", "I", false)
  | 34 => ("ProofServerModel", "initialized", "Z", false)
  | 35 => ("ProofServerModel", "shut", "Z", false)
  | 36 => ("ProofServerModel", "idString", "Z", false)
  | 37 => ("ProofServerModel", "idInt", "I", false)
  | 38 => ("ProofServerModel", "idUnits", "[I", true)
  | 39 => ("ProofServerModel", "idLength", "I", false)
  | 40 => ("ProofServerModel", "idNull", "Z", false)
  | 41 => ("ProofServerModel", "documents", "[LProofServerModel$Document;", true)
  | 42 => ("ProofServerModel", "documentCount", "I", false)
  | 43 => ("ProofServerModel", "changed", "[I", true)
  | 44 => ("ProofServerModel", "changedUnits", "I", false)
  | 45 => ("ProofServerModel", "tail", "[I", true)
  | 46 => ("ProofServerModel", "old", "LProofServerModel$Document;", true)
  | 47 => ("ProofServerModel", "now", "LProofServerModel$Document;", true)
  | 48 => ("ProofServerModel", "waits", "I", false)
  | 49 => ("ProofServerModel", "waitOf", "[LProofServerModel$Document;", true)
  | 50 => ("ProofServerModel", "waitGoals", "[Z", true)
  | 51 => ("ProofServerModel", "waitNeed", "[I", true)
  | 52 => ("ProofServerModel", "waitString", "[Z", true)
  | 53 => ("ProofServerModel", "waitInt", "[I", true)
  | 54 => ("ProofServerModel", "waitUnits", "[I", true)
  | 55 => ("ProofServerModel", "waitLength", "[I", true)
  | 56 => ("ProofServerModel", "waitName", "[I", true)
  | 57 => ("ProofServerModel", "waitNameLength", "[I", true)
  | 58 => ("ProofServerModel", "kernel", "LProofServerModel$Kernel;", true)
  | 59 => ("ProofServerModel", "taken", "[I", true)
  | 60 => ("ProofServerModel", "checkOf", "[LProofServerModel$Document;", true)
  | 61 => ("ProofServerModel", "checkSentence", "[I", true)
  | 62 => ("ProofServerModel", "checkLeft", "[I", true)
  | 63 => ("ProofServerModel", "checkCached", "[Z", true)
  | 64 => ("ProofServerModel", "steps", "I", false)
  | 65 => ("ProofServerModel", "cachedChecks", "I", false)
  | 66 => ("ProofServerModel", "cached", "I", false)
  | 67 => ("ProofServerModel", "cacheUnits", "[I", true)
  | 68 => ("ProofServerModel", "cacheLength", "[I", true)
  | 69 => ("ProofServerModel", "row", "[I", true)
  | 70 => ("ProofServerModel", "rowLength", "I", false)
  | 71 => ("ProofServerModel", "told", "LProofServerModel$Document;", true)
  | 72 => ("ProofServerModel", "toldGoals", "[I", true)
  | _ => ("ProofServerModel", "toldFacts", "[I", true)
def tyX14 : Nat → FieldType := fun k => match k with
  | 0 => .array .int
  | 1 => .int
  | 2 => .array .int
  | 3 => .int
  | 4 => .int
  | 5 => .array .int
  | 6 => .int
  | 7 => .boolean
  | 8 => .int
  | 9 => .array .int
  | 10 => .int
  | 11 => .int
  | 12 => .int
  | 13 => .object "java/lang/StringBuilder"
  | 14 => .object "java/lang/StringBuilder"
  | 15 => .int
  | 16 => .int
  | 17 => .array .int
  | 18 => .array .int
  | 19 => .array .int
  | 20 => .array .int
  | 21 => .array .int
  | 22 => .array .int
  | 23 => .array .int
  | 24 => .array .boolean
  | 25 => .array .int
  | 26 => .int
  | 27 => .array .int
  | 28 => .int
  | 29 => .int
  | 30 => .int
  | 31 => .boolean
  | 32 => .int
  | 33 => .int
  | 34 => .boolean
  | 35 => .boolean
  | 36 => .boolean
  | 37 => .int
  | 38 => .array .int
  | 39 => .int
  | 40 => .boolean
  | 41 => .array (.object "ProofServerModel$Document")
  | 42 => .int
  | 43 => .array .int
  | 44 => .int
  | 45 => .array .int
  | 46 => .object "ProofServerModel$Document"
  | 47 => .object "ProofServerModel$Document"
  | 48 => .int
  | 49 => .array (.object "ProofServerModel$Document")
  | 50 => .array .boolean
  | 51 => .array .int
  | 52 => .array .boolean
  | 53 => .array .int
  | 54 => .array .int
  | 55 => .array .int
  | 56 => .array .int
  | 57 => .array .int
  | 58 => .object "ProofServerModel$Kernel"
  | 59 => .array .int
  | 60 => .array (.object "ProofServerModel$Document")
  | 61 => .array .int
  | 62 => .array .int
  | 63 => .array .boolean
  | 64 => .int
  | 65 => .int
  | 66 => .int
  | 67 => .array .int
  | 68 => .array .int
  | 69 => .array .int
  | 70 => .int
  | 71 => .object "ProofServerModel$Document"
  | 72 => .array .int
  | _ => .array .int
theorem nmX14 : ∀ a, a < 74 → ∀ b, b < 74 → a ≠ b → (TX14 a).2.1 ≠ (TX14 b).2.1 := by decide +kernel
theorem tyX14_ok : ∀ k, k < 74 → parseFieldDescriptor (TX14 k).2.2.1 = some (tyX14 k) := by decide +kernel
def RJ4 : String := "java/lang/StringBuilder"
def TJ4 : u_T := fun k => match k with
  | 0 => ("java/lang/AbstractStringBuilder", "value", "[B", false)
  | 1 => ("java/lang/AbstractStringBuilder", "coder", "B", false)
  | 2 => ("java/lang/AbstractStringBuilder", "maybeLatin1", "Z", false)
  | _ => ("java/lang/AbstractStringBuilder", "count", "I", false)
def RJx4a65c : String := "java/util/ArrayList"
def TJx4a65c : u_T := fun k => match k with
  | 0 => ("java/util/AbstractList", "modCount", "I", false)
  | 1 => ("java/util/ArrayList", "elementData", "[Ljava/lang/Object;", false)
  | _ => ("java/util/ArrayList", "size", "I", false)
abbrev vwCl : List vw_C := [(RJ4, TJ4, 4), (RJx4a65c, TJx4a65c, 3), (RX0, TX0, 2), (RX1, TX1, 17), (RX2, TX2, 12), (RX3, TX3, 4), (RX4, TX4, 12), (RX5, TX5, 11), (RX6, TX6, 4), (RX7, TX7, 5), (RX8, TX8, 5), (RX9, TX9, 9), (RX10, TX10, 11), (RX11, TX11, 19), (RX12, TX12, 11), (RX13, TX13, 50), (RX14, TX14, 74)]

-- ===== the typed heap: a map G gives each address a kind and a length; what the heap holds there is of that kind
abbrev jT : Type := Nat → Option (Nat × Nat)
def jLe (G G1 : jT) : Prop := ∀ a t, G a = some t → G1 a = some t
theorem jLe.rf {G : jT} : jLe G G := fun _ _ h => h
theorem jLe.tr {G G1 G2 : jT} (h : jLe G G1) (h2 : jLe G1 G2) : jLe G G2 := fun a t q => h2 a t (h a t q)
-- the slots of all cells of a heap
def jTot (H : Heap) : Nat := (H.toList.map (·.slots.size)).sum
theorem jTot_same {H H1 : Heap} (hsz : H1.size = H.size) (h : ∀ q : Nat, (H1[q]?).map (·.slots.size) = (H[q]?).map (·.slots.size)) : jTot H1 = jTot H := by
  unfold jTot
  congr 1
  apply List.ext_getElem?
  intro i
  rw [List.getElem?_map, List.getElem?_map, Array.getElem?_toList, Array.getElem?_toList]
  exact h i
theorem jTot_set {H H1 : Heap} {a : Nat} {c c1 : Cell} (hsz : H1.size = H.size) (h1 : H[a]? = some c) (h2 : H1[a]? = some c1) (hs : c1.slots.size = c.slots.size) (ho : ∀ q, q ≠ a → H1[q]? = H[q]?) : jTot H1 = jTot H := by
  refine jTot_same hsz (fun q => ?_)
  by_cases e : q = a
  · rw [e, h1, h2]; simp [hs]
  · rw [ho q e]
theorem jTot_push {H H1 : Heap} {c : Cell} (hsz : H1.size = H.size + 1) (h1 : H1[H.size]? = some c) (ho : ∀ q, q < H.size → H1[q]? = H[q]?) : jTot H1 = jTot H + c.slots.size := by
  have e : H1.toList = H.toList ++ [c] := by
    apply List.ext_getElem?
    intro i
    rw [Array.getElem?_toList]
    by_cases hi : i < H.size
    · rw [ho i hi, List.getElem?_append_left (by simpa using hi), Array.getElem?_toList]
    · by_cases he : i = H.size
      · rw [he, h1, List.getElem?_append_right (by simp)]
        simp
      · rw [Array.getElem?_eq_none (by omega), List.getElem?_eq_none (by simp; omega)]
  unfold jTot
  rw [e, List.map_append, List.sum_append]
  simp
theorem jSet_sz (c : Cell) (i : Nat) (v : Value) : (c.setSlot i v).slots.size = c.slots.size := by simp [Cell.setSlot]
section JR
variable {p : Program} {l : Launch} {e : Env} {R : Room} {s : State} {m : MethodId} {args : Array Value} {below : List Frame} {meth : Method} {c : Code} {H : Heap} {locs : List Loc} {cells slots : Nat} {Q : State → Prop}
variable {cc : ByteArray} {pc : Nat} {ls : Array Slot} {rest : List Value} {D : va_G} {cl : List vw_C} {A : Nat → Prop} {a : Nat} {tys : List (ClassId × FieldType)}
theorem jp_one {q : Nat × va_E} (h : va_at D cl q H) : va_P D cl [q] H := by
  intro k r hr
  match k, hr with
  | 0, hr => cases hr; exact h
  | k + 1, hr => simp at hr
theorem j_put (hexec : p.tables.exec = Jvm.exec) (hb : c.code = cc) {own ref C : String} {T : u_T} {N ci index : Nat} {Ts : List Cond} (hts : ∀ w ∈ Ts, w.before args s = true) (hin : ∀ w ∈ u_ws C T N, w ∈ Ts) (ty0 : Nat → FieldType) (hty : ∀ k, k < N → parseFieldDescriptor (T k).2.2.1 = some (ty0 k)) (hnm : ∀ a, a < N → ∀ b, b < N → a ≠ b → (T a).2.1 ≠ (T b).2.1) (hown : s.vm.findClass own = some m.cls) (hK : va_K D cl tys s) {fs : List Value} (hat : va_at D cl (a, .inr (ci, fs)) H) (hA : A a) (hL : ∀ q ∈ locs, A q.base) (hc : cl[ci]? = some (C, T, N)) (k : Nat) (hk : k < N) (hlink : (Cond.fieldLink own index ref (T k).2.1 (T k).2.2.1).before args s = true) (hsame : ∀ x, s.fieldFound? (T k).1 (T k).2.1 (T k).2.2.1 = some x → s.fieldFound? ref (T k).2.1 (T k).2.2.1 = some x) (hfin : (T k).2.2.2 = false) {ty : FieldType} {v : Value} (hd : parseFieldDescriptor (T k).2.2.1 = some ty) (hn : narrow ty v = v) (hfit : fits ty v = true) (hl : k < fs.length)
    (hdg : decode cc pc = .ok (.putfield index, 3)) (kk : ∀ (H1 : Heap) (locs1 : List Loc), va_at D cl (a, .inr (ci, fs.set k v)) H1 → H1.size = H.size → (∀ q, q ≠ a → H1[q]? = H[q]?) → jTot H1 = jTot H → (∀ q ∈ locs1, A q.base) → W p l e R s m args below meth c H1 locs1 cells slots Q (F0 m (pc + 3) ls rest)) : W p l e R s m args below meth c H locs cells slots Q (F0 m pc ls (v :: .ref a :: rest)) := by
  have hap := va_apart (own := own) hts hin ty0 hty hnm hK hc
  obtain ⟨r, h1, cell, q1, q2, q3, q4⟩ := hat
  have hr : r = (C, T, N) := Option.some.inj (h1.symm.trans hc)
  subst hr
  obtain ⟨hS, hfc, kC, hkC, hkind⟩ := hK.1 ci _ hc
  obtain ⟨cf, kf, fi, f, hi, hsl⟩ := hS k hk
  have hlay := hts _ (hin _ (u_in_lay hk))
  unfold u_lay at hlay
  rw [if_neg (by rw [hfin]; decide)] at hlay
  have hst := (u_facts hfc hkC (u_lays hts hin hk) hi).1
  have h6 := u_store hfc hkC hkind hlay hi hd hn hfit
  refine W.putK hexec hb (f := f) ⟨hown, hlink, ⟨_, _, _, hsame _ hi⟩, hst⟩ (by rw [q2]; exact h6) q1 q3 (by rw [hsl]; exact k2_hasslot (q4 k hk)) rfl rfl hdg fun H1 e1 e2 e3 => ?_
  rw [hsl] at e1 ⊢
  refine kk H1 _ ⟨_, hc, t_OB.to (V := updV (vp_V fs) k v) ⟨_, e1, q2, q3, t_set q4 hap hk v⟩ (fun j _ => vp_updV_set hl v j)⟩ e2 e3 (jTot_set e2 q1 e1 (jSet_sz _ _ _) e3) ?_
  intro q hq
  rcases List.mem_append.mp hq with h | h
  · exact hL q h
  · cases List.mem_singleton.mp h; exact hA
theorem j_bast (hexec : p.tables.exec = Jvm.exec) (hb : c.code = cc) (hK : va_K D cl tys s) (t0 : Nat) {cA : ClassId} {n : Nat} {f : Nat → Int32} (hat : va_at D cl (a, .inl (cA, n, .inl f)) H) (hA : A a) (hL : ∀ q ∈ locs, A q.base) (ht : tys[t0]? = some (cA, .byte)) {i : Int32} {x : Int32} (hin : vp_in i n) (hdg : decode cc pc = .ok (.bastore, 1))
    (kk : ∀ (H1 : Heap) (locs1 : List Loc) (f1 : Nat → Int32), (sb_Fit f → sb_Fit f1) → va_at D cl (a, .inl (cA, n, .inl f1)) H1 → H1.size = H.size → (∀ q, q ≠ a → H1[q]? = H[q]?) → jTot H1 = jTot H → (∀ q ∈ locs1, A q.base) → W p l e R s m args below meth c H1 locs1 cells slots Q (F0 m (pc + 1) ls rest)) : W p l e R s m args below meth c H locs cells slots Q (F0 m pc ls (.int x :: .int i :: .ref a :: rest)) := by
  refine W.bast hexec hb hat ((hK.2 t0 _ ht).1 n (fun j => .int (f j))) (fun q => by cases q) (by show ¬ (i < 0 ∨ (arrV _ _ _).slots.size ≤ _); rw [arrV_size]; exact hin) rfl rfl hdg fun H1 e z oq => ?_
  refine kk H1 _ (upd f i.toNatClampNeg (vp_nar .byte x)) (fun h => sb_fitU h (by rw [vp_nar_byte]; exact pk_fb x)) ?_ z oq (jTot_set z hat e (jSet_sz _ _ _) oq) ?_
  · show H1[a]? = some (vp_cell _ _)
    rw [e]
    rw [vp_cell_i, vp_cell_i, arrV_store]
    congr 2
    funext q
    by_cases hq : q = i.toNatClampNeg
    · subst hq
      simp [updV, upd, vp_nar]
      try rfl
    · simp [updV, upd, hq]
  · intro q hq
    rcases List.mem_append.mp hq with h | h
    · exact hL q h
    · cases List.mem_singleton.mp h; exact hA
theorem j_iast (hexec : p.tables.exec = Jvm.exec) (hb : c.code = cc) (hK : va_K D cl tys s) (t0 : Nat) {cA : ClassId} {n : Nat} {f : Nat → Int32} (hat : va_at D cl (a, .inl (cA, n, .inl f)) H) (hA : A a) (hL : ∀ q ∈ locs, A q.base) (ht : tys[t0]? = some (cA, .int)) {i : Int32} {x : Int32} (hin : vp_in i n) (hdg : decode cc pc = .ok (.iastore, 1))
    (kk : ∀ (H1 : Heap) (locs1 : List Loc), va_at D cl (a, .inl (cA, n, .inl (upd f i.toNatClampNeg x))) H1 → H1.size = H.size → (∀ q, q ≠ a → H1[q]? = H[q]?) → jTot H1 = jTot H → (∀ q ∈ locs1, A q.base) → W p l e R s m args below meth c H1 locs1 cells slots Q (F0 m (pc + 1) ls rest)) : W p l e R s m args below meth c H locs cells slots Q (F0 m pc ls (.int x :: .int i :: .ref a :: rest)) := by
  refine W.iast hexec hb hat ((hK.2 t0 _ ht).1 n (fun j => .int (f j))) (fun q => by cases q) (by show ¬ (i < 0 ∨ (arrV _ _ _).slots.size ≤ _); rw [arrV_size]; exact hin) rfl rfl hdg fun H1 e z oq => ?_
  refine kk H1 _ ?_ z oq (jTot_set z hat e (jSet_sz _ _ _) oq) ?_
  · show H1[a]? = some (vp_cell _ _)
    rw [e]
    rw [vp_cell_i, vp_cell_i, arrV_store]
    congr 2
    funext q
    by_cases hq : q = i.toNatClampNeg
    · subst hq
      simp [updV, upd]
    · simp [updV, upd, hq]
  · intro q hq
    rcases List.mem_append.mp hq with h | h
    · exact hL q h
    · cases List.mem_singleton.mp h; exact hA
theorem j_newi (hexec : p.tables.exec = Jvm.exec) (hb : c.code = cc) {atype : ArrayType} {ty : FieldType} (harr : (Cond.arrayClass ty).before args s = true) (hty : newarray.typeOf atype = ty) (hd : defaultValue ty = .int 0) (hra : ∀ cA, va_RA s cA ty → s.vm.findClass ("[" ++ ty.toString) = some cA) (hK : va_K D cl tys s) (t0 : Nat) {cA : ClassId} (ht : tys[t0]? = some (cA, ty))
    {n : Int32} {N' : Nat} (hn : ¬ n < 0) (hN : n.toNatClampNeg = N') (hbytes : N' * componentBytes ty ≤ 536870912) (hcells : cells + 1 ≤ R.cells) (hslots : slots + N' ≤ R.slots) (hdg : decode cc pc = .ok (.newarray atype, 2))
    (kk : ∀ H1 : Heap, va_at D cl (H.size, .inl (cA, N', .inl (fun _ => 0))) H1 → H1.size = H.size + 1 → (∀ q, q < H.size → H1[q]? = H[q]?) → jTot H1 = jTot H + N' → W p l e R s m args below meth c H1 locs (cells + 1) (slots + N') Q (F0 m (pc + 2) ls (.ref H.size :: rest))) : W p l e R s m args below meth c H locs cells slots Q (F0 m pc ls (.int n :: rest)) := by
  subst hty
  refine va_newaK hexec hb harr rfl hdg rfl hn hN hbytes hcells hslots rfl fun H1 cB e1 z1 o1 hAr hNm => ?_
  have hc : cB = cA := Option.some.inj (hNm.symm.trans (hra _ (hK.2 t0 _ ht).2))
  subst hc
  have e2 : va_at D cl (H.size, .inl (cB, N', .inl (fun _ => 0))) H1 := by
    show H1[H.size]? = some (vp_cell _ _)
    rw [e1, vp_cell_i, hd]
  refine kk H1 e2 z1 o1 ?_
  rw [jTot_push z1 e1 o1, arrV_size]
theorem j_new (hexec : p.tables.exec = Jvm.exec) (hb : c.code = cc) {own C : String} {T : u_T} {N ci index : Nat} {Ts : List Cond} (hts : ∀ w ∈ Ts, w.before args s = true) (hin : ∀ w ∈ u_ws C T N, w ∈ Ts) (ty : Nat → FieldType) (hty : ∀ k, k < N → parseFieldDescriptor (T k).2.2.1 = some (ty k)) (hown : s.vm.findClass own = some m.cls) (hcl : (Cond.classLink own index C).before args s = true) (hinst : (Cond.instantiable C N).before args s = true) (hini : (Cond.initialized C).before args s = true)
    (hK : va_K D cl tys s) (hc : cl[ci]? = some (C, T, N)) {fs : List Value} (hfs : ∀ j, j < N → defaultValue (ty j) = vp_V fs j) (hcells : cells + 1 ≤ R.cells) (hslots : slots + N ≤ R.slots) (hdg : decode cc pc = .ok (.new index, 3))
    (kk : ∀ H1 : Heap, va_at D cl (H.size, .inr (ci, fs)) H1 → H1.size = H.size + 1 → (∀ q, q < H.size → H1[q]? = H[q]?) → jTot H1 = jTot H + N → W p l e R s m args below meth c H1 locs (cells + 1) (slots + N) Q (F0 m (pc + 3) ls (.ref H.size :: rest))) : W p l e R s m args below meth c H locs cells slots Q (F0 m pc ls rest) := by
  have hKn := hK.1 ci _ hc
  refine W.newc hexec hb hown hcl hinst hini rfl hdg hcells hslots fun cC kC g1 g2 g3 g4 => ?_
  have hcc : cC = D.1 ci := Option.some.inj (g1.symm.trans hKn.2.1)
  subst hcc
  have e1 : (H.push ({ cls := D.1 ci, slots := kC.instanceTypes.map defaultValue, vm := .none } : Cell))[H.size]? = some (blank (D.1 ci) kC) := by simp [blank]
  refine kk _ ⟨_, hc, (u_born ty hts hin hKn g2 e1 hty).to hfs⟩ (by simp) (fun q hq => by rw [Array.getElem?_push, if_neg (Nat.ne_of_lt hq)]) ?_
  rw [jTot_push (by simp) e1 (fun q hq => by rw [Array.getElem?_push, if_neg (Nat.ne_of_lt hq)])]
  simp [blank, g4]
end JR
