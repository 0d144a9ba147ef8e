section
-- numbers: what a comparison, a sum, a mask says of the numbers as Ints
theorem jb_lt {x y : Int32} {a b : Int} (hx : x.toInt = a) (hy : y.toInt = b) (h : x < y) : a < b := by rw [← hx, ← hy]; exact Int32.lt_iff_toInt_lt.mp h
theorem jb_le {x y : Int32} {a b : Int} (hx : x.toInt = a) (hy : y.toInt = b) (h : x ≤ y) : a ≤ b := by rw [← hx, ← hy]; exact Int32.le_iff_toInt_le.mp h
theorem jb_lt_n {x y : Int32} {a b : Int} (hx : x.toInt = a) (hy : y.toInt = b) (h : ¬ x < y) : a ≥ b := by
  have h1 : ¬ x.toInt < y.toInt := fun q => h (Int32.lt_iff_toInt_lt.mpr q)
  omega
theorem jb_le_n {x y : Int32} {a b : Int} (hx : x.toInt = a) (hy : y.toInt = b) (h : ¬ x ≤ y) : a > b := by
  have h1 : ¬ x.toInt ≤ y.toInt := fun q => h (Int32.le_iff_toInt_le.mpr q)
  omega
theorem jb_ge {x y : Int32} {a b : Int} (hx : x.toInt = a) (hy : y.toInt = b) (h : y ≤ x) : a ≥ b := jb_le hy hx h
theorem jb_ge_n {x y : Int32} {a b : Int} (hx : x.toInt = a) (hy : y.toInt = b) (h : ¬ y ≤ x) : a < b := jb_le_n hy hx h
theorem jb_eq {x y : Int32} {a b : Int} (hx : x.toInt = a) (hy : y.toInt = b) (h : x = y) : a = b := by rw [← hx, ← hy, h]
theorem jb_eq_n {x y : Int32} {a b : Int} (hx : x.toInt = a) (hy : y.toInt = b) (h : ¬ x = y) : a ≠ b := by
  intro q
  exact h (Int32.toInt_inj.mp (by rw [hx, hy, q]))
theorem jb_ne {x y : Int32} {a b : Int} (hx : x.toInt = a) (hy : y.toInt = b) (h : ¬ x = y) : a ≠ b := jb_eq_n hx hy h
theorem jb_ne_n {x y : Int32} {a b : Int} (hx : x.toInt = a) (hy : y.toInt = b) (h : x = y) : a = b := jb_eq hx hy h
theorem jb_bm {z : Int} (h1 : -2147483648 ≤ z) (h2 : z ≤ 2147483647) : z.bmod (2 ^ 32) = z := by
  rw [Int.bmod_eq_of_le] <;> omega
theorem jb_iadd {x y : Int32} {a b : Int} (hx : x.toInt = a) (hy : y.toInt = b) (h1 : -2147483648 ≤ a + b) (h2 : a + b ≤ 2147483647) : (x + y).toInt = a + b := by
  rw [Int32.toInt_add, hx, hy]; exact jb_bm h1 h2
theorem jb_isub {x y : Int32} {a b : Int} (hx : x.toInt = a) (hy : y.toInt = b) (h1 : -2147483648 ≤ a - b) (h2 : a - b ≤ 2147483647) : (x - y).toInt = a - b := by
  rw [Int32.toInt_sub, hx, hy]; exact jb_bm h1 h2
theorem jb_rng (x : Int32) : -2147483648 ≤ x.toInt ∧ x.toInt ≤ 2147483647 := ⟨Int32.le_toInt x, Int32.toInt_le x⟩
theorem jb_in {i : Int32} {a : Int} {n : Nat} (hi : i.toInt = a) (h1 : 0 ≤ a) (h2 : a < n) : vp_in i n := vp_in_iff.mpr ⟨by omega, by omega⟩
theorem jb_nz {v : Int32} (h : v = 0 ∨ v = 1) : narrow .boolean (.int v) = .int v := by
  rcases h with rfl | rfl <;> rfl
end
section
def RX0 : String := "ProofServer$Bytes"
def TX0 : u_T := fun k => match k with
  | 0 => ("ProofServer$Bytes", "row", "[B", false)
  | _ => ("ProofServer$Bytes", "count", "I", false)
def RX1 : String := "ProofServer$Document"
def TX1 : u_T := fun k => match k with
  | 0 => ("ProofServer$Document", "uri", "[I", false)
  | 1 => ("ProofServer$Document", "version", "I", false)
  | 2 => ("ProofServer$Document", "text", "[I", true)
  | 3 => ("ProofServer$Document", "length", "I", false)
  | 4 => ("ProofServer$Document", "sentences", "I", false)
  | 5 => ("ProofServer$Document", "starts", "[I", true)
  | 6 => ("ProofServer$Document", "ends", "[I", true)
  | 7 => ("ProofServer$Document", "costs", "[I", true)
  | 8 => ("ProofServer$Document", "early", "[I", true)
  | 9 => ("ProofServer$Document", "behind", "[LProofServer$State;", true)
  | 10 => ("ProofServer$Document", "checked", "I", false)
  | 11 => ("ProofServer$Document", "checking", "[I", false)
  | 12 => ("ProofServer$Document", "found", "LProofServer$State;", false)
  | 13 => ("ProofServer$Document", "left", "I", false)
  | 14 => ("ProofServer$Document", "line", "I", false)
  | 15 => ("ProofServer$Document", "lineStart", "I", false)
  | _ => ("ProofServer$Document", "cursor", "I", false)
def RX2 : String := "ProofServer$Frames"
def TX2 : u_T := fun k => match k with
  | 0 => ("ProofServer$Frames", "body", "[B", true)
  | 1 => ("ProofServer$Frames", "length", "I", false)
  | 2 => ("ProofServer$Frames", "kept", "I", false)
  | 3 => ("ProofServer$Frames", "messages", "I", false)
  | 4 => ("ProofServer$Frames", "broken", "Z", false)
  | 5 => ("ProofServer$Frames", "place", "I", false)
  | 6 => ("ProofServer$Frames", "told", "I", false)
  | 7 => ("ProofServer$Frames", "filled", "I", false)
  | 8 => ("ProofServer$Frames", "signs", "I", false)
  | 9 => ("ProofServer$Frames", "isLengthName", "Z", false)
  | 10 => ("ProofServer$Frames", "digits", "I", false)
  | _ => ("ProofServer$Frames", "value", "I", false)
def RX3 : String := "ProofServer$Goal"
def TX3 : u_T := fun k => match k with
  | 0 => ("ProofServer$Goal", "variables", "[I", true)
  | 1 => ("ProofServer$Goal", "names", "[I", true)
  | 2 => ("ProofServer$Goal", "hypotheses", "[[I", true)
  | _ => ("ProofServer$Goal", "formula", "[I", true)
def RX4 : String := "ProofServer$Json"
def TX4 : u_T := fun k => match k with
  | 0 => ("ProofServer$Json", "kinds", "[I", true)
  | 1 => ("ProofServer$Json", "firsts", "[I", true)
  | 2 => ("ProofServer$Json", "sizes", "[I", true)
  | 3 => ("ProofServer$Json", "nexts", "[I", true)
  | 4 => ("ProofServer$Json", "keyFirsts", "[I", true)
  | 5 => ("ProofServer$Json", "keySizes", "[I", true)
  | 6 => ("ProofServer$Json", "units", "[I", true)
  | 7 => ("ProofServer$Json", "values", "I", false)
  | 8 => ("ProofServer$Json", "unitCount", "I", false)
  | 9 => ("ProofServer$Json", "bytes", "[B", false)
  | 10 => ("ProofServer$Json", "end", "I", false)
  | _ => ("ProofServer$Json", "at", "I", false)
def RX5 : String := "ProofServer$Kernel"
def TX5 : u_T := fun k => match k with
  | 0 => ("ProofServer$Kernel", "names", "LProofServer$Names;", true)
  | 1 => ("ProofServer$Kernel", "syntax", "LProofServer$Syntax;", true)
  | 2 => ("ProofServer$Kernel", "start", "LProofServer$State;", true)
  | 3 => ("ProofServer$Kernel", "scopeNames", "[I", true)
  | 4 => ("ProofServer$Kernel", "scopeEnds", "[I", true)
  | 5 => ("ProofServer$Kernel", "source", "[I", false)
  | 6 => ("ProofServer$Kernel", "termFrom", "[I", true)
  | 7 => ("ProofServer$Kernel", "termSize", "[I", true)
  | 8 => ("ProofServer$Kernel", "single", "[I", true)
  | 9 => ("ProofServer$Kernel", "fresh", "[LProofServer$Goal;", true)
  | _ => ("ProofServer$Kernel", "freshCount", "I", false)
def RX6 : String := "ProofServer$Names"
def TX6 : u_T := fun k => match k with
  | 0 => ("ProofServer$Names", "stems", "[J", true)
  | 1 => ("ProofServer$Names", "primes", "[I", true)
  | 2 => ("ProofServer$Names", "slots", "[I", true)
  | _ => ("ProofServer$Names", "count", "I", false)
def RX7 : String := "ProofServer$Printer"
def TX7 : u_T := fun k => match k with
  | 0 => ("ProofServer$Printer", "names", "LProofServer$Names;", true)
  | 1 => ("ProofServer$Printer", "stack", "[I", true)
  | 2 => ("ProofServer$Printer", "height", "I", false)
  | 3 => ("ProofServer$Printer", "boundNames", "[I", true)
  | _ => ("ProofServer$Printer", "boundMore", "[I", true)
def RX8 : String := "ProofServer$Request"
def TX8 : u_T := fun k => match k with
  | 0 => ("ProofServer$Request", "id", "LProofServer$Bytes;", true)
  | 1 => ("ProofServer$Request", "about", "LProofServer$Document;", false)
  | 2 => ("ProofServer$Request", "needed", "I", false)
  | 3 => ("ProofServer$Request", "isStatement", "Z", false)
  | _ => ("ProofServer$Request", "name", "I", false)
def RX9 : String := "ProofServer$State"
def TX9 : u_T := fun k => match k with
  | 0 => ("ProofServer$State", "ahead", "LProofServer$State;", true)
  | 1 => ("ProofServer$State", "units", "[I", true)
  | 2 => ("ProofServer$State", "fault", "I", false)
  | 3 => ("ProofServer$State", "symbols", "[I", false)
  | 4 => ("ProofServer$State", "factNames", "[I", false)
  | 5 => ("ProofServer$State", "facts", "[[I", false)
  | 6 => ("ProofServer$State", "lemma", "I", false)
  | 7 => ("ProofServer$State", "statement", "[I", false)
  | _ => ("ProofServer$State", "goals", "[LProofServer$Goal;", false)
def RX10 : String := "ProofServer$Syntax"
def TX10 : u_T := fun k => match k with
  | 0 => ("ProofServer$Syntax", "names", "LProofServer$Names;", true)
  | 1 => ("ProofServer$Syntax", "kinds", "[I", true)
  | 2 => ("ProofServer$Syntax", "values", "[I", true)
  | 3 => ("ProofServer$Syntax", "tokens", "I", false)
  | 4 => ("ProofServer$Syntax", "at", "I", false)
  | 5 => ("ProofServer$Syntax", "word", "I", false)
  | 6 => ("ProofServer$Syntax", "told", "[I", true)
  | 7 => ("ProofServer$Syntax", "toldCount", "I", false)
  | 8 => ("ProofServer$Syntax", "terms", "I", false)
  | 9 => ("ProofServer$Syntax", "nodes", "[I", true)
  | _ => ("ProofServer$Syntax", "nodeCount", "I", false)
def RX11 : String := "ProofServer"
def TX11 : u_T := fun k => match k with
  | 0 => ("ProofServer", "tape", "LProofServer$Bytes;", true)
  | 1 => ("ProofServer", "frames", "LProofServer$Frames;", true)
  | 2 => ("ProofServer", "json", "LProofServer$Json;", true)
  | 3 => ("ProofServer", "output", "LProofServer$Bytes;", true)
  | 4 => ("ProofServer", "body", "LProofServer$Bytes;", true)
  | 5 => ("ProofServer", "kernel", "LProofServer$Kernel;", true)
  | 6 => ("ProofServer", "printer", "LProofServer$Printer;", true)
  | 7 => ("ProofServer", "open", "Ljava/util/List;", true)
  | 8 => ("ProofServer", "waiting", "Ljava/util/List;", true)
  | 9 => ("ProofServer", "cache", "Ljava/util/List;", true)
  | 10 => ("ProofServer", "hands", "[LProofServer$Document;", true)
  | 11 => ("ProofServer", "phase", "I", false)
  | 12 => ("ProofServer", "steps", "I", false)
  | 13 => ("ProofServer", "reused", "I", false)
  | 14 => ("ProofServer", "lost", "I", false)
  | 15 => ("ProofServer", "spare", "LProofServer$Document;", false)
  | 16 => ("ProofServer", "latest", "LProofServer$Document;", false)
  | 17 => ("ProofServer", "shown", "LProofServer$Bytes;", true)
  | _ => ("ProofServer", "shownOf", "I", false)
def RX12 : String := "ProofServerModel$Document"
def TX12 : u_T := fun k => match k with
  | 0 => ("ProofServerModel$Document", "uri", "[I", true)
  | 1 => ("ProofServerModel$Document", "uriLength", "I", false)
  | 2 => ("ProofServerModel$Document", "version", "I", false)
  | 3 => ("ProofServerModel$Document", "text", "[I", true)
  | 4 => ("ProofServerModel$Document", "units", "I", false)
  | 5 => ("ProofServerModel$Document", "sentences", "I", false)
  | 6 => ("ProofServerModel$Document", "begin", "[I", true)
  | 7 => ("ProofServerModel$Document", "end", "[I", true)
  | 8 => ("ProofServerModel$Document", "flaw", "[I", true)
  | 9 => ("ProofServerModel$Document", "checked", "I", false)
  | _ => ("ProofServerModel$Document", "fault", "[I", true)
def RX13 : String := "ProofServerModel$Kernel"
def TX13 : u_T := fun k => match k with
  | 0 => ("ProofServerModel$Kernel", "sort", "[I", true)
  | 1 => ("ProofServerModel$Kernel", "name", "[I", true)
  | 2 => ("ProofServerModel$Kernel", "one", "[I", true)
  | 3 => ("ProofServerModel$Kernel", "two", "[I", true)
  | 4 => ("ProofServerModel$Kernel", "three", "[I", true)
  | 5 => ("ProofServerModel$Kernel", "nodes", "I", false)
  | 6 => ("ProofServerModel$Kernel", "signs", "[I", true)
  | 7 => ("ProofServerModel$Kernel", "signCount", "I", false)
  | 8 => ("ProofServerModel$Kernel", "nameAt", "[I", true)
  | 9 => ("ProofServerModel$Kernel", "nameLength", "[I", true)
  | 10 => ("ProofServerModel$Kernel", "nameCount", "I", false)
  | 11 => ("ProofServerModel$Kernel", "symbols", "I", false)
  | 12 => ("ProofServerModel$Kernel", "symbol", "[I", true)
  | 13 => ("ProofServerModel$Kernel", "predicate", "[Z", true)
  | 14 => ("ProofServerModel$Kernel", "arity", "[I", true)
  | 15 => ("ProofServerModel$Kernel", "facts", "I", false)
  | 16 => ("ProofServerModel$Kernel", "factName", "[I", true)
  | 17 => ("ProofServerModel$Kernel", "fact", "[I", true)
  | 18 => ("ProofServerModel$Kernel", "proof", "Z", false)
  | 19 => ("ProofServerModel$Kernel", "lemmaName", "I", false)
  | 20 => ("ProofServerModel$Kernel", "lemma", "I", false)
  | 21 => ("ProofServerModel$Kernel", "goals", "I", false)
  | 22 => ("ProofServerModel$Kernel", "goal", "[I", true)
  | 23 => ("ProofServerModel$Kernel", "vars", "[I", true)
  | 24 => ("ProofServerModel$Kernel", "varName", "[I", true)
  | 25 => ("ProofServerModel$Kernel", "hyps", "[I", true)
  | 26 => ("ProofServerModel$Kernel", "hypName", "[I", true)
  | 27 => ("ProofServerModel$Kernel", "hyp", "[I", true)
  | 28 => ("ProofServerModel$Kernel", "kind", "[I", true)
  | 29 => ("ProofServerModel$Kernel", "what", "[I", true)
  | 30 => ("ProofServerModel$Kernel", "tokens", "I", false)
  | 31 => ("ProofServerModel$Kernel", "loose", "I", false)
  | 32 => ("ProofServerModel$Kernel", "at", "I", false)
  | 33 => ("ProofServerModel$Kernel", "wrong", "Z", false)
  | 34 => ("ProofServerModel$Kernel", "fault", "I", false)
  | 35 => ("ProofServerModel$Kernel", "binder", "[I", true)
  | 36 => ("ProofServerModel$Kernel", "binders", "I", false)
  | 37 => ("ProofServerModel$Kernel", "single", "[I", true)
  | 38 => ("ProofServerModel$Kernel", "name1", "I", false)
  | 39 => ("ProofServerModel$Kernel", "name2", "I", false)
  | 40 => ("ProofServerModel$Kernel", "name3", "I", false)
  | 41 => ("ProofServerModel$Kernel", "digit", "I", false)
  | 42 => ("ProofServerModel$Kernel", "raw", "I", false)
  | 43 => ("ProofServerModel$Kernel", "terms", "[I", true)
  | 44 => ("ProofServerModel$Kernel", "newGoals", "[I", true)
  | 45 => ("ProofServerModel$Kernel", "line", "[I", true)
  | 46 => ("ProofServerModel$Kernel", "lines", "I", false)
  | 47 => ("ProofServerModel$Kernel", "writtenName", "[I", true)
  | 48 => ("ProofServerModel$Kernel", "writtenMarks", "[I", true)
  | _ => ("ProofServerModel$Kernel", "written", "I", false)
def RX14 : String := "ProofServerModel"
def TX14 : u_T := fun k => match k with
  | 0 => ("ProofServerModel", "tape", "[I", true)
  | 1 => ("ProofServerModel", "taped", "I", false)
  | 2 => ("ProofServerModel", "out", "[I", true)
  | 3 => ("ProofServerModel", "outs", "I", false)
  | 4 => ("ProofServerModel", "lost", "I", false)
  | 5 => ("ProofServerModel", "frame", "[I", true)
  | 6 => ("ProofServerModel", "framed", "I", false)
  | 7 => ("ProofServerModel", "broken", "Z", false)
  | 8 => ("ProofServerModel", "messages", "I", false)
  | 9 => ("ProofServerModel", "kept", "[I", true)
  | 10 => ("ProofServerModel", "keptBytes", "I", false)
  | 11 => ("ProofServerModel", "mode", "I", false)
  | 12 => ("ProofServerModel", "headerBytes", "I", false)
  | 13 => ("ProofServerModel", "name", "Ljava/lang/StringBuilder;", true)
  | 14 => ("ProofServerModel", "value", "Ljava/lang/StringBuilder;", true)
  | 15 => ("ProofServerModel", "length", "I", false)
  | 16 => ("ProofServerModel", "bodyFrom", "I", false)
  | 17 => ("ProofServerModel", "sort", "[I", true)
  | 18 => ("ProofServerModel", "heir", "[I", true)
  | 19 => ("ProofServerModel", "next", "[I", true)
  | 20 => ("ProofServerModel", "nameFrom", "[I", true)
  | 21 => ("ProofServerModel", "nameTo", "[I", true)
  | 22 => ("ProofServerModel", "from", "[I", true)
  | 23 => ("ProofServerModel", "to", "[I", true)
  | 24 => ("ProofServerModel", "isInt", "[Z", true)
  | 25 => ("ProofServerModel", "ints", "[I", true)
  | 26 => ("ProofServerModel", "nodes", "I", false)
  | 27 => ("ProofServerModel", "pool", "[I", true)
  | 28 => ("ProofServerModel", "pooled", "I", false)
  | 29 => ("ProofServerModel", "at", "I", false)
  | 30 => ("ProofServerModel", "end", "I", false)
  | 31 => ("ProofServerModel", "bad", "Z", false)
  | 32 => ("ProofServerModel", "stringFrom", "I", false)
  | 33 => ("ProofServerModel", "utfChar", "I", false)
  | 34 => ("ProofServerModel", "initialized", "Z", false)
  | 35 => ("ProofServerModel", "shut", "Z", false)
  | 36 => ("ProofServerModel", "idString", "Z", false)
  | 37 => ("ProofServerModel", "idInt", "I", false)
  | 38 => ("ProofServerModel", "idUnits", "[I", true)
  | 39 => ("ProofServerModel", "idLength", "I", false)
  | 40 => ("ProofServerModel", "idNull", "Z", false)
  | 41 => ("ProofServerModel", "documents", "[LProofServerModel$Document;", true)
  | 42 => ("ProofServerModel", "documentCount", "I", false)
  | 43 => ("ProofServerModel", "changed", "[I", true)
  | 44 => ("ProofServerModel", "changedUnits", "I", false)
  | 45 => ("ProofServerModel", "tail", "[I", true)
  | 46 => ("ProofServerModel", "old", "LProofServerModel$Document;", true)
  | 47 => ("ProofServerModel", "now", "LProofServerModel$Document;", true)
  | 48 => ("ProofServerModel", "waits", "I", false)
  | 49 => ("ProofServerModel", "waitOf", "[LProofServerModel$Document;", true)
  | 50 => ("ProofServerModel", "waitGoals", "[Z", true)
  | 51 => ("ProofServerModel", "waitNeed", "[I", true)
  | 52 => ("ProofServerModel", "waitString", "[Z", true)
  | 53 => ("ProofServerModel", "waitInt", "[I", true)
  | 54 => ("ProofServerModel", "waitUnits", "[I", true)
  | 55 => ("ProofServerModel", "waitLength", "[I", true)
  | 56 => ("ProofServerModel", "waitName", "[I", true)
  | 57 => ("ProofServerModel", "waitNameLength", "[I", true)
  | 58 => ("ProofServerModel", "kernel", "LProofServerModel$Kernel;", true)
  | 59 => ("ProofServerModel", "taken", "[I", true)
  | 60 => ("ProofServerModel", "checkOf", "[LProofServerModel$Document;", true)
  | 61 => ("ProofServerModel", "checkSentence", "[I", true)
  | 62 => ("ProofServerModel", "checkLeft", "[I", true)
  | 63 => ("ProofServerModel", "checkCached", "[Z", true)
  | 64 => ("ProofServerModel", "steps", "I", false)
  | 65 => ("ProofServerModel", "cachedChecks", "I", false)
  | 66 => ("ProofServerModel", "cached", "I", false)
  | 67 => ("ProofServerModel", "cacheUnits", "[I", true)
  | 68 => ("ProofServerModel", "cacheLength", "[I", true)
  | 69 => ("ProofServerModel", "row", "[I", true)
  | 70 => ("ProofServerModel", "rowLength", "I", false)
  | 71 => ("ProofServerModel", "told", "LProofServerModel$Document;", true)
  | 72 => ("ProofServerModel", "toldGoals", "[I", true)
  | _ => ("ProofServerModel", "toldFacts", "[I", true)
def RJ4 : String := "java/lang/StringBuilder"
def TJ4 : u_T := fun k => match k with
  | 0 => ("java/lang/AbstractStringBuilder", "value", "[B", false)
  | 1 => ("java/lang/AbstractStringBuilder", "coder", "B", false)
  | 2 => ("java/lang/AbstractStringBuilder", "maybeLatin1", "Z", false)
  | _ => ("java/lang/AbstractStringBuilder", "count", "I", false)
def RJx4a65c : String := "java/util/ArrayList"
def TJx4a65c : u_T := fun k => match k with
  | 0 => ("java/util/AbstractList", "modCount", "I", false)
  | 1 => ("java/util/ArrayList", "elementData", "[Ljava/lang/Object;", false)
  | _ => ("java/util/ArrayList", "size", "I", false)
abbrev vwCl : List vw_C := [(RJ4, TJ4, 4), (RJx4a65c, TJx4a65c, 3), (RX0, TX0, 2), (RX1, TX1, 17), (RX2, TX2, 12), (RX3, TX3, 4), (RX4, TX4, 12), (RX5, TX5, 11), (RX6, TX6, 4), (RX7, TX7, 5), (RX8, TX8, 5), (RX9, TX9, 9), (RX10, TX10, 11), (RX11, TX11, 19), (RX12, TX12, 11), (RX13, TX13, 50), (RX14, TX14, 74)]

-- ===== the typed heap: a map G gives each address a kind and a length; what the heap holds there is of that kind
abbrev jT : Type := Nat → Option (Nat × Nat)
def jLe (G G1 : jT) : Prop := ∀ a t, G a = some t → G1 a = some t
theorem jLe.rf {G : jT} : jLe G G := fun _ _ h => h
theorem jLe.tr {G G1 G2 : jT} (h : jLe G G1) (h2 : jLe G1 G2) : jLe G G2 := fun a t q => h2 a t (h a t q)
-- the slots of all cells of a heap
def jTot (H : Heap) : Nat := (H.toList.map (·.slots.size)).sum
theorem jTot_same {H H1 : Heap} (hsz : H1.size = H.size) (h : ∀ q : Nat, (H1[q]?).map (·.slots.size) = (H[q]?).map (·.slots.size)) : jTot H1 = jTot H := by
  unfold jTot
  congr 1
  apply List.ext_getElem?
  intro i
  rw [List.getElem?_map, List.getElem?_map, Array.getElem?_toList, Array.getElem?_toList]
  exact h i
theorem jTot_set {H H1 : Heap} {a : Nat} {c c1 : Cell} (hsz : H1.size = H.size) (h1 : H[a]? = some c) (h2 : H1[a]? = some c1) (hs : c1.slots.size = c.slots.size) (ho : ∀ q, q ≠ a → H1[q]? = H[q]?) : jTot H1 = jTot H := by
  refine jTot_same hsz (fun q => ?_)
  by_cases e : q = a
  · rw [e, h1, h2]; simp [hs]
  · rw [ho q e]
theorem jSet_sz (c : Cell) (i : Nat) (v : Value) : (c.setSlot i v).slots.size = c.slots.size := by simp [Cell.setSlot]
section JR
variable {p : Program} {l : Launch} {e : Env} {R : Room} {s : State} {m : MethodId} {args : Array Value} {below : List Frame} {meth : Method} {c : Code} {H : Heap} {locs : List Loc} {cells slots : Nat} {Q : State → Prop}
variable {cc : ByteArray} {pc : Nat} {ls : Array Slot} {rest : List Value} {D : va_G} {cl : List vw_C} {A : Nat → Prop} {a : Nat} {tys : List (ClassId × FieldType)}
theorem jp_one {q : Nat × va_E} (h : va_at D cl q H) : va_P D cl [q] H := by
  intro k r hr
  match k, hr with
  | 0, hr => cases hr; exact h
  | k + 1, hr => simp at hr
theorem j_iast (hexec : p.tables.exec = Jvm.exec) (hb : c.code = cc) (hK : va_K D cl tys s) (t0 : Nat) {cA : ClassId} {n : Nat} {f : Nat → Int32} (hat : va_at D cl (a, .inl (cA, n, .inl f)) H) (hA : A a) (hL : ∀ q ∈ locs, A q.base) (ht : tys[t0]? = some (cA, .int)) {i : Int32} {x : Int32} (hin : vp_in i n) (hdg : decode cc pc = .ok (.iastore, 1))
    (kk : ∀ (H1 : Heap) (locs1 : List Loc), va_at D cl (a, .inl (cA, n, .inl (upd f i.toNatClampNeg x))) H1 → H1.size = H.size → (∀ q, q ≠ a → H1[q]? = H[q]?) → jTot H1 = jTot H → (∀ q ∈ locs1, A q.base) → W p l e R s m args below meth c H1 locs1 cells slots Q (F0 m (pc + 1) ls rest)) : W p l e R s m args below meth c H locs cells slots Q (F0 m pc ls (.int x :: .int i :: .ref a :: rest)) := by
  refine W.iast hexec hb hat ((hK.2 t0 _ ht).1 n (fun j => .int (f j))) (fun q => by cases q) (by show ¬ (i < 0 ∨ (arrV _ _ _).slots.size ≤ _); rw [arrV_size]; exact hin) rfl rfl hdg fun H1 e z oq => ?_
  refine kk H1 _ ?_ z oq (jTot_set z hat e (jSet_sz _ _ _) oq) ?_
  · show H1[a]? = some (vp_cell _ _)
    rw [e]
    rw [vp_cell_i, vp_cell_i, arrV_store]
    congr 2
    funext q
    by_cases hq : q = i.toNatClampNeg
    · subst hq
      simp [updV, upd]
    · simp [updV, upd, hq]
  · intro q hq
    rcases List.mem_append.mp hq with h | h
    · exact hL q h
    · cases List.mem_singleton.mp h; exact hA
end JR
end
section
-- what the walks take of the launch: the classes, the nest mates' links, the text constants, the statics (all outside of what a walk writes: addresses from base on)
def jty (ca : Nat → ClassId) : List (ClassId × FieldType) := [(ca 0, .byte), (ca 1, .int), (ca 2, .long), (ca 3, .boolean)]
abbrev jA (base : Nat) : Nat → Prop := fun q => base ≤ q
def jStr (base a n : Nat) (U : State) (H : Heap) : Prop := va_O "java/lang/String" a (jA base) U H ∧ va_OF "java/lang/String" "coder" "B" (.int 0) a (jA base) U H ∧ ∃ (v : Nat) (f : Nat → Int32), va_OF "java/lang/String" "value" "[B" (.ref v) a (jA base) U H ∧ va_T .byte v n (fun j => .int (f j)) (jA base) U H
theorem jStr.moved {base a n : Nat} {u U : State} {H : Heap} (hvm : u.vm.Alike U.vm) (h : jStr base a n u H) : jStr base a n U H := by
  obtain ⟨h1, h2, v, f, h3, h4⟩ := h
  exact ⟨h1.moved hvm, h2.moved hvm, v, f, h3.moved hvm, h4.moved hvm⟩
theorem jStr.kept {base a n : Nat} {U : State} {H H1 : Heap} (h : jStr base a n U H) (hq : ∀ a : Nat, a < H.size → ¬ jA base a → H1[a]? = H[a]?) : jStr base a n U H1 := by
  obtain ⟨h1, h2, v, f, h3, h4⟩ := h
  exact ⟨h1.kept hq, h2.kept hq, v, f, h3.kept hq, h4.kept hq⟩
/-- a text constant: its bytes are its signs -/
def jChT (tx : String) (j : Nat) : Int32 := Int32.ofNat (tx.toList.getD j 'a').toNat
def jStrT (base a : Nat) (tx : String) (U : State) (H : Heap) : Prop := va_O "java/lang/String" a (jA base) U H ∧ va_OF "java/lang/String" "coder" "B" (.int 0) a (jA base) U H ∧ ∃ v : Nat, va_OF "java/lang/String" "value" "[B" (.ref v) a (jA base) U H ∧ va_T .byte v tx.length (fun j => .int (jChT tx j)) (jA base) U H
theorem jStrT.moved {base a : Nat} {tx : String} {u U : State} {H : Heap} (hvm : u.vm.Alike U.vm) (h : jStrT base a tx u H) : jStrT base a tx U H := by
  obtain ⟨h1, h2, v, h3, h4⟩ := h
  exact ⟨h1.moved hvm, h2.moved hvm, v, h3.moved hvm, h4.moved hvm⟩
theorem jStrT.kept {base a : Nat} {tx : String} {U : State} {H H1 : Heap} (h : jStrT base a tx U H) (hq : ∀ a : Nat, a < H.size → ¬ jA base a → H1[a]? = H[a]?) : jStrT base a tx U H1 := by
  obtain ⟨h1, h2, v, h3, h4⟩ := h
  exact ⟨h1.kept hq, h2.kept hq, v, h3.kept hq, h4.kept hq⟩
def jZ (base : Nat) (U : State) (H : Heap) : Prop := va_Z "java/lang/String" "COMPACT_STRINGS" "Z" (.int 1) (jA base) U H ∧
  (∃ (t : Nat) (f : Nat → Int32), va_Z "ProofServer$Syntax" "CHAIN_SIGNS" "[I" (.ref t) (jA base) U H ∧ va_T .int t 3 (fun j => .int (f j)) (jA base) U H ∧ ∀ j, j < 3 → 0 < (f j).toInt) ∧
  (∃ (t : Nat) (f : Nat → Int32), va_Z "ProofServer$Syntax" "CHAIN_NODES" "[I" (.ref t) (jA base) U H ∧ va_T .int t 3 (fun j => .int (f j)) (jA base) U H ∧ ∀ j, j < 3 → 0 < (f j).toInt) ∧
  (va_Z "jdk/internal/util/Preconditions" "SIOOBE_FORMATTER" "Ljava/util/function/BiFunction;" .null (jA base) U H ∨ ∃ t, va_Z "jdk/internal/util/Preconditions" "SIOOBE_FORMATTER" "Ljava/util/function/BiFunction;" (.ref t) (jA base) U H)
theorem jZ.moved {base : Nat} {u U : State} {H : Heap} (hvm : u.vm.Alike U.vm) (h : jZ base u H) : jZ base U H := by
  obtain ⟨h1, ⟨t, f, h2, h3, g1⟩, ⟨t2, f2, h4, h5, g2⟩, h6⟩ := h
  exact ⟨h1.moved hvm, ⟨t, f, h2.moved hvm, h3.moved hvm, g1⟩, ⟨t2, f2, h4.moved hvm, h5.moved hvm, g2⟩, h6.elim (fun h => Or.inl (h.moved hvm)) (fun ⟨t, h⟩ => Or.inr ⟨t, h.moved hvm⟩)⟩
theorem jZ.kept {base : Nat} {U : State} {H H1 : Heap} (h : jZ base U H) (hq : ∀ a : Nat, a < H.size → ¬ jA base a → H1[a]? = H[a]?) : jZ base U H1 := by
  obtain ⟨h1, ⟨t, f, h2, h3, g1⟩, ⟨t2, f2, h4, h5, g2⟩, h6⟩ := h
  exact ⟨h1.kept hq, ⟨t, f, h2.kept hq, h3.kept hq, g1⟩, ⟨t2, f2, h4.kept hq, h5.kept hq, g2⟩, h6.elim (fun h => Or.inl (h.kept hq)) (fun ⟨t, h⟩ => Or.inr ⟨t, h.kept hq⟩)⟩
def jG (dC : Nat → ClassId) (dI : Nat → Nat → Nat) (ca : Nat → ClassId) (base : Nat) (U : State) : Prop :=
  va_K (dC, dI) vwCl (jty ca) U ∧ (∀ a i b n d h, Cond.fieldLinkNest a i b n d h ∈ tables_1 → va_Nw (.fieldLinkNest a i b n d h) U) ∧ (∀ a i y h, Cond.methodLinkNest a i y h ∈ tables_1 → va_Nw (.methodLinkNest a i y h) U) ∧ (∀ o k tx, Cond.stringRef o k tx ∈ tables_1 → ∃ a, vk_R o k tx a U ∧ jStrT base a tx U U.heap) ∧ jZ base U U.heap
theorem jG.step {dC : Nat → ClassId} {dI : Nat → Nat → Nat} {ca : Nat → ClassId} {base : Nat} {s U : State} {H : Heap} {locs : List Loc} (h : jG dC dI ca base s) (hW : s.WarmedH U.vm) (hU : U.heap = H) (hS : va_S (jA base) s.heap H locs) : jG dC dI ca base U := by
  obtain ⟨h1, h2, h3, h4, h5⟩ := h
  have hq : ∀ a : Nat, a < s.heap.size → ¬ jA base a → U.heap[a]? = s.heap[a]? := fun a ha hn => by rw [hU]; exact hS.2.1 a ha hn
  refine ⟨va_K.moved hW.alike h1, fun a i b n d h q => va_Nw.warmF hW (h2 a i b n d h q), fun a i y h q => va_Nw.warmM hW (h3 a i y h q), fun o k tx q => ?_, (h5.moved hW.alike).kept hq⟩
  obtain ⟨a, h6, h7⟩ := h4 o k tx q
  exact ⟨a, h6.warm hW, (h7.moved hW.alike).kept hq⟩
theorem jG.calling {dC : Nat → ClassId} {dI : Nat → Nat → Nat} {ca : Nat → ClassId} {base : Nat} {U : State} (g : JFrame) (mk : MethodId) (a : Array Value) (h : jG dC dI ca base U) : jG dC dI ca base (U.calling g mk a) := by
  obtain ⟨h1, h2, h3, h4, h5⟩ := h
  have hv : U.vm.Alike (U.calling g mk a).vm := Vm.Alike.refl U.vm
  refine ⟨va_K.moved hv h1, fun a i b n d h q => va_Nw.same rfl rfl (h2 a i b n d h q), fun a i y h q => va_Nw.same rfl rfl (h3 a i y h q), fun o k tx q => ?_, h5.moved hv⟩
  obtain ⟨a, h6, h7⟩ := h4 o k tx q
  exact ⟨a, h6.same rfl, h7.moved hv⟩
theorem jS_put {base a : Nat} {H0 H H1 : Heap} {locs locs1 : List Loc} (hS : va_S (jA base) H0 H locs) (hz : H1.size = H.size) (hfr : ∀ q, q ≠ a → H1[q]? = H[q]?) (hA : base ≤ a) (hL : ∀ q ∈ locs1, base ≤ q.base) : va_S (jA base) H0 H1 locs1 :=
  ⟨by rw [hz]; exact hS.1, fun q h1 h2 => (hfr q (fun h => h2 (by rw [h]; exact hA))).trans (hS.2.1 q h1 h2), hL⟩
theorem jb_01 {r : Int32} (h : r = 0 ∨ r = 1) : r.toInt = 0 ∨ r.toInt = 1 := h.elim (fun h => Or.inl (by rw [h]; decide)) (fun h => Or.inr (by rw [h]; decide))
end
section
def RJ0 : String := "java/lang/String"
abbrev cJ0_length_8abf5 : ByteArray := prog_23_method_54_code
def yJ0_length_8abf5 : MethodName := ⟨RJ0, "length", "()I"⟩
abbrev cJ0_charAt_5068e : ByteArray := prog_23_method_56_code
def yJ0_charAt_5068e : MethodName := ⟨RJ0, "charAt", "(I)C"⟩
abbrev cJ0_coder_7d493 : ByteArray := prog_23_method_152_code
def yJ0_coder_7d493 : MethodName := ⟨RJ0, "coder", "()B"⟩
abbrev cJ0_isLatin1_aae02 : ByteArray := prog_23_method_154_code
def yJ0_isLatin1_aae02 : MethodName := ⟨RJ0, "isLatin1", "()Z"⟩
abbrev cJ0_checkIndex_df160 : ByteArray := prog_23_method_155_code
def yJ0_checkIndex_df160 : MethodName := ⟨RJ0, "checkIndex", "(II)V"⟩
def RJ1 : String := "java/lang/StringLatin1"
abbrev cJ1_charAt_3b067 : ByteArray := prog_25_method_2_code
def yJ1_charAt_3b067 : MethodName := ⟨RJ1, "charAt", "([BI)C"⟩
def RJ2 : String := "java/lang/StringUTF16"
abbrev cJ2_getChar_3b067 : ByteArray := prog_26_method_5_code
def yJ2_getChar_3b067 : MethodName := ⟨RJ2, "getChar", "([BI)C"⟩
abbrev cJ2_length_9d52b : ByteArray := prog_26_method_6_code
def yJ2_length_9d52b : MethodName := ⟨RJ2, "length", "([B)I"⟩
abbrev cJ2_charAt_3b067 : ByteArray := prog_26_method_83_code
def yJ2_charAt_3b067 : MethodName := ⟨RJ2, "charAt", "([BI)C"⟩
abbrev cJ2_checkIndex_2214a : ByteArray := prog_26_method_91_code
def yJ2_checkIndex_2214a : MethodName := ⟨RJ2, "checkIndex", "(I[B)V"⟩
def RJ3 : String := "jdk/internal/util/Preconditions"
abbrev cJ3_checkIndex_8e157 : ByteArray := prog_38_method_11_code
def yJ3_checkIndex_8e157 : MethodName := ⟨RJ3, "checkIndex", "(IILjava/util/function/BiFunction;)I"⟩
end
section
-- the typed heap: a root has a kind below 1000; the cells that belong to a root are marked (1000 + place, root); B says what a root of a kind and its cells hold
abbrev jF : Type := Nat → Nat → jT → Nat → Heap → Prop
def jSup (G : jT) (a q : Nat) : Prop := q = a ∨ ∃ i, G q = some (1000 + i, a)
theorem jSup.own {G : jT} {a q i : Nat} (h : G q = some (1000 + i, a)) : jSup G a q := Or.inr ⟨i, h⟩
theorem jSup.root {G : jT} {a : Nat} : jSup G a a := Or.inl rfl
def jBok (B : jF) : Prop := (∀ k n G a H H1, (∀ q, jSup G a q → H1[q]? = H[q]?) → B k n G a H → B k n G a H1) ∧ (∀ k n G G1 a H, jLe G G1 → B k n G a H → B k n G1 a H)
def jX (B : jF) (base : Nat) (G : jT) (X : List Nat) (H : Heap) : Prop := (∀ a k n, G a = some (k, n) → k < 1000 → a ∉ X → B k n G a H) ∧ ∀ a t, G a = some t → base ≤ a ∧ a < H.size
theorem jX.opn {B : jF} {base : Nat} {G : jT} {X : List Nat} {H : Heap} (h : jX B base G X H) (r : Nat) : jX B base G (r :: X) H :=
  ⟨fun a k n h1 h2 h3 => h.1 a k n h1 h2 (fun q => h3 (List.mem_cons_of_mem _ q)), h.2⟩
theorem jX.cls {B : jF} {base : Nat} {G : jT} {X : List Nat} {H : Heap} {r k n : Nat} (h : jX B base G (r :: X) H) (hG : G r = some (k, n)) (hb : B k n G r H) : jX B base G X H := by
  refine ⟨fun a k1 n1 h1 h2 h3 => ?_, h.2⟩
  by_cases e : a = r
  · subst e
    cases hG.symm.trans h1
    exact hb
  · exact h.1 a k1 n1 h1 h2 (fun q => (List.mem_cons.mp q).elim e h3)
theorem jSup.only {G : jT} {a r q k n k1 n1 : Nat} (h1 : G a = some (k1, n1)) (h2 : k1 < 1000) (hG : G r = some (k, n)) (hk : k < 1000) (hq : jSup G r q) (hp : jSup G a q) : a = r := by
  rcases hq with e | ⟨i, e⟩ <;> rcases hp with e2 | ⟨i2, e2⟩
  · rw [← e, ← e2]
  · rw [e, hG] at e2; cases e2; omega
  · rw [e2, h1] at e; cases e; omega
  · rw [e] at e2
    have h5 := Option.some.inj e2
    exact (Prod.mk.inj h5).2.symm
theorem jX.put {B : jF} {base : Nat} {G : jT} {X : List Nat} {H H1 : Heap} {q r k n : Nat} (h : jX B base G X H) (hB : jBok B) (hG : G r = some (k, n)) (hk : k < 1000) (hq : jSup G r q) (hr : r ∈ X) (hsz : H1.size = H.size) (hfr : ∀ p, p ≠ q → H1[p]? = H[p]?) : jX B base G X H1 := by
  refine ⟨fun a k1 n1 h1 h2 h3 => hB.1 k1 n1 G a H H1 (fun p hp => hfr p ?_) (h.1 a k1 n1 h1 h2 h3), fun a t ht => by rw [hsz]; exact h.2 a t ht⟩
  intro e
  subst e
  have := jSup.only h1 h2 hG hk hq hp
  rw [this] at h3
  exact h3 hr
theorem jX.drop {B : jF} {base : Nat} {G : jT} {X : List Nat} {H : Heap} {r i n : Nat} (h : jX B base G (r :: X) H) (hG : G r = some (1000 + i, n)) : jX B base G X H := by
  refine ⟨fun a k1 n1 h1 h2 h3 => h.1 a k1 n1 h1 h2 (fun q => (List.mem_cons.mp q).elim (fun e => ?_) h3), h.2⟩
  subst e
  rw [hG] at h1; cases h1; omega
theorem W.tight {p : Program} {l : Launch} {e : Env} {R : Room} {s : State} {m : MethodId} {args : Array Value} {below : List Frame} {meth : Method} {c : Code} {H : Heap} {locs : List Loc} {cells slots c2 n2 : Nat} {Q : State → Prop} {g : JFrame} (hc : H.size ≤ s.heap.size + c2) (hn : jTot H ≤ jTot s.heap + n2) (k : W p l e R s m args below meth c H locs c2 n2 Q g) : W p l e R s m args below meth c H locs cells slots Q g := by
  intro T hT X
  refine k T hT ⟨X.admits, X.cas, X.clock, X.frames, X.room, X.hears, X.method, X.code, X.here, X.tail, X.warmed, X.limits, X.bytes, ?_⟩
  obtain ⟨a1, a2, a3, a4, a5, a6⟩ := X.same
  refine ⟨a1, a2, by show T.heap.size ≤ _; rw [hT]; exact hc, a4, ?_, a6⟩
  have e1 : (T.setVm s.vm).heap = H := hT
  rw [e1]
  have hsz : s.heap.size ≤ H.size := by rw [← e1]; exact a2
  have hkeep : (H.toList.take s.heap.size).map (·.slots.size) = s.heap.toList.map (·.slots.size) := by
    apply List.ext_getElem?
    intro i
    rw [List.getElem?_map, List.getElem?_map]
    by_cases hi : i < s.heap.size
    · rw [List.getElem?_take_of_lt hi]
      have hs : s.heap[i]? = some s.heap[i] := Array.getElem?_eq_getElem hi
      obtain ⟨c', h1, -, h3, -⟩ := a6 i _ hs
      rw [e1] at h1
      rw [Array.getElem?_toList, Array.getElem?_toList, h1, hs]
      simp [h3]
    · have h1 : (H.toList.take s.heap.size)[i]? = none := by
        apply List.getElem?_eq_none
        simp; omega
      have h2 : s.heap.toList[i]? = none := by
        apply List.getElem?_eq_none
        simp; omega
      rw [h1, h2]
  have hsum : jTot H = jTot s.heap + ((H.toList.drop s.heap.size).map (·.slots.size)).sum := by
    unfold jTot
    rw [← hkeep, ← List.sum_append, ← List.map_append, List.take_append_drop]
  omega
theorem jb_cl {x : Int32} {a : Int} (hx : x.toInt = a) (h : 0 ≤ a) : x.toNatClampNeg = a.toNat := by
  show x.toInt.toNat = _
  rw [hx]
end
section
def RJ7 : String := "java/util/Arrays"
abbrev cJ7_copyOf_9075b : ByteArray := prog_31_method_121_code
def yJ7_copyOf_9075b : MethodName := ⟨RJ7, "copyOf", "([BI)[B"⟩
end
section
abbrev cX0_isHigh : ByteArray := prog_2_method_8_code
def yX0_isHigh : MethodName := ⟨RX0, "isHigh", "(I)Z"⟩
abbrev cX0_isLow : ByteArray := prog_2_method_9_code
def yX0_isLow : MethodName := ⟨RX0, "isLow", "(I)Z"⟩
abbrev cX0_decodedSize : ByteArray := prog_2_method_11_code
def yX0_decodedSize : MethodName := ⟨RX0, "decodedSize", "(I)I"⟩
abbrev cX5_areAlike : ByteArray := prog_7_method_25_code
def yX5_areAlike : MethodName := ⟨RX5, "areAlike", "(II)Z"⟩
abbrev cX6_signOf : ByteArray := prog_8_method_4_code
def yX6_signOf : MethodName := ⟨RX6, "signOf", "(I)I"⟩
abbrev cX11_isBlank : ByteArray := prog_1_method_48_code
def yX11_isBlank : MethodName := ⟨RX11, "isBlank", "(I)Z"⟩
abbrev cX11_isDigit : ByteArray := prog_1_method_49_code
def yX11_isDigit : MethodName := ⟨RX11, "isDigit", "(I)Z"⟩
abbrev cX11_isLetter : ByteArray := prog_1_method_50_code
def yX11_isLetter : MethodName := ⟨RX11, "isLetter", "(I)Z"⟩
abbrev cX14_in : ByteArray := prog_14_method_2_code
def yX14_in : MethodName := ⟨RX14, "in", "(III)Z"⟩
abbrev cX14_hex : ByteArray := prog_14_method_7_code
def yX14_hex : MethodName := ⟨RX14, "hex", "(I)I"⟩
abbrev cX14_isLetter : ByteArray := prog_14_method_15_code
def yX14_isLetter : MethodName := ⟨RX14, "isLetter", "(I)Z"⟩
abbrev cX14_isDigit : ByteArray := prog_14_method_16_code
def yX14_isDigit : MethodName := ⟨RX14, "isDigit", "(I)Z"⟩
abbrev cX14_isBlank : ByteArray := prog_14_method_65_code
def yX14_isBlank : MethodName := ⟨RX14, "isBlank", "(I)Z"⟩
end
section
abbrev wsX00 : List Cond := u_ws RX0 TX0 2
abbrev cX0_put : ByteArray := prog_2_method_2_code
def yX0_put : MethodName := ⟨RX0, "put", "(I)V"⟩
end
section
-- Bytes as a block: its object and its row
def jExt (sz : Nat) (G G1 : jT) : Prop := ∀ q, q < sz → G1 q = G q
theorem jExt.rf {sz : Nat} {G : jT} : jExt sz G G := fun _ _ => rfl
theorem jExt.tr {sz sz1 : Nat} {G G1 G2 : jT} (h : jExt sz G G1) (h1 : jExt sz1 G1 G2) (hs : sz ≤ sz1) : jExt sz G G2 := fun q hq => (h1 q (by omega)).trans (h q hq)
theorem jExt.at {sz a : Nat} {G G1 : jT} {t : Nat × Nat} (h : jExt sz G G1) (ha : a < sz) (hG : G a = some t) : G1 a = some t := (h a ha).trans hG
theorem jX.le {B : jF} {base : Nat} {G G1 : jT} {X : List Nat} {H : Heap} (h : jX B base G X H) (he : jExt H.size G G1) : jLe G G1 := fun a t ht => (he a (h.2 a t ht).2).trans ht
theorem jSup.ext {sz a q : Nat} {G G1 : jT} (h : jExt sz G G1) (hq : q < sz) : jSup G1 a q ↔ jSup G a q := by
  unfold jSup
  rw [h q hq]
def jPow (len : Nat) : Prop := ∃ i, i ≤ 20 ∧ len = 2 ^ i
def jBy (dC : Nat → ClassId) (dI : Nat → Nat → Nat) (ca : Nat → ClassId) (G : jT) (a len : Nat) (cnt : Int32) (H : Heap) : Prop := ∃ (row : Nat) (f : Nat → Int32), va_at (dC, dI) vwCl (a, .inr (2, [.ref row, .int cnt])) H ∧ va_at (dC, dI) vwCl (row, .inl (ca 0, len, .inl f)) H ∧ G row = some (1000, a) ∧ sb_Fit f
theorem jBy.kept {dC : Nat → ClassId} {dI : Nat → Nat → Nat} {ca : Nat → ClassId} {G : jT} {a len : Nat} {cnt : Int32} {H H1 : Heap} (h : jBy dC dI ca G a len cnt H) (hk : ∀ q, jSup G a q → H1[q]? = H[q]?) : jBy dC dI ca G a len cnt H1 := by
  obtain ⟨row, f, h1, h2, h3, h4⟩ := h
  exact ⟨row, f, h1.kept (hk _ jSup.root), h2.kept (hk _ (jSup.own (i := 0) h3)), h3, h4⟩
theorem jBy.ext {dC : Nat → ClassId} {dI : Nat → Nat → Nat} {ca : Nat → ClassId} {G G1 : jT} {a len : Nat} {cnt : Int32} {H : Heap} (h : jBy dC dI ca G a len cnt H) (hk : jLe G G1) : jBy dC dI ca G1 a len cnt H := by
  obtain ⟨row, f, h1, h2, h3, h4⟩ := h
  exact ⟨row, f, h1, h2, hk _ _ h3, h4⟩
/-- the numbers of a Bytes into which K more bytes may be put: there is room in the row, or the row is a power of two and the heap has room for it to grow -/
def jN2 (LC LS len : Nat) (cnt : Int32) (K : Nat) (H : Heap) : Prop := 0 ≤ cnt.toInt ∧ cnt.toInt ≤ len ∧ 16 ≤ len ∧ len ≤ 1048576 ∧ (cnt.toInt + K ≤ len ∨ (jPow len ∧ 16 * H.size + (1048576 - len) ≤ 16 * LC ∧ jTot H + 2 * (1048576 - len) ≤ LS))
def jPre2 (dC : Nat → ClassId) (dI : Nat → Nat → Nat) (ca : Nat → ClassId) (base : Nat) (B : jF) (LC LS : Nat) (G : jT) (X : List Nat) (a len : Nat) (cnt : Int32) (K : Nat) (H0 : Heap) (U : State) : Prop :=
  U.heap = H0 ∧ jX B base G X H0 ∧ jBy dC dI ca G a len cnt H0 ∧ jG dC dI ca base U ∧ (∃ n, G a = some (2, n)) ∧ a ∈ X ∧ jN2 LC LS len cnt K H0
def jPost2 (dC : Nat → ClassId) (dI : Nat → Nat → Nat) (ca : Nat → ClassId) (base : Nat) (B : jF) (G : jT) (X : List Nat) (a len : Nat) (cnt : Int32) (K : Nat) (H0 : Heap) (u : jT × Nat × Int32) (H : Heap) : Prop :=
  jX B base u.1 X H ∧ jExt H0.size G u.1 ∧ jBy dC dI ca u.1 a u.2.1 u.2.2 H ∧ (∀ q, q < H0.size → ¬ jSup G a q → H[q]? = H0[q]?) ∧ H0.size ≤ H.size ∧
  cnt.toInt ≤ u.2.2.toInt ∧ u.2.2.toInt ≤ cnt.toInt + K ∧ u.2.2.toInt ≤ u.2.1 ∧ len ≤ u.2.1 ∧ u.2.1 ≤ 1048576 ∧ (u.2.1 = len ∨ (jPow u.2.1 ∧ len < cnt.toInt + K)) ∧ 16 * H.size + len ≤ 16 * H0.size + u.2.1 ∧ jTot H + 2 * len ≤ jTot H0 + 2 * u.2.1
end
section
theorem W.room {p : Program} {l : Launch} {e : Env} {R : Room} {s : State} {m : MethodId} {args : Array Value} {below : List Frame} {meth : Method} {c : Code} {H : Heap} {locs : List Loc} {cells slots : Nat} {Q : State → Prop} {g : JFrame} (k : s.heap.size ≤ H.size → jTot s.heap ≤ jTot H → W p l e R s m args below meth c H locs (H.size - s.heap.size) (jTot H - jTot s.heap) Q g) : W p l e R s m args below meth c H locs cells slots Q g := by
  intro T hT X
  have e1 : (T.setVm s.vm).heap = H := hT
  obtain ⟨a1, a2, a3, a4, a5, a6⟩ := X.same
  rw [e1] at a2 a6
  have hkeep : (H.toList.take s.heap.size).map (·.slots.size) = s.heap.toList.map (·.slots.size) := by
    apply List.ext_getElem?
    intro i
    rw [List.getElem?_map, List.getElem?_map]
    by_cases hi : i < s.heap.size
    · rw [List.getElem?_take_of_lt hi]
      have hs : s.heap[i]? = some s.heap[i] := Array.getElem?_eq_getElem hi
      obtain ⟨c', h1, -, h3, -⟩ := a6 i _ hs
      rw [Array.getElem?_toList, Array.getElem?_toList, h1, hs]
      simp [h3]
    · have h1 : (H.toList.take s.heap.size)[i]? = none := by
        apply List.getElem?_eq_none
        simp; omega
      have h2 : s.heap.toList[i]? = none := by
        apply List.getElem?_eq_none
        simp; omega
      rw [h1, h2]
  have hsum : jTot H = jTot s.heap + ((H.toList.drop s.heap.size).map (·.slots.size)).sum := by
    unfold jTot
    rw [← hkeep, ← List.sum_append, ← List.map_append, List.take_append_drop]
  exact W.tight (c2 := H.size - s.heap.size) (n2 := jTot H - jTot s.heap) (by omega) (by omega) (k a2 (by omega)) T hT X
section JB2
variable {dC : Nat → ClassId} {dI : Nat → Nat → Nat} {ca : Nat → ClassId} {base : Nat} {B : jF} {LC LS : Nat} {G0 G G1 : jT} {X : List Nat} {a len0 len len1 : Nat} {cnt0 cnt cnt1 : Int32} {K K1 K2 : Nat} {H0 H H1 : Heap}
theorem jPost2.rf (hX : jX B base G X H) (hBy : jBy dC dI ca G a len cnt H) (hN : jN2 LC LS len cnt K H) : jPost2 dC dI ca base B G X a len cnt 0 H (G, len, cnt) H := by
  obtain ⟨h1, h2, h3, h4, -⟩ := hN
  exact ⟨hX, jExt.rf, hBy, fun _ _ _ => rfl, Nat.le_refl _, by simp, by simp, h2, Nat.le_refl _, h4, Or.inl rfl, Nat.le_refl _, Nat.le_refl _⟩
theorem jPost2.tr (h : jPost2 dC dI ca base B G0 X a len0 cnt0 K1 H0 (G, len, cnt) H) (h' : jPost2 dC dI ca base B G X a len cnt K2 H (G1, len1, cnt1) H1) : jPost2 dC dI ca base B G0 X a len0 cnt0 (K1 + K2) H0 (G1, len1, cnt1) H1 := by
  obtain ⟨a1, a2, a3, a4, a5, a6, a7, a8, a9, a10, a11, a12, a13⟩ := h
  obtain ⟨b1, b2, b3, b4, b5, b6, b7, b8, b9, b10, b11, b12, b13⟩ := h'
  simp only at *
  refine ⟨b1, a2.tr b2 a5, b3, fun q h5 h6 => (b4 q (by omega) (fun h => h6 ((jSup.ext a2 h5).mp h))).trans (a4 q h5 h6), by omega, by simp only; omega, by simp only; omega, b8, by simp only; omega, b10, ?_, by simp only; omega, by simp only; omega⟩
  simp only
  rcases b11 with e | ⟨e, e2⟩
  · rcases a11 with e3 | ⟨e3, e4⟩
    · exact Or.inl (by omega)
    · exact Or.inr ⟨by rw [e]; exact e3, by omega⟩
  · exact Or.inr ⟨e, by omega⟩
theorem jN2.next (hN : jN2 LC LS len0 cnt0 K H0) (h : jPost2 dC dI ca base B G0 X a len0 cnt0 K1 H0 (G, len, cnt) H) (hK : K1 + K2 ≤ K) : jN2 LC LS len cnt K2 H := by
  obtain ⟨a1, a2, a3, a4, a5, a6, a7, a8, a9, a10, a11, a12, a13⟩ := h
  obtain ⟨b1, b2, b3, b4, b5⟩ := hN
  simp only at *
  refine ⟨by omega, a8, by omega, a10, ?_⟩
  rcases b5 with e | ⟨e, e2, e3⟩
  · rcases a11 with e4 | ⟨e4, e5⟩
    · exact Or.inl (by omega)
    · omega
  · refine Or.inr ⟨?_, by omega, by omega⟩
    rcases a11 with e4 | ⟨e4, e5⟩
    · rw [e4]; exact e
    · exact e4
theorem jPre2.mk {s U : State} {locs : List Loc} (hG : jG dC dI ca base s) (hW : s.WarmedH U.vm) (hU : U.heap = H) (hS : va_S (jA base) s.heap H locs) (hN : jN2 LC LS len0 cnt0 K s.heap) (hga : ∃ n, G0 a = some (2, n)) (haX : a ∈ X) (h0 : jX B base G0 X s.heap) (h : jPost2 dC dI ca base B G0 X a len0 cnt0 K1 s.heap (G, len, cnt) H) (hK : K1 + K2 ≤ K) : jPre2 dC dI ca base B LC LS G X a len cnt K2 H U := by
  have hn := hN.next h hK
  obtain ⟨n, hn0⟩ := hga
  exact ⟨hU, h.1, h.2.2.1, hG.step hW hU hS, ⟨n, h.2.1.at (h0.2 _ _ hn0).2 hn0⟩, haX, hn⟩
theorem jBy.recv {s : State} (h : jBy dC dI ca G a len cnt H) (hK : va_K (dC, dI) vwCl (jty ca) s) : ∃ cell : Cell, H[a]? = some cell ∧ cell.vm.isStatics = false ∧ s.vm.findClass RX0 = some cell.cls := by
  obtain ⟨row, f, h1, -⟩ := h
  exact va_recv hK (jp_one h1) (ci := 2) (q0 := 0) rfl rfl
end JB2
theorem jPost2.le {dC : Nat → ClassId} {dI : Nat → Nat → Nat} {ca : Nat → ClassId} {base : Nat} {B : jF} {G0 : jT} {X : List Nat} {a len0 : Nat} {cnt0 : Int32} {K K1 : Nat} {H0 H : Heap} {u : jT × Nat × Int32} (h : jPost2 dC dI ca base B G0 X a len0 cnt0 K1 H0 u H) (hK : K1 ≤ K) : jPost2 dC dI ca base B G0 X a len0 cnt0 K H0 u H := by
  obtain ⟨a1, a2, a3, a4, a5, a6, a7, a8, a9, a10, a11, a12, a13⟩ := h
  exact ⟨a1, a2, a3, a4, a5, a6, by omega, a8, a9, a10, a11.elim Or.inl (fun h => Or.inr ⟨h.1, by omega⟩), a12, a13⟩
end
section
abbrev cX0_text : ByteArray := prog_2_method_3_code
def yX0_text : MethodName := ⟨RX0, "text", "(Ljava/lang/String;)V"⟩
abbrev cX0_character : ByteArray := prog_2_method_7_code
def yX0_character : MethodName := ⟨RX0, "character", "(I)V"⟩
end
section
abbrev cX0_quoted : ByteArray := prog_2_method_6_code
def yX0_quoted : MethodName := ⟨RX0, "quoted", "([III)V"⟩
end
section
abbrev cX0_decoded : ByteArray := prog_2_method_10_code
def yX0_decoded : MethodName := ⟨RX0, "decoded", "([BII)I"⟩
end
section
abbrev cX0_append : ByteArray := prog_2_method_4_code
def yX0_append : MethodName := ⟨RX0, "append", "(LProofServer$Bytes;)V"⟩
end
section
abbrev cX0_number : ByteArray := prog_2_method_5_code
def yX0_number : MethodName := ⟨RX0, "number", "(I)V"⟩
end
section
-- contracts over the typed heap: which roots may change
def jRoot (G : jT) (r : Nat) : Prop := ∃ k n, G r = some (k, n) ∧ k < 1000
def jModP (G : jT) (M : Nat → Prop) (H0 H1 : Heap) : Prop := ∀ q, q < H0.size → (∀ r, jRoot G r → jSup G r q → ¬ M r) → H1[q]? = H0[q]?
theorem jModP.rf {G : jT} {M : Nat → Prop} {H : Heap} : jModP G M H H := fun _ _ _ => rfl
theorem jModP.put {G0 G : jT} {M : Nat → Prop} {H0 H H1 : Heap} {a r : Nat} (h : jModP G0 M H0 H) (hE : jExt H0.size G0 G) (hr : jRoot G0 r) (hs : jSup G r a) (hM : M r) (hfr : ∀ q, q ≠ a → H1[q]? = H[q]?) : jModP G0 M H0 H1 := by
  intro q hq hn
  refine (hfr q (fun e => ?_)).trans (h q hq hn)
  subst e
  exact hn r hr ((jSup.ext hE hq).mp hs) hM
section JL
variable {p : Program} {l : Launch} {e : Env} {R : Room} {s : State} {m : MethodId} {args : Array Value} {below : List Frame} {meth : Method} {c : Code} {H : Heap} {locs : List Loc} {cells slots : Nat} {Q : State → Prop}
variable {cc : ByteArray} {pc : Nat} {ls : Array Slot} {rest : List Value} {D : va_G} {cl : List vw_C} {A : Nat → Prop} {a : Nat} {tys : List (ClassId × FieldType)}
end JL
theorem jb_cl_lt {i : Int32} {a : Int} {n : Nat} (hi : i.toInt = a) (h1 : 0 ≤ a) (h2 : a < n) : i.toNatClampNeg < n := by
  rw [jb_cl hi h1]; omega
theorem jModP.tr {G0 G : jT} {M M1 : Nat → Prop} {H0 H H1 : Heap} (h : jModP G0 M H0 H) (h1 : jModP G M1 H H1) (hE : jExt H0.size G0 G) (hz : H0.size ≤ H.size) (hM : ∀ r, M1 r → M r ∨ H0.size ≤ r) (hr : ∀ r, r < H0.size → jRoot G r → jRoot G0 r) (hs : ∀ r q, q < H0.size → jSup G r q → r < H0.size) : jModP G0 M H0 H1 := by
  intro q hq hn
  refine (h1 q (by omega) (fun r h2 h3 hm => ?_)).trans (h q hq hn)
  have hl := hs r q hq h3
  rcases hM r hm with e | e
  · exact hn r (hr r hl h2) ((jSup.ext hE hq).mp h3) e
  · omega
end
