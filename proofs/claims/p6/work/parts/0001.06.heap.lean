section
def RX0 : String := "ProofServer$Bytes"
def TX0 : u_T := fun k => match k with
  | 0 => ("ProofServer$Bytes", "row", "[B", false)
  | _ => ("ProofServer$Bytes", "count", "I", false)
def RX1 : String := "ProofServer$Document"
def TX1 : u_T := fun k => match k with
  | 0 => ("ProofServer$Document", "uri", "[I", false)
  | 1 => ("ProofServer$Document", "version", "I", false)
  | 2 => ("ProofServer$Document", "text", "[I", true)
  | 3 => ("ProofServer$Document", "length", "I", false)
  | 4 => ("ProofServer$Document", "sentences", "I", false)
  | 5 => ("ProofServer$Document", "starts", "[I", true)
  | 6 => ("ProofServer$Document", "ends", "[I", true)
  | 7 => ("ProofServer$Document", "costs", "[I", true)
  | 8 => ("ProofServer$Document", "early", "[I", true)
  | 9 => ("ProofServer$Document", "behind", "[LProofServer$State;", true)
  | 10 => ("ProofServer$Document", "checked", "I", false)
  | 11 => ("ProofServer$Document", "checking", "[I", false)
  | 12 => ("ProofServer$Document", "found", "LProofServer$State;", false)
  | 13 => ("ProofServer$Document", "left", "I", false)
  | 14 => ("ProofServer$Document", "line", "I", false)
  | 15 => ("ProofServer$Document", "lineStart", "I", false)
  | _ => ("ProofServer$Document", "cursor", "I", false)
def RX2 : String := "ProofServer$Frames"
def TX2 : u_T := fun k => match k with
  | 0 => ("ProofServer$Frames", "body", "[B", true)
  | 1 => ("ProofServer$Frames", "length", "I", false)
  | 2 => ("ProofServer$Frames", "kept", "I", false)
  | 3 => ("ProofServer$Frames", "messages", "I", false)
  | 4 => ("ProofServer$Frames", "broken", "Z", false)
  | 5 => ("ProofServer$Frames", "place", "I", false)
  | 6 => ("ProofServer$Frames", "told", "I", false)
  | 7 => ("ProofServer$Frames", "filled", "I", false)
  | 8 => ("ProofServer$Frames", "signs", "I", false)
  | 9 => ("ProofServer$Frames", "isLengthName", "Z", false)
  | 10 => ("ProofServer$Frames", "digits", "I", false)
  | _ => ("ProofServer$Frames", "value", "I", false)
def RX3 : String := "ProofServer$Goal"
def TX3 : u_T := fun k => match k with
  | 0 => ("ProofServer$Goal", "variables", "[I", true)
  | 1 => ("ProofServer$Goal", "names", "[I", true)
  | 2 => ("ProofServer$Goal", "hypotheses", "[[I", true)
  | _ => ("ProofServer$Goal", "formula", "[I", true)
def RX4 : String := "ProofServer$Json"
def TX4 : u_T := fun k => match k with
  | 0 => ("ProofServer$Json", "kinds", "[I", true)
  | 1 => ("ProofServer$Json", "firsts", "[I", true)
  | 2 => ("ProofServer$Json", "sizes", "[I", true)
  | 3 => ("ProofServer$Json", "nexts", "[I", true)
  | 4 => ("ProofServer$Json", "keyFirsts", "[I", true)
  | 5 => ("ProofServer$Json", "keySizes", "[I", true)
  | 6 => ("ProofServer$Json", "units", "[I", true)
  | 7 => ("ProofServer$Json", "values", "I", false)
  | 8 => ("ProofServer$Json", "unitCount", "I", false)
  | 9 => ("ProofServer$Json", "bytes", "[B", false)
  | 10 => ("ProofServer$Json", "end", "I", false)
  | _ => ("ProofServer$Json", "at", "I", false)
def RX5 : String := "ProofServer$Kernel"
def TX5 : u_T := fun k => match k with
  | 0 => ("ProofServer$Kernel", "names", "LProofServer$Names;", true)
  | 1 => ("ProofServer$Kernel", "syntax", "LProofServer$Syntax;", true)
  | 2 => ("ProofServer$Kernel", "start", "LProofServer$State;", true)
  | 3 => ("ProofServer$Kernel", "scopeNames", "[I", true)
  | 4 => ("ProofServer$Kernel", "scopeEnds", "[I", true)
  | 5 => ("ProofServer$Kernel", "source", "[I", false)
  | 6 => ("ProofServer$Kernel", "termFrom", "[I", true)
  | 7 => ("ProofServer$Kernel", "termSize", "[I", true)
  | 8 => ("ProofServer$Kernel", "single", "[I", true)
  | 9 => ("ProofServer$Kernel", "fresh", "[LProofServer$Goal;", true)
  | _ => ("ProofServer$Kernel", "freshCount", "I", false)
def RX6 : String := "ProofServer$Names"
def TX6 : u_T := fun k => match k with
  | 0 => ("ProofServer$Names", "stems", "[J", true)
  | 1 => ("ProofServer$Names", "primes", "[I", true)
  | 2 => ("ProofServer$Names", "slots", "[I", true)
  | _ => ("ProofServer$Names", "count", "I", false)
def RX7 : String := "ProofServer$Printer"
def TX7 : u_T := fun k => match k with
  | 0 => ("ProofServer$Printer", "names", "LProofServer$Names;", true)
  | 1 => ("ProofServer$Printer", "stack", "[I", true)
  | 2 => ("ProofServer$Printer", "height", "I", false)
  | 3 => ("ProofServer$Printer", "boundNames", "[I", true)
  | _ => ("ProofServer$Printer", "boundMore", "[I", true)
def RX8 : String := "ProofServer$Request"
def TX8 : u_T := fun k => match k with
  | 0 => ("ProofServer$Request", "id", "LProofServer$Bytes;", true)
  | 1 => ("ProofServer$Request", "about", "LProofServer$Document;", false)
  | 2 => ("ProofServer$Request", "needed", "I", false)
  | 3 => ("ProofServer$Request", "isStatement", "Z", false)
  | _ => ("ProofServer$Request", "name", "I", false)
def RX9 : String := "ProofServer$State"
def TX9 : u_T := fun k => match k with
  | 0 => ("ProofServer$State", "ahead", "LProofServer$State;", true)
  | 1 => ("ProofServer$State", "units", "[I", true)
  | 2 => ("ProofServer$State", "fault", "I", false)
  | 3 => ("ProofServer$State", "symbols", "[I", false)
  | 4 => ("ProofServer$State", "factNames", "[I", false)
  | 5 => ("ProofServer$State", "facts", "[[I", false)
  | 6 => ("ProofServer$State", "lemma", "I", false)
  | 7 => ("ProofServer$State", "statement", "[I", false)
  | _ => ("ProofServer$State", "goals", "[LProofServer$Goal;", false)
def RX10 : String := "ProofServer$Syntax"
def TX10 : u_T := fun k => match k with
  | 0 => ("ProofServer$Syntax", "names", "LProofServer$Names;", true)
  | 1 => ("ProofServer$Syntax", "kinds", "[I", true)
  | 2 => ("ProofServer$Syntax", "values", "[I", true)
  | 3 => ("ProofServer$Syntax", "tokens", "I", false)
  | 4 => ("ProofServer$Syntax", "at", "I", false)
  | 5 => ("ProofServer$Syntax", "word", "I", false)
  | 6 => ("ProofServer$Syntax", "told", "[I", true)
  | 7 => ("ProofServer$Syntax", "toldCount", "I", false)
  | 8 => ("ProofServer$Syntax", "terms", "I", false)
  | 9 => ("ProofServer$Syntax", "nodes", "[I", true)
  | _ => ("ProofServer$Syntax", "nodeCount", "I", false)
def RX11 : String := "ProofServer"
def TX11 : u_T := fun k => match k with
  | 0 => ("ProofServer", "tape", "LProofServer$Bytes;", true)
  | 1 => ("ProofServer", "frames", "LProofServer$Frames;", true)
  | 2 => ("ProofServer", "json", "LProofServer$Json;", true)
  | 3 => ("ProofServer", "output", "LProofServer$Bytes;", true)
  | 4 => ("ProofServer", "body", "LProofServer$Bytes;", true)
  | 5 => ("ProofServer", "kernel", "LProofServer$Kernel;", true)
  | 6 => ("ProofServer", "printer", "LProofServer$Printer;", true)
  | 7 => ("ProofServer", "open", "Ljava/util/List;", true)
  | 8 => ("ProofServer", "waiting", "Ljava/util/List;", true)
  | 9 => ("ProofServer", "cache", "Ljava/util/List;", true)
  | 10 => ("ProofServer", "hands", "[LProofServer$Document;", true)
  | 11 => ("ProofServer", "phase", "I", false)
  | 12 => ("ProofServer", "steps", "I", false)
  | 13 => ("ProofServer", "reused", "I", false)
  | 14 => ("ProofServer", "lost", "I", false)
  | 15 => ("ProofServer", "spare", "LProofServer$Document;", false)
  | 16 => ("ProofServer", "latest", "LProofServer$Document;", false)
  | 17 => ("ProofServer", "shown", "LProofServer$Bytes;", true)
  | _ => ("ProofServer", "shownOf", "I", false)
def RX12 : String := "ProofServerModel$Document"
def TX12 : u_T := fun k => match k with
  | 0 => ("ProofServerModel$Document", "uri", "[I", true)
  | 1 => ("ProofServerModel$Document", "uriLength", "I", false)
  | 2 => ("ProofServerModel$Document", "version", "I", false)
  | 3 => ("ProofServerModel$Document", "text", "[I", true)
  | 4 => ("ProofServerModel$Document", "units", "I", false)
  | 5 => ("ProofServerModel$Document", "sentences", "I", false)
  | 6 => ("ProofServerModel$Document", "begin", "[I", true)
  | 7 => ("ProofServerModel$Document", "end", "[I", true)
  | 8 => ("ProofServerModel$Document", "flaw", "[I", true)
  | 9 => ("ProofServerModel$Document", "checked", "I", false)
  | _ => ("ProofServerModel$Document", "fault", "[I", true)
def RX13 : String := "ProofServerModel$Kernel"
def TX13 : u_T := fun k => match k with
  | 0 => ("ProofServerModel$Kernel", "sort", "[I", true)
  | 1 => ("ProofServerModel$Kernel", "name", "[I", true)
  | 2 => ("ProofServerModel$Kernel", "one", "[I", true)
  | 3 => ("ProofServerModel$Kernel", "two", "[I", true)
  | 4 => ("ProofServerModel$Kernel", "three", "[I", true)
  | 5 => ("ProofServerModel$Kernel", "nodes", "I", false)
  | 6 => ("ProofServerModel$Kernel", "signs", "[I", true)
  | 7 => ("ProofServerModel$Kernel", "signCount", "I", false)
  | 8 => ("ProofServerModel$Kernel", "nameAt", "[I", true)
  | 9 => ("ProofServerModel$Kernel", "nameLength", "[I", true)
  | 10 => ("ProofServerModel$Kernel", "nameCount", "I", false)
  | 11 => ("ProofServerModel$Kernel", "symbols", "I", false)
  | 12 => ("ProofServerModel$Kernel", "symbol", "[I", true)
  | 13 => ("ProofServerModel$Kernel", "predicate", "[Z", true)
  | 14 => ("ProofServerModel$Kernel", "arity", "[I", true)
  | 15 => ("ProofServerModel$Kernel", "facts", "I", false)
  | 16 => ("ProofServerModel$Kernel", "factName", "[I", true)
  | 17 => ("ProofServerModel$Kernel", "fact", "[I", true)
  | 18 => ("ProofServerModel$Kernel", "proof", "Z", false)
  | 19 => ("ProofServerModel$Kernel", "lemmaName", "I", false)
  | 20 => ("ProofServerModel$Kernel", "lemma", "I", false)
  | 21 => ("ProofServerModel$Kernel", "goals", "I", false)
  | 22 => ("ProofServerModel$Kernel", "goal", "[I", true)
  | 23 => ("ProofServerModel$Kernel", "vars", "[I", true)
  | 24 => ("ProofServerModel$Kernel", "varName", "[I", true)
  | 25 => ("ProofServerModel$Kernel", "hyps", "[I", true)
  | 26 => ("ProofServerModel$Kernel", "hypName", "[I", true)
  | 27 => ("ProofServerModel$Kernel", "hyp", "[I", true)
  | 28 => ("ProofServerModel$Kernel", "kind", "[I", true)
  | 29 => ("ProofServerModel$Kernel", "what", "[I", true)
  | 30 => ("ProofServerModel$Kernel", "tokens", "I", false)
  | 31 => ("ProofServerModel$Kernel", "loose", "I", false)
  | 32 => ("ProofServerModel$Kernel", "at", "I", false)
  | 33 => ("ProofServerModel$Kernel", "wrong", "Z", false)
  | 34 => ("ProofServerModel$Kernel", "fault", "I", false)
  | 35 => ("ProofServerModel$Kernel", "binder", "[I", true)
  | 36 => ("ProofServerModel$Kernel", "binders", "I", false)
  | 37 => ("ProofServerModel$Kernel", "single", "[I", true)
  | 38 => ("ProofServerModel$Kernel", "name1", "I", false)
  | 39 => ("ProofServerModel$Kernel", "name2", "I", false)
  | 40 => ("ProofServerModel$Kernel", "name3", "I", false)
  | 41 => ("ProofServerModel$Kernel", "digit", "I", false)
  | 42 => ("ProofServerModel$Kernel", "raw", "I", false)
  | 43 => ("ProofServerModel$Kernel", "terms", "[I", true)
  | 44 => ("ProofServerModel$Kernel", "newGoals", "[I", true)
  | 45 => ("ProofServerModel$Kernel", "line", "[I", true)
  | 46 => ("ProofServerModel$Kernel", "lines", "I", false)
  | 47 => ("ProofServerModel$Kernel", "writtenName", "[I", true)
  | 48 => ("ProofServerModel$Kernel", "writtenMarks", "[I", true)
  | _ => ("ProofServerModel$Kernel", "written", "I", false)
def RX14 : String := "ProofServerModel"
def TX14 : u_T := fun k => match k with
  | 0 => ("ProofServerModel", "tape", "[I", true)
  | 1 => ("ProofServerModel", "taped", "I", false)
  | 2 => ("ProofServerModel", "out", "[I", true)
  | 3 => ("ProofServerModel", "outs", "I", false)
  | 4 => ("ProofServerModel", "lost", "I", false)
  | 5 => ("ProofServerModel", "frame", "[I", true)
  | 6 => ("ProofServerModel", "framed", "I", false)
  | 7 => ("ProofServerModel", "broken", "Z", false)
  | 8 => ("ProofServerModel", "messages", "I", false)
  | 9 => ("ProofServerModel", "kept", "[I", true)
  | 10 => ("ProofServerModel", "keptBytes", "I", false)
  | 11 => ("ProofServerModel", "mode", "I", false)
  | 12 => ("ProofServerModel", "headerBytes", "I", false)
  | 13 => ("ProofServerModel", "name", "Ljava/lang/StringBuilder;", true)
  | 14 => ("ProofServerModel", "value", "Ljava/lang/StringBuilder;", true)
  | 15 => ("ProofServerModel", "length", "I", false)
  | 16 => ("ProofServerModel", "bodyFrom", "I", false)
  | 17 => ("ProofServerModel", "sort", "[I", true)
  | 18 => ("ProofServerModel", "heir", "[I", true)
  | 19 => ("ProofServerModel", "next", "[I", true)
  | 20 => ("ProofServerModel", "nameFrom", "[I", true)
  | 21 => ("ProofServerModel", "nameTo", "[I", true)
  | 22 => ("ProofServerModel", "from", "[I", true)
  | 23 => ("ProofServerModel", "to", "[I", true)
  | 24 => ("ProofServerModel", "isInt", "[Z", true)
  | 25 => ("ProofServerModel", "ints", "[I", true)
  | 26 => ("ProofServerModel", "nodes", "I", false)
  | 27 => ("ProofServerModel", "pool", "[I", true)
  | 28 => ("ProofServerModel", "pooled", "I", false)
  | 29 => ("ProofServerModel", "at", "I", false)
  | 30 => ("ProofServerModel", "end", "I", false)
  | 31 => ("ProofServerModel", "bad", "Z", false)
  | 32 => ("ProofServerModel", "stringFrom", "I", false)
  | 33 => ("ProofServerModel", "utfChar", "I", false)
  | 34 => ("ProofServerModel", "initialized", "Z", false)
  | 35 => ("ProofServerModel", "shut", "Z", false)
  | 36 => ("ProofServerModel", "idString", "Z", false)
  | 37 => ("ProofServerModel", "idInt", "I", false)
  | 38 => ("ProofServerModel", "idUnits", "[I", true)
  | 39 => ("ProofServerModel", "idLength", "I", false)
  | 40 => ("ProofServerModel", "idNull", "Z", false)
  | 41 => ("ProofServerModel", "documents", "[LProofServerModel$Document;", true)
  | 42 => ("ProofServerModel", "documentCount", "I", false)
  | 43 => ("ProofServerModel", "changed", "[I", true)
  | 44 => ("ProofServerModel", "changedUnits", "I", false)
  | 45 => ("ProofServerModel", "tail", "[I", true)
  | 46 => ("ProofServerModel", "old", "LProofServerModel$Document;", true)
  | 47 => ("ProofServerModel", "now", "LProofServerModel$Document;", true)
  | 48 => ("ProofServerModel", "waits", "I", false)
  | 49 => ("ProofServerModel", "waitOf", "[LProofServerModel$Document;", true)
  | 50 => ("ProofServerModel", "waitGoals", "[Z", true)
  | 51 => ("ProofServerModel", "waitNeed", "[I", true)
  | 52 => ("ProofServerModel", "waitString", "[Z", true)
  | 53 => ("ProofServerModel", "waitInt", "[I", true)
  | 54 => ("ProofServerModel", "waitUnits", "[I", true)
  | 55 => ("ProofServerModel", "waitLength", "[I", true)
  | 56 => ("ProofServerModel", "waitName", "[I", true)
  | 57 => ("ProofServerModel", "waitNameLength", "[I", true)
  | 58 => ("ProofServerModel", "kernel", "LProofServerModel$Kernel;", true)
  | 59 => ("ProofServerModel", "taken", "[I", true)
  | 60 => ("ProofServerModel", "checkOf", "[LProofServerModel$Document;", true)
  | 61 => ("ProofServerModel", "checkSentence", "[I", true)
  | 62 => ("ProofServerModel", "checkLeft", "[I", true)
  | 63 => ("ProofServerModel", "checkCached", "[Z", true)
  | 64 => ("ProofServerModel", "steps", "I", false)
  | 65 => ("ProofServerModel", "cachedChecks", "I", false)
  | 66 => ("ProofServerModel", "cached", "I", false)
  | 67 => ("ProofServerModel", "cacheUnits", "[I", true)
  | 68 => ("ProofServerModel", "cacheLength", "[I", true)
  | 69 => ("ProofServerModel", "row", "[I", true)
  | 70 => ("ProofServerModel", "rowLength", "I", false)
  | 71 => ("ProofServerModel", "told", "LProofServerModel$Document;", true)
  | 72 => ("ProofServerModel", "toldGoals", "[I", true)
  | _ => ("ProofServerModel", "toldFacts", "[I", true)
def RJ4 : String := "java/lang/StringBuilder"
def TJ4 : u_T := fun k => match k with
  | 0 => ("java/lang/AbstractStringBuilder", "value", "[B", false)
  | 1 => ("java/lang/AbstractStringBuilder", "coder", "B", false)
  | 2 => ("java/lang/AbstractStringBuilder", "maybeLatin1", "Z", false)
  | _ => ("java/lang/AbstractStringBuilder", "count", "I", false)
def RJx4a65c : String := "java/util/ArrayList"
def TJx4a65c : u_T := fun k => match k with
  | 0 => ("java/util/AbstractList", "modCount", "I", false)
  | 1 => ("java/util/ArrayList", "elementData", "[Ljava/lang/Object;", false)
  | _ => ("java/util/ArrayList", "size", "I", false)
abbrev vwCl : List vw_C := [(RJ4, TJ4, 4), (RJx4a65c, TJx4a65c, 3), (RX0, TX0, 2), (RX1, TX1, 17), (RX2, TX2, 12), (RX3, TX3, 4), (RX4, TX4, 12), (RX5, TX5, 11), (RX6, TX6, 4), (RX7, TX7, 5), (RX8, TX8, 5), (RX9, TX9, 9), (RX10, TX10, 11), (RX11, TX11, 19), (RX12, TX12, 11), (RX13, TX13, 50), (RX14, TX14, 74), (RX0, TX0, 2)]

-- ===== the typed heap: a map G gives each address a kind and a length; what the heap holds there is of that kind
abbrev jT : Type := Nat → Option (Nat × Nat)
def jLe (G G1 : jT) : Prop := ∀ a t, G a = some t → G1 a = some t
theorem jLe.rf {G : jT} : jLe G G := fun _ _ h => h
theorem jLe.tr {G G1 G2 : jT} (h : jLe G G1) (h2 : jLe G1 G2) : jLe G G2 := fun a t q => h2 a t (h a t q)
-- the slots of all cells of a heap
def jTot (H : Heap) : Nat := (H.toList.map (·.slots.size)).sum
section JR
variable {p : Program} {l : Launch} {e : Env} {R : Room} {s : State} {m : MethodId} {args : Array Value} {below : List Frame} {meth : Method} {c : Code} {H : Heap} {locs : List Loc} {cells slots : Nat} {Q : State → Prop}
variable {cc : ByteArray} {pc : Nat} {ls : Array Slot} {rest : List Value} {D : va_G} {cl : List vw_C} {A : Nat → Prop} {a : Nat} {tys : List (ClassId × FieldType)}
end JR
end
section
-- what the walks take of the launch: the classes, the nest mates' links, the text constants, the statics (all outside of what a walk writes: addresses from base on)
def jty (ca : Nat → ClassId) : List (ClassId × FieldType) := [(ca 0, .byte), (ca 1, .int), (ca 2, .long), (ca 3, .boolean)]
abbrev jA (base : Nat) : Nat → Prop := fun q => base ≤ q
def jStr (base a n : Nat) (U : State) (H : Heap) : Prop := va_O "java/lang/String" a (jA base) U H ∧ va_OF "java/lang/String" "coder" "B" (.int 0) a (jA base) U H ∧ ∃ (v : Nat) (f : Nat → Int32), va_OF "java/lang/String" "value" "[B" (.ref v) a (jA base) U H ∧ va_T .byte v n (fun j => .int (f j)) (jA base) U H
theorem jStr.moved {base a n : Nat} {u U : State} {H : Heap} (hvm : u.vm.Alike U.vm) (h : jStr base a n u H) : jStr base a n U H := by
  obtain ⟨h1, h2, v, f, h3, h4⟩ := h
  exact ⟨h1.moved hvm, h2.moved hvm, v, f, h3.moved hvm, h4.moved hvm⟩
theorem jStr.kept {base a n : Nat} {U : State} {H H1 : Heap} (h : jStr base a n U H) (hq : ∀ a : Nat, a < H.size → ¬ jA base a → H1[a]? = H[a]?) : jStr base a n U H1 := by
  obtain ⟨h1, h2, v, f, h3, h4⟩ := h
  exact ⟨h1.kept hq, h2.kept hq, v, f, h3.kept hq, h4.kept hq⟩
/-- a text constant: its bytes are its signs -/
def jChT (tx : String) (j : Nat) : Int32 := Int32.ofNat (tx.toList.getD j 'a').toNat
def jStrT (base a : Nat) (tx : String) (U : State) (H : Heap) : Prop := va_O "java/lang/String" a (jA base) U H ∧ va_OF "java/lang/String" "coder" "B" (.int 0) a (jA base) U H ∧ ∃ v : Nat, va_OF "java/lang/String" "value" "[B" (.ref v) a (jA base) U H ∧ va_T .byte v tx.length (fun j => .int (jChT tx j)) (jA base) U H
theorem jStrT.moved {base a : Nat} {tx : String} {u U : State} {H : Heap} (hvm : u.vm.Alike U.vm) (h : jStrT base a tx u H) : jStrT base a tx U H := by
  obtain ⟨h1, h2, v, h3, h4⟩ := h
  exact ⟨h1.moved hvm, h2.moved hvm, v, h3.moved hvm, h4.moved hvm⟩
theorem jStrT.kept {base a : Nat} {tx : String} {U : State} {H H1 : Heap} (h : jStrT base a tx U H) (hq : ∀ a : Nat, a < H.size → ¬ jA base a → H1[a]? = H[a]?) : jStrT base a tx U H1 := by
  obtain ⟨h1, h2, v, h3, h4⟩ := h
  exact ⟨h1.kept hq, h2.kept hq, v, h3.kept hq, h4.kept hq⟩
def jZ (base : Nat) (U : State) (H : Heap) : Prop := va_Z "java/lang/String" "COMPACT_STRINGS" "Z" (.int 1) (jA base) U H ∧
  (∃ (t : Nat) (f : Nat → Int32), va_Z "ProofServer$Syntax" "CHAIN_SIGNS" "[I" (.ref t) (jA base) U H ∧ va_T .int t 3 (fun j => .int (f j)) (jA base) U H ∧ ∀ j, j < 3 → 0 < (f j).toInt) ∧
  (∃ (t : Nat) (f : Nat → Int32), va_Z "ProofServer$Syntax" "CHAIN_NODES" "[I" (.ref t) (jA base) U H ∧ va_T .int t 3 (fun j => .int (f j)) (jA base) U H ∧ ∀ j, j < 3 → 0 < (f j).toInt) ∧
  (va_Z "jdk/internal/util/Preconditions" "SIOOBE_FORMATTER" "Ljava/util/function/BiFunction;" .null (jA base) U H ∨ ∃ t, va_Z "jdk/internal/util/Preconditions" "SIOOBE_FORMATTER" "Ljava/util/function/BiFunction;" (.ref t) (jA base) U H)
theorem jZ.moved {base : Nat} {u U : State} {H : Heap} (hvm : u.vm.Alike U.vm) (h : jZ base u H) : jZ base U H := by
  obtain ⟨h1, ⟨t, f, h2, h3, g1⟩, ⟨t2, f2, h4, h5, g2⟩, h6⟩ := h
  exact ⟨h1.moved hvm, ⟨t, f, h2.moved hvm, h3.moved hvm, g1⟩, ⟨t2, f2, h4.moved hvm, h5.moved hvm, g2⟩, h6.elim (fun h => Or.inl (h.moved hvm)) (fun ⟨t, h⟩ => Or.inr ⟨t, h.moved hvm⟩)⟩
theorem jZ.kept {base : Nat} {U : State} {H H1 : Heap} (h : jZ base U H) (hq : ∀ a : Nat, a < H.size → ¬ jA base a → H1[a]? = H[a]?) : jZ base U H1 := by
  obtain ⟨h1, ⟨t, f, h2, h3, g1⟩, ⟨t2, f2, h4, h5, g2⟩, h6⟩ := h
  exact ⟨h1.kept hq, ⟨t, f, h2.kept hq, h3.kept hq, g1⟩, ⟨t2, f2, h4.kept hq, h5.kept hq, g2⟩, h6.elim (fun h => Or.inl (h.kept hq)) (fun ⟨t, h⟩ => Or.inr ⟨t, h.kept hq⟩)⟩
def jG (dC : Nat → ClassId) (dI : Nat → Nat → Nat) (ca : Nat → ClassId) (base : Nat) (U : State) : Prop :=
  va_K (dC, dI) vwCl (jty ca) U ∧ (∀ a i b n d h, Cond.fieldLinkNest a i b n d h ∈ tables_1 → va_Nw (.fieldLinkNest a i b n d h) U) ∧ (∀ a i y h, Cond.methodLinkNest a i y h ∈ tables_1 → va_Nw (.methodLinkNest a i y h) U) ∧ (∀ o k tx, Cond.stringRef o k tx ∈ tables_1 → ∃ a, vk_R o k tx a U ∧ jStrT base a tx U U.heap) ∧ jZ base U U.heap
theorem jG.step {dC : Nat → ClassId} {dI : Nat → Nat → Nat} {ca : Nat → ClassId} {base : Nat} {s U : State} {H : Heap} {locs : List Loc} (h : jG dC dI ca base s) (hW : s.WarmedH U.vm) (hU : U.heap = H) (hS : va_S (jA base) s.heap H locs) : jG dC dI ca base U := by
  obtain ⟨h1, h2, h3, h4, h5⟩ := h
  have hq : ∀ a : Nat, a < s.heap.size → ¬ jA base a → U.heap[a]? = s.heap[a]? := fun a ha hn => by rw [hU]; exact hS.2.1 a ha hn
  refine ⟨va_K.moved hW.alike h1, fun a i b n d h q => va_Nw.warmF hW (h2 a i b n d h q), fun a i y h q => va_Nw.warmM hW (h3 a i y h q), fun o k tx q => ?_, (h5.moved hW.alike).kept hq⟩
  obtain ⟨a, h6, h7⟩ := h4 o k tx q
  exact ⟨a, h6.warm hW, (h7.moved hW.alike).kept hq⟩
end
section
-- the typed heap: a root has a kind below 1000; the cells that belong to a root are marked (1000 + place, root); B says what a root of a kind and its cells hold
abbrev jF : Type := Nat → Nat → jT → Nat → Heap → Prop
def jSup (G : jT) (a q : Nat) : Prop := q = a ∨ ∃ i, G q = some (1000 + i, a)
theorem jSup.own {G : jT} {a q i : Nat} (h : G q = some (1000 + i, a)) : jSup G a q := Or.inr ⟨i, h⟩
theorem jSup.root {G : jT} {a : Nat} : jSup G a a := Or.inl rfl
def jBok (B : jF) : Prop := (∀ k n G a H H1, (∀ q, jSup G a q → H1[q]? = H[q]?) → B k n G a H → B k n G a H1) ∧ (∀ k n G G1 a H, jLe G G1 → B k n G a H → B k n G1 a H)
def jX (B : jF) (base : Nat) (G : jT) (X : List Nat) (H : Heap) : Prop := (∀ a k n, G a = some (k, n) → k < 1000 → a ∉ X → B k n G a H) ∧ ∀ a t, G a = some t → base ≤ a ∧ a < H.size
theorem jX.opn {B : jF} {base : Nat} {G : jT} {X : List Nat} {H : Heap} (h : jX B base G X H) (r : Nat) : jX B base G (r :: X) H :=
  ⟨fun a k n h1 h2 h3 => h.1 a k n h1 h2 (fun q => h3 (List.mem_cons_of_mem _ q)), h.2⟩
theorem jX.cls {B : jF} {base : Nat} {G : jT} {X : List Nat} {H : Heap} {r k n : Nat} (h : jX B base G (r :: X) H) (hG : G r = some (k, n)) (hb : B k n G r H) : jX B base G X H := by
  refine ⟨fun a k1 n1 h1 h2 h3 => ?_, h.2⟩
  by_cases e : a = r
  · subst e
    cases hG.symm.trans h1
    exact hb
  · exact h.1 a k1 n1 h1 h2 (fun q => (List.mem_cons.mp q).elim e h3)
theorem jSup.only {G : jT} {a r q k n k1 n1 : Nat} (h1 : G a = some (k1, n1)) (h2 : k1 < 1000) (hG : G r = some (k, n)) (hk : k < 1000) (hq : jSup G r q) (hp : jSup G a q) : a = r := by
  rcases hq with e | ⟨i, e⟩ <;> rcases hp with e2 | ⟨i2, e2⟩
  · rw [← e, ← e2]
  · rw [e, hG] at e2; cases e2; omega
  · rw [e2, h1] at e; cases e; omega
  · rw [e] at e2
    have h5 := Option.some.inj e2
    exact (Prod.mk.inj h5).2.symm
theorem jX.put {B : jF} {base : Nat} {G : jT} {X : List Nat} {H H1 : Heap} {q r k n : Nat} (h : jX B base G X H) (hB : jBok B) (hG : G r = some (k, n)) (hk : k < 1000) (hq : jSup G r q) (hr : r ∈ X) (hsz : H1.size = H.size) (hfr : ∀ p, p ≠ q → H1[p]? = H[p]?) : jX B base G X H1 := by
  refine ⟨fun a k1 n1 h1 h2 h3 => hB.1 k1 n1 G a H H1 (fun p hp => hfr p ?_) (h.1 a k1 n1 h1 h2 h3), fun a t ht => by rw [hsz]; exact h.2 a t ht⟩
  intro e
  subst e
  have := jSup.only h1 h2 hG hk hq hp
  rw [this] at h3
  exact h3 hr
theorem jX.drop {B : jF} {base : Nat} {G : jT} {X : List Nat} {H : Heap} {r i n : Nat} (h : jX B base G (r :: X) H) (hG : G r = some (1000 + i, n)) : jX B base G X H := by
  refine ⟨fun a k1 n1 h1 h2 h3 => h.1 a k1 n1 h1 h2 (fun q => (List.mem_cons.mp q).elim (fun e => ?_) h3), h.2⟩
  subst e
  rw [hG] at h1; cases h1; omega
theorem W.tight {p : Program} {l : Launch} {e : Env} {R : Room} {s : State} {m : MethodId} {args : Array Value} {below : List Frame} {meth : Method} {c : Code} {H : Heap} {locs : List Loc} {cells slots c2 n2 : Nat} {Q : State → Prop} {g : JFrame} (hc : H.size ≤ s.heap.size + c2) (hn : jTot H ≤ jTot s.heap + n2) (k : W p l e R s m args below meth c H locs c2 n2 Q g) : W p l e R s m args below meth c H locs cells slots Q g := by
  intro T hT X
  refine k T hT ⟨X.admits, X.cas, X.clock, X.frames, X.room, X.hears, X.method, X.code, X.here, X.tail, X.warmed, X.limits, X.bytes, ?_⟩
  obtain ⟨a1, a2, a3, a4, a5, a6⟩ := X.same
  refine ⟨a1, a2, by show T.heap.size ≤ _; rw [hT]; exact hc, a4, ?_, a6⟩
  have e1 : (T.setVm s.vm).heap = H := hT
  rw [e1]
  have hsz : s.heap.size ≤ H.size := by rw [← e1]; exact a2
  have hkeep : (H.toList.take s.heap.size).map (·.slots.size) = s.heap.toList.map (·.slots.size) := by
    apply List.ext_getElem?
    intro i
    rw [List.getElem?_map, List.getElem?_map]
    by_cases hi : i < s.heap.size
    · rw [List.getElem?_take_of_lt hi]
      have hs : s.heap[i]? = some s.heap[i] := Array.getElem?_eq_getElem hi
      obtain ⟨c', h1, -, h3, -⟩ := a6 i _ hs
      rw [e1] at h1
      rw [Array.getElem?_toList, Array.getElem?_toList, h1, hs]
      simp [h3]
    · have h1 : (H.toList.take s.heap.size)[i]? = none := by
        apply List.getElem?_eq_none
        simp; omega
      have h2 : s.heap.toList[i]? = none := by
        apply List.getElem?_eq_none
        simp; omega
      rw [h1, h2]
  have hsum : jTot H = jTot s.heap + ((H.toList.drop s.heap.size).map (·.slots.size)).sum := by
    unfold jTot
    rw [← hkeep, ← List.sum_append, ← List.map_append, List.take_append_drop]
  omega
end
section
-- Bytes as a block: its object and its row
def jExt (sz : Nat) (G G1 : jT) : Prop := ∀ q, q < sz → G1 q = G q
theorem jExt.rf {sz : Nat} {G : jT} : jExt sz G G := fun _ _ => rfl
theorem jExt.tr {sz sz1 : Nat} {G G1 G2 : jT} (h : jExt sz G G1) (h1 : jExt sz1 G1 G2) (hs : sz ≤ sz1) : jExt sz G G2 := fun q hq => (h1 q (by omega)).trans (h q hq)
theorem jExt.at {sz a : Nat} {G G1 : jT} {t : Nat × Nat} (h : jExt sz G G1) (ha : a < sz) (hG : G a = some t) : G1 a = some t := (h a ha).trans hG
theorem jX.le {B : jF} {base : Nat} {G G1 : jT} {X : List Nat} {H : Heap} (h : jX B base G X H) (he : jExt H.size G G1) : jLe G G1 := fun a t ht => (he a (h.2 a t ht).2).trans ht
theorem jSup.ext {sz a q : Nat} {G G1 : jT} (h : jExt sz G G1) (hq : q < sz) : jSup G1 a q ↔ jSup G a q := by
  unfold jSup
  rw [h q hq]
def jPow (len : Nat) : Prop := ∃ i, i ≤ 20 ∧ len = 2 ^ i
theorem jPow.up {len : Nat} (h : jPow len) (hl : len < 1000000) : jPow (2 * len) ∧ 2 * len ≤ 1048576 := by
  obtain ⟨i, hi, rfl⟩ := h
  have h1 : i < 20 := by
    rcases Nat.lt_or_ge i 20 with q | q
    · exact q
    · have : i = 20 := by omega
      subst this
      exact absurd hl (by decide)
  refine ⟨⟨i + 1, by omega, by rw [Nat.pow_succ]; omega⟩, ?_⟩
  have h2 : 2 ^ (i + 1) ≤ 2 ^ 20 := Nat.pow_le_pow_right (by decide) (by omega)
  rw [Nat.pow_succ] at h2
  omega
def jBy (dC : Nat → ClassId) (dI : Nat → Nat → Nat) (ca : Nat → ClassId) (G : jT) (a len : Nat) (cnt : Int32) (H : Heap) : Prop := ∃ (row : Nat) (f : Nat → Int32), va_at (dC, dI) vwCl (a, .inr (2, [.ref row, .int cnt])) H ∧ va_at (dC, dI) vwCl (row, .inl (ca 0, len, .inl f)) H ∧ G row = some (1000, a) ∧ sb_Fit f
theorem jBy.kept {dC : Nat → ClassId} {dI : Nat → Nat → Nat} {ca : Nat → ClassId} {G : jT} {a len : Nat} {cnt : Int32} {H H1 : Heap} (h : jBy dC dI ca G a len cnt H) (hk : ∀ q, jSup G a q → H1[q]? = H[q]?) : jBy dC dI ca G a len cnt H1 := by
  obtain ⟨row, f, h1, h2, h3, h4⟩ := h
  exact ⟨row, f, h1.kept (hk _ jSup.root), h2.kept (hk _ (jSup.own (i := 0) h3)), h3, h4⟩
theorem jBy.ext {dC : Nat → ClassId} {dI : Nat → Nat → Nat} {ca : Nat → ClassId} {G G1 : jT} {a len : Nat} {cnt : Int32} {H : Heap} (h : jBy dC dI ca G a len cnt H) (hk : jLe G G1) : jBy dC dI ca G1 a len cnt H := by
  obtain ⟨row, f, h1, h2, h3, h4⟩ := h
  exact ⟨row, f, h1, h2, hk _ _ h3, h4⟩
/-- the numbers of a Bytes into which K more bytes may be put: there is room in the row, or the row is a power of two and the heap has room for it to grow -/
def jN2 (LC LS len : Nat) (cnt : Int32) (K : Nat) (H : Heap) : Prop := 0 ≤ cnt.toInt ∧ cnt.toInt ≤ len ∧ 16 ≤ len ∧ len ≤ 1048576 ∧ (cnt.toInt + K ≤ len ∨ (jPow len ∧ 16 * H.size + (1048576 - len) ≤ 16 * LC ∧ jTot H + 2 * (1048576 - len) ≤ LS))
def jPre2 (dC : Nat → ClassId) (dI : Nat → Nat → Nat) (ca : Nat → ClassId) (base : Nat) (B : jF) (LC LS : Nat) (G : jT) (X : List Nat) (a len : Nat) (cnt : Int32) (K : Nat) (H0 : Heap) (U : State) : Prop :=
  U.heap = H0 ∧ jX B base G X H0 ∧ jBy dC dI ca G a len cnt H0 ∧ jG dC dI ca base U ∧ (∃ n, G a = some (2, n)) ∧ a ∈ X ∧ jN2 LC LS len cnt K H0
def jPost2 (dC : Nat → ClassId) (dI : Nat → Nat → Nat) (ca : Nat → ClassId) (base : Nat) (B : jF) (G : jT) (X : List Nat) (a len : Nat) (cnt : Int32) (K : Nat) (H0 : Heap) (u : jT × Nat × Int32) (H : Heap) : Prop :=
  jX B base u.1 X H ∧ jExt H0.size G u.1 ∧ jBy dC dI ca u.1 a u.2.1 u.2.2 H ∧ (∀ q, q < H0.size → ¬ jSup G a q → H[q]? = H0[q]?) ∧ H0.size ≤ H.size ∧
  cnt.toInt ≤ u.2.2.toInt ∧ u.2.2.toInt ≤ cnt.toInt + K ∧ u.2.2.toInt ≤ u.2.1 ∧ len ≤ u.2.1 ∧ u.2.1 ≤ 1048576 ∧ (u.2.1 = len ∨ (jPow u.2.1 ∧ len < cnt.toInt + K)) ∧ 16 * H.size + len ≤ 16 * H0.size + u.2.1 ∧ jTot H + 2 * len ≤ jTot H0 + 2 * u.2.1
end
section
section JB2
variable {dC : Nat → ClassId} {dI : Nat → Nat → Nat} {ca : Nat → ClassId} {base : Nat} {B : jF} {LC LS : Nat} {G0 G G1 : jT} {X : List Nat} {a len0 len len1 : Nat} {cnt0 cnt cnt1 : Int32} {K K1 K2 : Nat} {H0 H H1 : Heap}
theorem jPost2.rf (hX : jX B base G X H) (hBy : jBy dC dI ca G a len cnt H) (hN : jN2 LC LS len cnt K H) : jPost2 dC dI ca base B G X a len cnt 0 H (G, len, cnt) H := by
  obtain ⟨h1, h2, h3, h4, -⟩ := hN
  exact ⟨hX, jExt.rf, hBy, fun _ _ _ => rfl, Nat.le_refl _, by simp, by simp, h2, Nat.le_refl _, h4, Or.inl rfl, Nat.le_refl _, Nat.le_refl _⟩
theorem jPost2.tr (h : jPost2 dC dI ca base B G0 X a len0 cnt0 K1 H0 (G, len, cnt) H) (h' : jPost2 dC dI ca base B G X a len cnt K2 H (G1, len1, cnt1) H1) : jPost2 dC dI ca base B G0 X a len0 cnt0 (K1 + K2) H0 (G1, len1, cnt1) H1 := by
  obtain ⟨a1, a2, a3, a4, a5, a6, a7, a8, a9, a10, a11, a12, a13⟩ := h
  obtain ⟨b1, b2, b3, b4, b5, b6, b7, b8, b9, b10, b11, b12, b13⟩ := h'
  simp only at *
  refine ⟨b1, a2.tr b2 a5, b3, fun q h5 h6 => (b4 q (by omega) (fun h => h6 ((jSup.ext a2 h5).mp h))).trans (a4 q h5 h6), by omega, by simp only; omega, by simp only; omega, b8, by simp only; omega, b10, ?_, by simp only; omega, by simp only; omega⟩
  simp only
  rcases b11 with e | ⟨e, e2⟩
  · rcases a11 with e3 | ⟨e3, e4⟩
    · exact Or.inl (by omega)
    · exact Or.inr ⟨by rw [e]; exact e3, by omega⟩
  · exact Or.inr ⟨e, by omega⟩
theorem jN2.next (hN : jN2 LC LS len0 cnt0 K H0) (h : jPost2 dC dI ca base B G0 X a len0 cnt0 K1 H0 (G, len, cnt) H) (hK : K1 + K2 ≤ K) : jN2 LC LS len cnt K2 H := by
  obtain ⟨a1, a2, a3, a4, a5, a6, a7, a8, a9, a10, a11, a12, a13⟩ := h
  obtain ⟨b1, b2, b3, b4, b5⟩ := hN
  simp only at *
  refine ⟨by omega, a8, by omega, a10, ?_⟩
  rcases b5 with e | ⟨e, e2, e3⟩
  · rcases a11 with e4 | ⟨e4, e5⟩
    · exact Or.inl (by omega)
    · omega
  · refine Or.inr ⟨?_, by omega, by omega⟩
    rcases a11 with e4 | ⟨e4, e5⟩
    · rw [e4]; exact e
    · exact e4
theorem jPre2.mk {s U : State} {locs : List Loc} (hG : jG dC dI ca base s) (hW : s.WarmedH U.vm) (hU : U.heap = H) (hS : va_S (jA base) s.heap H locs) (hN : jN2 LC LS len0 cnt0 K s.heap) (hga : ∃ n, G0 a = some (2, n)) (haX : a ∈ X) (h0 : jX B base G0 X s.heap) (h : jPost2 dC dI ca base B G0 X a len0 cnt0 K1 s.heap (G, len, cnt) H) (hK : K1 + K2 ≤ K) : jPre2 dC dI ca base B LC LS G X a len cnt K2 H U := by
  have hn := hN.next h hK
  obtain ⟨n, hn0⟩ := hga
  exact ⟨hU, h.1, h.2.2.1, hG.step hW hU hS, ⟨n, h.2.1.at (h0.2 _ _ hn0).2 hn0⟩, haX, hn⟩
end JB2
theorem jPost2.le {dC : Nat → ClassId} {dI : Nat → Nat → Nat} {ca : Nat → ClassId} {base : Nat} {B : jF} {G0 : jT} {X : List Nat} {a len0 : Nat} {cnt0 : Int32} {K K1 : Nat} {H0 H : Heap} {u : jT × Nat × Int32} (h : jPost2 dC dI ca base B G0 X a len0 cnt0 K1 H0 u H) (hK : K1 ≤ K) : jPost2 dC dI ca base B G0 X a len0 cnt0 K H0 u H := by
  obtain ⟨a1, a2, a3, a4, a5, a6, a7, a8, a9, a10, a11, a12, a13⟩ := h
  exact ⟨a1, a2, a3, a4, a5, a6, by omega, a8, a9, a10, a11.elim Or.inl (fun h => Or.inr ⟨h.1, by omega⟩), a12, a13⟩
end
section
-- contracts over the typed heap: which roots may change
def jRoot (G : jT) (r : Nat) : Prop := ∃ k n, G r = some (k, n) ∧ k < 1000
def jModP (G : jT) (M : Nat → Prop) (H0 H1 : Heap) : Prop := ∀ q, q < H0.size → (∀ r, jRoot G r → jSup G r q → ¬ M r) → H1[q]? = H0[q]?
theorem jModP.rf {G : jT} {M : Nat → Prop} {H : Heap} : jModP G M H H := fun _ _ _ => rfl
theorem jModP.put {G0 G : jT} {M : Nat → Prop} {H0 H H1 : Heap} {a r : Nat} (h : jModP G0 M H0 H) (hE : jExt H0.size G0 G) (hr : jRoot G0 r) (hs : jSup G r a) (hM : M r) (hfr : ∀ q, q ≠ a → H1[q]? = H[q]?) : jModP G0 M H0 H1 := by
  intro q hq hn
  refine (hfr q (fun e => ?_)).trans (h q hq hn)
  subst e
  exact hn r hr ((jSup.ext hE hq).mp hs) hM
section JL
variable {p : Program} {l : Launch} {e : Env} {R : Room} {s : State} {m : MethodId} {args : Array Value} {below : List Frame} {meth : Method} {c : Code} {H : Heap} {locs : List Loc} {cells slots : Nat} {Q : State → Prop}
variable {cc : ByteArray} {pc : Nat} {ls : Array Slot} {rest : List Value} {D : va_G} {cl : List vw_C} {A : Nat → Prop} {a : Nat} {tys : List (ClassId × FieldType)}
end JL
theorem jModP.tr {G0 G : jT} {M M1 : Nat → Prop} {H0 H H1 : Heap} (h : jModP G0 M H0 H) (h1 : jModP G M1 H H1) (hE : jExt H0.size G0 G) (hz : H0.size ≤ H.size) (hM : ∀ r, M1 r → M r ∨ H0.size ≤ r) (hr : ∀ r, r < H0.size → jRoot G r → jRoot G0 r) (hs : ∀ r q, q < H0.size → jSup G r q → r < H0.size) : jModP G0 M H0 H1 := by
  intro q hq hn
  refine (h1 q (by omega) (fun r h2 h3 hm => ?_)).trans (h q hq hn)
  have hl := hs r q hq h3
  rcases hM r hm with e | e
  · exact hn r (hr r hl h2) ((jSup.ext hE hq).mp h3) e
  · omega
end
section
def yJx4a65c_size_8abf5 : MethodName := ⟨RJx4a65c, "size", "()I"⟩
def yJx4a65c_get_915e3 : MethodName := ⟨RJx4a65c, "get", "(I)Ljava/lang/Object;"⟩
def yJx4a65c_add_9ea2d : MethodName := ⟨RJx4a65c, "add", "(Ljava/lang/Object;)Z"⟩
def yJx4a65c_remove_915e3 : MethodName := ⟨RJx4a65c, "remove", "(I)Ljava/lang/Object;"⟩
end
section
-- the refined heap: every field of a typed object holds a value of its own predicate, every element of a typed array too; what is known of a field just now is a pin (address, kind, field, value)
def jf (D : va_G) (k a i : Nat) (v : Value) (H : Heap) : Prop := ∃ r : vw_C, vwCl[k]? = some r ∧ i < r.2.2 ∧ ∃ cell : Cell, H[a]? = some cell ∧ cell.cls = D.1 k ∧ cell.vm = .none ∧ cell.slots[D.2 k i]? = some v
theorem jf.kept {D : va_G} {k a i : Nat} {v : Value} {H H1 : Heap} (h : jf D k a i v H) (h1 : H1[a]? = H[a]?) : jf D k a i v H1 := by
  obtain ⟨r, g1, g2, cell, g3, g4⟩ := h
  exact ⟨r, g1, g2, cell, by rw [h1]; exact g3, g4⟩
def jOb (D : va_G) (k N : Nat) (P : List (Value → Prop)) (a : Nat) (H : Heap) : Prop := ∃ V : Nat → Value, t_OB a (D.1 k) N (D.2 k) H V ∧ ∀ (i : Nat) (p : Value → Prop), P[i]? = some p → p (V i)
abbrev jPin : Type := Nat × Nat × Nat × Value
def jP (D : va_G) (G : jT) (H : Heap) (L : List jPin) : Prop := ∀ q ∈ L, (∃ n, G q.1 = some (q.2.1, n)) ∧ jf D q.2.1 q.1 q.2.2.1 q.2.2.2 H
def jKp (D : va_G) (G : jT) (E : List (Nat × Nat)) (H0 H : Heap) : Prop := (∀ a k n i v, G a = some (k, n) → E.contains (k, i) = false → jf D k a i v H0 → jf D k a i v H) ∧ ∀ a k n, G a = some (k, n) → 18 ≤ k → k < 1000 → E.contains (k, 0) = false → H[a]? = H0[a]?
theorem jKp.rf {D : va_G} {G : jT} {E : List (Nat × Nat)} {H : Heap} : jKp D G E H H := ⟨fun _ _ _ _ _ _ _ h => h, fun _ _ _ _ _ _ _ => rfl⟩
/-- what an array holds just now: address, kind, length, class, contents -/
abbrev jCt : Type := Nat × Nat × Nat × ClassId × (Nat → Int32)
def jMc (D : va_G) (G : jT) (H : Heap) (M : List jCt) : Prop := ∀ q ∈ M, G q.1 = some (q.2.1, q.2.2.1) ∧ 18 ≤ q.2.1 ∧ q.2.1 < 1000 ∧ va_at D vwCl (q.1, .inl (q.2.2.2.1, q.2.2.1, .inl q.2.2.2.2)) H
theorem jMc.nil {D : va_G} {G : jT} {H : Heap} : jMc D G H [] := fun _ h => by cases h
theorem jMc.sub {D : va_G} {G : jT} {H : Heap} {L L1 : List jCt} (h : jMc D G H L) (is : List Nat) (hs : is.map (fun i => L[i]?) = L1.map some) : jMc D G H L1 := by
  intro q hq
  have h1 : some q ∈ L1.map some := List.mem_map.mpr ⟨q, hq, rfl⟩
  rw [← hs] at h1
  obtain ⟨i, -, h2⟩ := List.mem_map.mp h1
  exact h q (List.mem_of_getElem? h2)
/-- what holds of a footprint: fields (kind, field) and arrays (kind, 0) -/
abbrev jIv : Type := List (Nat × Nat) × (Heap → Prop)
def jAg (D : va_G) (G : jT) (F : List (Nat × Nat)) (H H1 : Heap) : Prop := (∀ a k n i v, G a = some (k, n) → F.contains (k, i) = true → jf D k a i v H → jf D k a i v H1) ∧ ∀ a k n, G a = some (k, n) → 18 ≤ k → k < 1000 → F.contains (k, 0) = true → H1[a]? = H[a]?
def jIs (D : va_G) (G : jT) (H : Heap) (I : List jIv) : Prop := ∀ q ∈ I, q.2 H ∧ ∀ H1 H2 : Heap, jAg D G q.1 H1 H2 → q.2 H1 → q.2 H2
theorem jIs.nil {D : va_G} {G : jT} {H : Heap} : jIs D G H [] := fun _ h => by cases h
theorem jIs.sub {D : va_G} {G : jT} {H : Heap} {L L1 : List jIv} (h : jIs D G H L) (is : List Nat) (hs : is.map (fun i => L[i]?) = L1.map some) : jIs D G H L1 := by
  intro q hq
  have h1 : some q ∈ L1.map some := List.mem_map.mpr ⟨q, hq, rfl⟩
  rw [← hs] at h1
  obtain ⟨i, -, h2⟩ := List.mem_map.mp h1
  exact h q (List.mem_of_getElem? h2)
theorem jIs.ag {D : va_G} {G : jT} {H H1 : Heap} {L : List jIv} (h : jIs D G H L) (ha : ∀ q ∈ L, jAg D G q.1 H H1) : jIs D G H1 L := fun q hq => ⟨(h q hq).2 _ _ (ha q hq) (h q hq).1, (h q hq).2⟩
theorem jAg.of {D : va_G} {G : jT} {E F : List (Nat × Nat)} {H H1 : Heap} (h : jKp D G E H H1) (hn : E.all (fun q => !(F.contains q)) = true) : jAg D G F H H1 := by
  have key : ∀ k i, F.contains (k, i) = true → E.contains (k, i) = false := by
    intro k i hf
    cases h1 : E.contains (k, i) with
    | false => rfl
    | true =>
      have h2 := List.all_eq_true.mp hn (k, i) (List.contains_iff_mem.mp h1)
      rw [hf] at h2; cases h2
  exact ⟨fun a k n i v ha hf => h.1 a k n i v ha (key k i hf), fun a k n ha h1 h2 hf => h.2 a k n ha h1 h2 (key k 0 hf)⟩
def jSt (D : va_G) (B : jF) (base : Nat) (G0 G : jT) (E : List (Nat × Nat)) (H0 : Heap) (zc zs : Nat) (L : List jPin) (M : List jCt) (I : List jIv) (H : Heap) (locs : List Loc) : Prop :=
  va_S (jA base) H0 H locs ∧ jX B base G [] H ∧ jP D G H L ∧ jKp D G0 E H0 H ∧ jLe G0 G ∧ H.size ≤ H0.size + zc ∧ jTot H ≤ jTot H0 + zs ∧ jMc D G H M ∧ jIs D G H I
theorem jP.nil {D : va_G} {G : jT} {H : Heap} : jP D G H [] := fun _ h => by cases h
theorem jP.sub {D : va_G} {G : jT} {H : Heap} {L L1 : List jPin} (h : jP D G H L) (is : List Nat) (hs : is.map (fun i => L[i]?) = L1.map some) : jP D G H L1 := by
  intro q hq
  have h1 : some q ∈ L1.map some := List.mem_map.mpr ⟨q, hq, rfl⟩
  rw [← hs] at h1
  obtain ⟨i, -, h2⟩ := List.mem_map.mp h1
  exact h q (List.mem_of_getElem? h2)
theorem jP.app {D : va_G} {G : jT} {H : Heap} {L L1 : List jPin} (h : jP D G H L) (h1 : jP D G H L1) : jP D G H (L ++ L1) := fun q hq => (List.mem_append.mp hq).elim (h q) (h1 q)
theorem jKp.sub {D : va_G} {G0 G : jT} {E E1 : List (Nat × Nat)} {H0 H : Heap} (h : jKp D G E1 H0 H) (hG : jLe G0 G) (hE : E1.all (fun q => E.contains q) = true) : jKp D G0 E H0 H := by
  have key : ∀ k i, E.contains (k, i) = false → E1.contains (k, i) = false := by
    intro k i he
    cases h1 : E1.contains (k, i) with
    | false => rfl
    | true =>
      have h2 := List.all_eq_true.mp hE (k, i) (List.contains_iff_mem.mp h1)
      rw [he] at h2; cases h2
  exact ⟨fun a k n i v ha he hf => h.1 a k n i v (hG _ _ ha) (key k i he) hf, fun a k n ha h1 h2 he => h.2 a k n (hG _ _ ha) h1 h2 (key k 0 he)⟩
theorem jKp.tr {D : va_G} {G : jT} {E : List (Nat × Nat)} {H0 H H1 : Heap} (h : jKp D G E H0 H) (h1 : jKp D G E H H1) : jKp D G E H0 H1 := ⟨fun a k n i v ha he hf => h1.1 a k n i v ha he (h.1 a k n i v ha he hf), fun a k n ha g1 g2 he => (h1.2 a k n ha g1 g2 he).trans (h.2 a k n ha g1 g2 he)⟩
section J7
variable {p : Program} {l : Launch} {e : Env} {R : Room} {s : State} {m : MethodId} {args : Array Value} {below : List Frame} {meth : Method} {c : Code} {H : Heap} {locs : List Loc} {cells slots : Nat} {Q : State → Prop}
variable {cc : ByteArray} {pc : Nat} {ls : Array Slot} {rest : List Value} {dC : Nat → ClassId} {dI : Nat → Nat → Nat} {ca : Nat → ClassId} {B : jF} {base : Nat} {G0 G : jT} {E : List (Nat × Nat)} {H0 : Heap} {zc zs : Nat} {L : List jPin} {M : List jCt} {I : List jIv} {a k n i index N : Nat} {tys : List (ClassId × FieldType)} {own C : String} {T : u_T}
theorem jSt.ab (hh : jSt (dC, dI) B base G0 G E H0 zc zs L M I H locs) {t : Nat × Nat} (ha : G a = some t) : base ≤ a ∧ a < H.size := hh.2.1.2 a t ha
theorem jSt.at (hh : jSt (dC, dI) B base G0 G E H0 zc zs L M I H locs) {v : Value} (j : Nat) (hj : L[j]? = some (a, k, i, v)) : jf (dC, dI) k a i v H := (hh.2.2.1 _ (List.mem_of_getElem? hj)).2
end J7
def jAr (D : va_G) (cA : ClassId) (P : Nat → Int32 → Prop) (n a : Nat) (H : Heap) : Prop := ∃ f : Nat → Int32, va_at D vwCl (a, .inl (cA, n, .inl f)) H ∧ ∀ j, j < n → P j (f j)
def jAl (D : va_G) (cA : ClassId) (n a : Nat) (H : Heap) : Prop := ∃ f : Nat → Int64, va_at D vwCl (a, .inl (cA, n, .inr (.inl f))) H
section J8
variable {p : Program} {l : Launch} {e : Env} {R : Room} {s : State} {m : MethodId} {args : Array Value} {below : List Frame} {meth : Method} {c : Code} {H : Heap} {locs : List Loc} {cells slots : Nat} {Q : State → Prop}
variable {cc : ByteArray} {pc : Nat} {ls : Array Slot} {rest : List Value} {dC : Nat → ClassId} {dI : Nat → Nat → Nat} {ca : Nat → ClassId} {B : jF} {base : Nat} {G0 G : jT} {E : List (Nat × Nat)} {H0 : Heap} {zc zs : Nat} {L : List jPin} {M : List jCt} {I : List jIv} {a k n : Nat} {P : Nat → Int32 → Prop} {cA : ClassId} {tys : List (ClassId × FieldType)}
theorem jSt.ar (hh : jSt (dC, dI) B base G0 G E H0 zc zs L M I H locs) (hBk : ∀ n G a H, B k n G a H ↔ jAr (dC, dI) cA P n a H) (hk : k < 1000) (ha : G a = some (k, n)) : ∃ f : Nat → Int32, va_at (dC, dI) vwCl (a, .inl (cA, n, .inl f)) H ∧ ∀ j, j < n → P j (f j) := (hBk _ _ _ _).mp (hh.2.1.1 a k n ha hk (fun h => by cases h))
theorem jSt.al (hh : jSt (dC, dI) B base G0 G E H0 zc zs L M I H locs) (hBk : ∀ n G a H, B k n G a H ↔ jAl (dC, dI) cA n a H) (hk : k < 1000) (ha : G a = some (k, n)) : ∃ f : Nat → Int64, va_at (dC, dI) vwCl (a, .inl (cA, n, .inr (.inl f))) H := (hBk _ _ _ _).mp (hh.2.1.1 a k n ha hk (fun h => by cases h))
theorem jSt.sub (hh : jSt (dC, dI) B base G0 G E H0 zc zs L M I H locs) {L1 : List jPin} (is : List Nat) (hs : is.map (fun i => L[i]?) = L1.map some) {M1 : List jCt} (js : List Nat) (hjs : js.map (fun i => M[i]?) = M1.map some) {I1 : List jIv} (ks : List Nat) (hks : ks.map (fun i => I[i]?) = I1.map some) : jSt (dC, dI) B base G0 G E H0 zc zs L1 M1 I1 H locs := by
  obtain ⟨h1, h2, h3, h4, h5, h6, h7, h8, h9⟩ := hh
  exact ⟨h1, h2, h3.sub is hs, h4, h5, h6, h7, h8.sub js hjs, h9.sub ks hks⟩
theorem jSt.start {H0 : Heap} (hX : jX B base G [] H0) {L : List jPin} (hP : jP (dC, dI) G H0 L) {M : List jCt} (hM : jMc (dC, dI) G H0 M) {I : List jIv} (hI : jIs (dC, dI) G H0 I) : jSt (dC, dI) B base G G E H0 0 0 L M I H0 [] := ⟨va_S.rf, hX, hP, jKp.rf, jLe.rf, Nat.le_refl _, Nat.le_refl _, hM, hI⟩
end J8
def jI (lo hi : Int) : Value → Prop := fun v => ∃ x : Int32, v = .int x ∧ lo ≤ x.toInt ∧ x.toInt ≤ hi
def jIa : Value → Prop := fun v => ∃ x : Int32, v = .int x
def jZb : Value → Prop := fun v => ∃ x : Int32, v = .int x ∧ (x = 0 ∨ x = 1)
def jRf (G : jT) (k n : Nat) : Value → Prop := fun v => ∃ x : Nat, v = .ref x ∧ G x = some (k, n)
def jRk (G : jT) (k n : Nat) : Value → Prop := fun v => ∃ (x j : Nat), v = .ref x ∧ G x = some (k, j) ∧ j ≤ n
def jRn (G : jT) (k n : Nat) : Value → Prop := fun v => v = .null ∨ ∃ x : Nat, v = .ref x ∧ G x = some (k, n)
def jRm (G : jT) (k n : Nat) : Value → Prop := fun v => v = .null ∨ ∃ (x j : Nat), v = .ref x ∧ G x = some (k, j) ∧ j ≤ n
end
section
-- arrays of references
def jAq (D : va_G) (cA : ClassId) (P : jT → Option Nat → Prop) (n : Nat) (G : jT) (a : Nat) (H : Heap) : Prop := ∃ f : Nat → Option Nat, va_at D vwCl (a, .inl (cA, n, .inr (.inr (.inr (.inr f))))) H ∧ ∀ j, j < n → P G (f j)
def jQn (k n : Nat) (G : jT) : Option Nat → Prop := fun o => o = none ∨ ∃ x, o = some x ∧ G x = some (k, n)
def jQs (k n : Nat) (G : jT) : Option Nat → Prop := fun o => ∃ x, o = some x ∧ G x = some (k, n)
section J10
variable {p : Program} {l : Launch} {e : Env} {R : Room} {s : State} {m : MethodId} {args : Array Value} {below : List Frame} {meth : Method} {c : Code} {H : Heap} {locs : List Loc} {cells slots : Nat} {Q : State → Prop}
variable {cc : ByteArray} {pc : Nat} {ls : Array Slot} {rest : List Value} {dC : Nat → ClassId} {dI : Nat → Nat → Nat} {ca : Nat → ClassId} {B : jF} {base : Nat} {G0 G : jT} {E : List (Nat × Nat)} {H0 : Heap} {zc zs : Nat} {L : List jPin} {M : List jCt} {I : List jIv} {a k n : Nat} {P : jT → Option Nat → Prop} {cA : ClassId} {tys : List (ClassId × FieldType)} {C : String}
theorem jSt.aq (hh : jSt (dC, dI) B base G0 G E H0 zc zs L M I H locs) (hBk : ∀ n G a H, B k n G a H ↔ jAq (dC, dI) cA P n G a H) (hk : k < 1000) (ha : G a = some (k, n)) : ∃ f : Nat → Option Nat, va_at (dC, dI) vwCl (a, .inl (cA, n, .inr (.inr (.inr (.inr f))))) H ∧ ∀ j, j < n → P G (f j) := (hBk _ _ _ _).mp (hh.2.1.1 a k n ha hk (fun h => by cases h))
end J10
end
section
def F16 (n : Nat) (G : jT) : List (Value → Prop) := [jRf G 111 4000, jI 0 4000, jRf G 101 20000, jI 0 20000, jIa, jRf G 101 100000, jI 0 100000, jZb, jIa, jRf G 110 3300, jIa, jIa, jIa, jRf G 0 0, jRf G 0 0, jI (-1) 3000, jIa, jRf G 117 3100, jRf G 118 3100, jRf G 119 3100, jRf G 120 3100, jRf G 121 3100, jRf G 122 3100, jRf G 123 3100, jRf G 124 3100, jRf G 125 3100, jI 0 3100, jRf G 127 3300, jI 0 3300, jI 0 100000, jI 0 3000, jZb, jI 0 3300, jIa, jZb, jZb, jZb, jIa, jRf G 101 20, jI (-3300) 20, jZb, jRf G 201 3, jI 0 3, jRf G 112 3100, jI 0 1500, jRf G 101 1500, jRf G 14 0, jRf G 14 0, jI 0 12, jRf G 202 12, jRf G 103 12, jRf G 206 12, jRf G 104 12, jRf G 116 12, jRf G 126 240, jRf G 203 12, jRf G 101 37200, jRf G 204 12, jRf G 15 0, jRf G 101 3100, jRf G 208 2, jRf G 207 2, jRf G 115 2, jRf G 105 2, jIa, jIa, jI 0 24, jRf G 114 38400, jRf G 205 24, jRf G 113 1600, jI 0 1600, jRf G 14 0, jRf G 101 40, jRf G 101 40]
end
section
def jIn (x a b : Int) : Int := if a ≤ x ∧ x ≤ b then 1 else 0
end
section
def F8 (n : Nat) (G : jT) : List (Value → Prop) := [jRf G 102 8192, jRf G 132 8192, jRf G 133 16384, jI 0 8192]
end
section
def F6 (n : Nat) (G : jT) : List (Value → Prop) := [jRf G 140 1502, jRf G 141 1502, jRf G 142 1502, jRf G 143 1502, jRf G 144 1502, jRf G 145 1502, jRf G 146 3000, jI 0 1502, jI 0 3000, jRk G 100 3000, jI 0 3000, jI 0 20000]
end
section
def jOpI (f : Nat → Int32) (i n : Int) : Int := if i + 1 < n ∧ (f i.toNat).toInt = 40 ∧ (f (i + 1).toNat).toInt = 42 then 1 else 0
def jClI (f : Nat → Int32) (i n : Int) : Int := if i + 1 < n ∧ (f i.toNat).toInt = 42 ∧ (f (i + 1).toNat).toInt = 41 then 1 else 0
def jBc (f : Nat → Int32) (n : Int) : Nat → Int → Int → Int
  | 0, _, _ => -1
  | k + 1, i, d => if i < n then (if jOpI f i n = 1 then jBc f n k (i + 2) (d + 1) else if jClI f i n = 1 then (if d = 1 then i + 2 else jBc f n k (i + 2) (d - 1)) else jBc f n k (i + 1) d) else -1
theorem jBc_s {f : Nat → Int32} {n i d : Int} {k : Nat} (hk : 0 < k) : jBc f n k i d = if i < n then (if jOpI f i n = 1 then jBc f n (k - 1) (i + 2) (d + 1) else if jClI f i n = 1 then (if d = 1 then i + 2 else jBc f n (k - 1) (i + 2) (d - 1)) else jBc f n (k - 1) (i + 1) d) else -1 := by
  cases k with
  | zero => omega
  | succ k => rfl
end
section
def F15 (n : Nat) (G : jT) : List (Value → Prop) := [jRf G 150 120000, jRf G 151 120000, jRf G 152 120000, jRf G 153 120000, jRf G 154 120000, jI 0 120000, jRf G 166 12000, jI 0 12000, jRf G 155 1600, jRf G 156 1600, jI 0 1600, jI 0 16, jRf G 163 16, jRf G 103 16, jRf G 165 16, jI 0 16, jRf G 163 16, jRf G 160 16, jZb, jI 0 1599, jI 0 119999, jI 0 6, jRf G 161 46, jRf G 158 46, jRf G 163 276, jRf G 159 46, jRf G 163 368, jRf G 162 368, jRf G 167 1500, jRf G 157 1500, jI 0 1500, jIa, jI 0 1600, jZb, jI 0 9, jRf G 163 200, jI 0 200, jRf G 169 1, jI 0 1599, jI 0 1599, jI 0 1599, jI 0 3, jI 0 119999, jRf G 169 100, jRf G 168 100, jRf G 101 100000, jI 0 100000, jRf G 163 100, jRf G 164 100, jI 0 100]
def jLt (x : Int) : Int := if jIn x 97 122 = 1 then 1 else jIn x 65 90
end
section
def F3 (n : Nat) (G : jT) : List (Value → Prop) := [jRk G 174 3000, jIa, jRf G 173 1500, jI 0 1500, jI 0 40, jRf G 171 40, jRf G 172 40, jRf G 176 40, jRf G 177 40, jRf G 210 40, jI 0 40, jRm G 175 1500, jRn G 11 0, jIa, jIa, jIa, jI 0 1500]
end
section
def F14 (n : Nat) (G : jT) : List (Value → Prop) := [jRf G 195 40, jI 0 40, jIa, jRf G 194 1500, jI 0 1500, jI 0 40, jRf G 190 40, jRf G 191 40, jRf G 192 40, jI 0 40, jRf G 193 40]
end
section
-- new cells: an array of ints that is typed at once
section J11
variable {p : Program} {l : Launch} {e : Env} {R : Room} {s : State} {m : MethodId} {args : Array Value} {below : List Frame} {meth : Method} {c : Code} {H : Heap} {locs : List Loc} {cells slots : Nat} {Q : State → Prop}
variable {cc : ByteArray} {pc : Nat} {ls : Array Slot} {rest : List Value} {dC : Nat → ClassId} {dI : Nat → Nat → Nat} {ca : Nat → ClassId} {B : jF} {base : Nat} {G0 G : jT} {E : List (Nat × Nat)} {H0 : Heap} {zc zs : Nat} {L : List jPin} {M : List jCt} {I : List jIv} {k n : Nat} {P : Nat → Int32 → Prop} {cA : ClassId} {tys : List (ClassId × FieldType)}
theorem jf.lt {D : va_G} {k a i : Nat} {v : Value} {H : Heap} (h : jf D k a i v H) : a < H.size := by
  obtain ⟨r, -, -, cell, g, -⟩ := h
  exact (Array.getElem?_eq_some_iff.mp g).1
end J11
end
section
def F4 (n : Nat) (G : jT) : List (Value → Prop) := [jRf G 100 3000, jI (-1) 3000, jIa, jIa, jZb, jIa, jI (-1) 3000, jI 0 3001, jIa, jZb, jIa, jI 0 40000]
end
section
-- formulas of the reference's kernel as rows of numbers: what a node is, its size, likeness, counting, putting in
abbrev jK : Type := (Nat → Int32) × (Nat → Int32) × (Nat → Int32) × (Nat → Int32) × (Nat → Int32) × (Nat → Int32)
abbrev jK.s (C : jK) : Nat → Int32 := C.1
abbrev jK.n (C : jK) : Nat → Int32 := C.2.1
abbrev jK.a (C : jK) : Nat → Int32 := C.2.2.1
abbrev jK.b (C : jK) : Nat → Int32 := C.2.2.2.1
abbrev jK.c (C : jK) : Nat → Int32 := C.2.2.2.2.1
abbrev jK.y (C : jK) : Nat → Int32 := C.2.2.2.2.2
abbrev jK.mk (s n a b c y : Nat → Int32) : jK := (s, n, a, b, c, y)
def jSo (f : Nat → Int32) (n : Int) : Int := (f n.toNat).toInt
def jPts (C : jK) (n : Int) : Int := if jSo C.s n = 7 ∨ jSo C.s n = 8 then jSo C.y (jSo C.n n) else if jSo C.s n ≤ 2 ∨ jSo C.s n = 6 then 2 else if jSo C.s n = 4 ∨ jSo C.s n = 5 then 1 else 0
def jPr (C : jK) (n k : Int) : Int := if k = 0 then jSo C.a n else if k = 1 then jSo C.b n else jSo C.c n
def jQf (C : jK) (n : Int) : Int := if jSo C.s n = 4 ∨ jSo C.s n = 5 then 1 else 0
/-- a node of a formula: N nodes, Y symbols, b names that are bound around it -/
def jNd (C : jK) (N Y b n : Int) : Prop := 0 ≤ n ∧ n < N ∧ 0 ≤ jSo C.s n ∧ jSo C.s n ≤ 10 ∧ (jSo C.s n = 7 ∨ jSo C.s n = 8 → 0 ≤ jSo C.n n ∧ jSo C.n n < Y) ∧ (jSo C.s n = 10 → 0 ≤ jSo C.n n ∧ jSo C.n n < b) ∧ (jSo C.s n = 9 ∨ jSo C.s n = 4 ∨ jSo C.s n = 5 → 0 ≤ jSo C.n n ∧ jSo C.n n ≤ 1599) ∧ 0 ≤ jPts C n ∧ jPts C n ≤ 3
def jFm (C : jK) (N Y : Int) : Nat → Int → Int → Prop
  | 0, _, _ => False
  | d + 1, b, n => jNd C N Y b n ∧ ∀ k : Int, 0 ≤ k → k < jPts C n → jFm C N Y d (b + jQf C n) (jPr C n k)
def jSzF (C : jK) : Nat → Int → Int
  | 0, _ => 0
  | d + 1, n => 1 + (if 0 < jPts C n then jSzF C d (jPr C n 0) else 0) + (if 1 < jPts C n then jSzF C d (jPr C n 1) else 0) + (if 2 < jPts C n then jSzF C d (jPr C n 2) else 0)
def jsz (C : jK) (n : Int) : Int := jSzF C 4000 n
/-- the size of a node and its first k parts -/
def jSzK (C : jK) (n k : Int) : Int := 1 + (if 0 < k then jsz C (jPr C n 0) else 0) + (if 1 < k then jsz C (jPr C n 1) else 0) + (if 2 < k then jsz C (jPr C n 2) else 0)
theorem jFm.nd {C : jK} {N Y b n : Int} {d : Nat} (h : jFm C N Y d b n) : jNd C N Y b n := by
  cases d with
  | zero => exact h.elim
  | succ d => exact h.1
theorem jFm.pos {C : jK} {N Y b n : Int} {d : Nat} (h : jFm C N Y d b n) : 1 ≤ d := by
  cases d with
  | zero => exact h.elim
  | succ d => omega
theorem jFm.part {C : jK} {N Y b n : Int} {d : Nat} (h : jFm C N Y d b n) {k : Int} (h0 : 0 ≤ k) (h1 : k < jPts C n) : jFm C N Y (d - 1) (b + jQf C n) (jPr C n k) := by
  cases d with
  | zero => exact h.elim
  | succ d => exact h.2 k h0 h1
theorem jFm.mono {C : jK} {N Y : Int} {d : Nat} : ∀ {b n : Int}, jFm C N Y d b n → ∀ {d1 : Nat} {b1 : Int}, d ≤ d1 → b ≤ b1 → jFm C N Y d1 b1 n := by
  induction d with
  | zero => intro b n h; exact h.elim
  | succ d ih =>
    intro b n h d1 b1 hd hb
    cases d1 with
    | zero => omega
    | succ d1 =>
      obtain ⟨⟨h1, h2, h3, h4, h5, h6, h7, h8⟩, hp⟩ := h
      exact ⟨⟨h1, h2, h3, h4, h5, fun q => ⟨(h6 q).1, by have := (h6 q).2; omega⟩, h7, h8⟩, fun k g0 g1 => ih (hp k g0 g1) (by omega) (by omega)⟩
theorem jSzF_fuel {C : jK} {N Y : Int} {d : Nat} : ∀ {b n : Int}, jFm C N Y d b n → ∀ d1, d ≤ d1 → jSzF C d1 n = jSzF C d n := by
  induction d with
  | zero => intro b n h; exact h.elim
  | succ d ih =>
    intro b n h d1 hd
    cases d1 with
    | zero => omega
    | succ d1 =>
      have e : ∀ k, 0 ≤ k → k < jPts C n → jSzF C d1 (jPr C n k) = jSzF C d (jPr C n k) := fun k g0 g1 => ih (h.2 k g0 g1) d1 (by omega)
      unfold jSzF
      have e0 : (if 0 < jPts C n then jSzF C d1 (jPr C n 0) else 0) = (if 0 < jPts C n then jSzF C d (jPr C n 0) else 0) := by split; exact e 0 (by omega) (by omega); rfl
      have e1 : (if 1 < jPts C n then jSzF C d1 (jPr C n 1) else 0) = (if 1 < jPts C n then jSzF C d (jPr C n 1) else 0) := by split; exact e 1 (by omega) (by omega); rfl
      have e2 : (if 2 < jPts C n then jSzF C d1 (jPr C n 2) else 0) = (if 2 < jPts C n then jSzF C d (jPr C n 2) else 0) := by split; exact e 2 (by omega) (by omega); rfl
      rw [e0, e1, e2]
theorem jsz_step {C : jK} {N Y b n : Int} {d : Nat} (h : jFm C N Y d b n) (hd : d ≤ 4000) : jsz C n = jSzK C n (jPts C n) := by
  unfold jsz jSzK
  have e : ∀ k, 0 ≤ k → k < jPts C n → jSzF C 3999 (jPr C n k) = jsz C (jPr C n k) := fun k g0 g1 => by
    have hp := h.part g0 g1
    unfold jsz
    rw [jSzF_fuel hp 3999 (by omega), jSzF_fuel hp 4000 (by omega)]
  show 1 + (if 0 < jPts C n then jSzF C 3999 (jPr C n 0) else 0) + (if 1 < jPts C n then jSzF C 3999 (jPr C n 1) else 0) + (if 2 < jPts C n then jSzF C 3999 (jPr C n 2) else 0) = _
  have e0 : (if 0 < jPts C n then jSzF C 3999 (jPr C n 0) else 0) = (if 0 < jPts C n then jsz C (jPr C n 0) else 0) := by split; exact e 0 (by omega) (by omega); rfl
  have e1 : (if 1 < jPts C n then jSzF C 3999 (jPr C n 1) else 0) = (if 1 < jPts C n then jsz C (jPr C n 1) else 0) := by split; exact e 1 (by omega) (by omega); rfl
  have e2 : (if 2 < jPts C n then jSzF C 3999 (jPr C n 2) else 0) = (if 2 < jPts C n then jsz C (jPr C n 2) else 0) := by split; exact e 2 (by omega) (by omega); rfl
  rw [e0, e1, e2]
theorem jSzF_nn {C : jK} : ∀ (d : Nat) (n : Int), 0 ≤ jSzF C d n := by
  intro d
  induction d with
  | zero => intro n; unfold jSzF; omega
  | succ d ih =>
    intro n
    have h0 := ih (jPr C n 0); have h1 := ih (jPr C n 1); have h2 := ih (jPr C n 2)
    unfold jSzF
    split <;> split <;> split <;> omega
theorem jsz_nn (C : jK) (n : Int) : 0 ≤ jsz C n := jSzF_nn _ _
theorem jsz_pos {C : jK} {N Y b n : Int} {d : Nat} (_ : jFm C N Y d b n) : 1 ≤ jsz C n := by
  unfold jsz
  show 1 ≤ 1 + (if 0 < jPts C n then jSzF C 3999 (jPr C n 0) else 0) + (if 1 < jPts C n then jSzF C 3999 (jPr C n 1) else 0) + (if 2 < jPts C n then jSzF C 3999 (jPr C n 2) else 0)
  have h0 := jSzF_nn (C := C) 3999 (jPr C n 0); have h1 := jSzF_nn (C := C) 3999 (jPr C n 1); have h2 := jSzF_nn (C := C) 3999 (jPr C n 2)
  split <;> split <;> split <;> omega
theorem jSzK_0 (C : jK) (n : Int) : jSzK C n 0 = 1 := by unfold jSzK; simp
theorem jSzK_s (C : jK) (n : Int) {k : Int} (h0 : 0 ≤ k) (h1 : k ≤ 2) : jSzK C n (k + 1) = jSzK C n k + jsz C (jPr C n k) := by
  have h : k = 0 ∨ k = 1 ∨ k = 2 := by omega
  unfold jSzK
  rcases h with rfl | rfl | rfl <;> simp <;> omega
theorem jSzK_le (C : jK) (n : Int) {k p : Int} (h0 : 0 ≤ k) (h1 : k ≤ p) : jSzK C n k ≤ jSzK C n p := by
  have g0 := jsz_nn C (jPr C n 0); have g1 := jsz_nn C (jPr C n 1); have g2 := jsz_nn C (jPr C n 2)
  unfold jSzK
  split <;> split <;> split <;> split <;> split <;> split <;> omega
theorem jsz_part {C : jK} {N Y b n : Int} {d : Nat} (h : jFm C N Y d b n) (hd : d ≤ 4000) {k : Int} (h0 : 0 ≤ k) (h1 : k < jPts C n) : jsz C (jPr C n k) + 1 ≤ jsz C n := by
  have h9 := h.nd
  have hp : jPts C n ≤ 3 := h9.2.2.2.2.2.2.2.2
  rw [jsz_step h hd]
  have h2 := jSzK_le C n (k := k + 1) (p := jPts C n) (by omega) (by omega)
  rw [jSzK_s C n h0 (by omega)] at h2
  have h3 := jSzK_le C n (k := 0) (p := k) (by omega) h0
  rw [jSzK_0] at h3
  omega
/-- as deep as large at most -/
theorem jFm.tight {C : jK} {N Y : Int} {d : Nat} (hd : d ≤ 4000) : ∀ {b n : Int}, jFm C N Y d b n → ∀ e : Nat, jsz C n ≤ e → jFm C N Y e b n := by
  induction d with
  | zero => intro b n h; exact h.elim
  | succ d ih =>
    intro b n h e he
    have h1 := jsz_pos h
    cases e with
    | zero => exact absurd he (by omega)
    | succ e => exact ⟨h.1, fun k g0 g1 => ih (by omega) (h.2 k g0 g1) e (by have := jsz_part h (by omega) g0 g1; omega)⟩
-- the same rows below N
def jAgK (C D : jK) (N : Int) : Prop := (∀ j : Nat, (j : Int) < N → D.s j = C.s j ∧ D.n j = C.n j ∧ D.a j = C.a j ∧ D.b j = C.b j ∧ D.c j = C.c j) ∧ ∀ j, D.y j = C.y j
theorem jAgK.rf (C : jK) (N : Int) : jAgK C C N := ⟨fun _ _ => ⟨rfl, rfl, rfl, rfl, rfl⟩, fun _ => rfl⟩
theorem jAgK.tr {C D E : jK} {N M : Int} (h : jAgK C D N) (h1 : jAgK D E M) (hm : N ≤ M) : jAgK C E N := ⟨fun j hj => by
  obtain ⟨a1, a2, a3, a4, a5⟩ := h.1 j hj
  obtain ⟨b1, b2, b3, b4, b5⟩ := h1.1 j (by omega)
  exact ⟨b1.trans a1, b2.trans a2, b3.trans a3, b4.trans a4, b5.trans a5⟩, fun j => (h1.2 j).trans (h.2 j)⟩
theorem jAgK.so {C D : jK} {N n : Int} (h : jAgK C D N) (h0 : 0 ≤ n) (h1 : n < N) : jSo D.s n = jSo C.s n ∧ jSo D.n n = jSo C.n n ∧ jSo D.a n = jSo C.a n ∧ jSo D.b n = jSo C.b n ∧ jSo D.c n = jSo C.c n := by
  obtain ⟨a1, a2, a3, a4, a5⟩ := h.1 n.toNat (by omega)
  unfold jSo
  exact ⟨by rw [a1], by rw [a2], by rw [a3], by rw [a4], by rw [a5]⟩
theorem jAgK.pts {C D : jK} {N n : Int} (h : jAgK C D N) (h0 : 0 ≤ n) (h1 : n < N) : jPts D n = jPts C n := by
  obtain ⟨a1, a2, a3, a4, a5⟩ := h.so h0 h1
  unfold jPts
  rw [a1, a2]
  have e : jSo D.y (jSo C.n n) = jSo C.y (jSo C.n n) := by unfold jSo; rw [h.2]
  rw [e]
theorem jAgK.pr {C D : jK} {N n : Int} (h : jAgK C D N) (h0 : 0 ≤ n) (h1 : n < N) (k : Int) : jPr D n k = jPr C n k := by
  obtain ⟨a1, a2, a3, a4, a5⟩ := h.so h0 h1
  unfold jPr
  rw [a3, a4, a5]
theorem jAgK.qf {C D : jK} {N n : Int} (h : jAgK C D N) (h0 : 0 ≤ n) (h1 : n < N) : jQf D n = jQf C n := by
  unfold jQf
  rw [(h.so h0 h1).1]
theorem jFm.ag {C D : jK} {N M Y : Int} (hA : jAgK C D N) (hM : N ≤ M) {d : Nat} : ∀ {b n : Int}, jFm C N Y d b n → jFm D M Y d b n := by
  induction d with
  | zero => intro b n h; exact h.elim
  | succ d ih =>
    intro b n h
    obtain ⟨⟨h1, h2, h3, h4, h5, h6, h7, h8, h9⟩, hp⟩ := h
    obtain ⟨a1, a2, -⟩ := hA.so h1 h2
    have ap := hA.pts h1 h2
    refine ⟨⟨h1, by omega, ?_, ?_, ?_, ?_, ?_, ?_, ?_⟩, fun k g0 g1 => ?_⟩
    · rw [a1]; exact h3
    · rw [a1]; exact h4
    · rw [a1, a2]; exact h5
    · rw [a1, a2]; exact h6
    · rw [a1, a2]; exact h7
    · rw [ap]; exact h8
    · rw [ap]; exact h9
    · rw [hA.qf h1 h2, hA.pr h1 h2]; exact ih (hp k g0 (by rw [ap] at g1; exact g1))
theorem jSzF_ag {C D : jK} {N Y : Int} (hA : jAgK C D N) {d : Nat} : ∀ {b n : Int}, jFm C N Y d b n → ∀ e, jSzF D e n = jSzF C e n := by
  induction d with
  | zero => intro b n h; exact h.elim
  | succ d ih =>
    intro b n h e
    have h1 := h.nd.1; have h2 := h.nd.2.1
    cases e with
    | zero => rfl
    | succ e =>
      unfold jSzF
      rw [hA.pts h1 h2]
      have ee : ∀ k, 0 ≤ k → k < jPts C n → jSzF D e (jPr D n k) = jSzF C e (jPr C n k) := fun k g0 g1 => by rw [hA.pr h1 h2]; exact ih (h.2 k g0 g1) e
      have e0 : (if 0 < jPts C n then jSzF D e (jPr D n 0) else 0) = (if 0 < jPts C n then jSzF C e (jPr C n 0) else 0) := by split; exact ee 0 (by omega) (by omega); rfl
      have e1 : (if 1 < jPts C n then jSzF D e (jPr D n 1) else 0) = (if 1 < jPts C n then jSzF C e (jPr C n 1) else 0) := by split; exact ee 1 (by omega) (by omega); rfl
      have e2 : (if 2 < jPts C n then jSzF D e (jPr D n 2) else 0) = (if 2 < jPts C n then jSzF C e (jPr C n 2) else 0) := by split; exact ee 2 (by omega) (by omega); rfl
      rw [e0, e1, e2]
theorem jsz_ag {C D : jK} {N Y b n : Int} {d : Nat} (hA : jAgK C D N) (h : jFm C N Y d b n) : jsz D n = jsz C n := jSzF_ag hA h 4000
-- likeness
/-- the terms that are put in -/
def jTs (C : jK) (N Y : Int) (e : Nat) (T : Nat → Int32) (m : Int) : Prop := ∀ k : Int, 0 ≤ k → k < m → jFm C N Y e 0 (jSo T k) ∧ jsz C (jSo T k) ≤ 5000
theorem jTs.ag {C D : jK} {N M Y m : Int} {e : Nat} {T : Nat → Int32} (h : jTs C N Y e T m) (hA : jAgK C D N) (hM : N ≤ M) : jTs D M Y e T m := fun k g0 g1 => ⟨(h k g0 g1).1.ag hA hM, by rw [jsz_ag hA (h k g0 g1).1]; exact (h k g0 g1).2⟩
def jNw (C D : jK) (N ws wn wa wb wc : Int) : Prop := jAgK C D N ∧ jSo D.s N = ws ∧ jSo D.n N = wn ∧ jSo D.a N = wa ∧ jSo D.b N = wb ∧ jSo D.c N = wc
theorem jNw.sz {C D : jK} {N Y b ws wn wa wb wc : Int} {d : Nat} (h : jNw C D N ws wn wa wb wc) (hd : d + 1 ≤ 4000) (hF : jFm D (N + 1) Y (d + 1) b N) (ha : 0 < jPts D N → jFm C N Y d (b + jQf D N) wa) (hb : 1 < jPts D N → jFm C N Y d (b + jQf D N) wb) (hc : 2 < jPts D N → jFm C N Y d (b + jQf D N) wc) : jsz D N = 1 + (if 0 < jPts D N then jsz C wa else 0) + (if 1 < jPts D N then jsz C wb else 0) + (if 2 < jPts D N then jsz C wc else 0) := by
  obtain ⟨hA, e1, e2, e3, e4, e5⟩ := h
  rw [jsz_step hF hd]
  unfold jSzK
  have q0 : (if 0 < jPts D N then jsz D (jPr D N 0) else 0) = (if 0 < jPts D N then jsz C wa else 0) := by split; (next g => show jsz D (jSo D.a N) = _; rw [e3, jsz_ag hA (ha g)]); rfl
  have q1 : (if 1 < jPts D N then jsz D (jPr D N 1) else 0) = (if 1 < jPts D N then jsz C wb else 0) := by split; (next g => show jsz D (jSo D.b N) = _; rw [e4, jsz_ag hA (hb g)]); rfl
  have q2 : (if 2 < jPts D N then jsz D (jPr D N 2) else 0) = (if 2 < jPts D N then jsz C wc else 0) := by split; (next g => show jsz D (jSo D.c N) = _; rw [e5, jsz_ag hA (hc g)]); rfl
  rw [q0, q1, q2]
theorem jFm.wide {C : jK} {N Y N1 Y1 : Int} (hN : N ≤ N1) (hY : Y ≤ Y1) {d : Nat} : ∀ {b n : Int}, jFm C N Y d b n → jFm C N1 Y1 d b n := by
  induction d with
  | zero => intro b n h; exact h.elim
  | succ d ih =>
    intro b n h
    obtain ⟨⟨h1, h2, h3, h4, h5, h6⟩, hp⟩ := h
    exact ⟨⟨h1, by omega, h3, h4, fun q => ⟨(h5 q).1, by have := (h5 q).2; omega⟩, h6⟩, fun k g0 g1 => ih (hp k g0 g1)⟩
/-- a formula of some depth at most, whatever is bound around it -/
def jTr (C : jK) (d : Nat) (n : Int) : Prop := ∃ b, jFm C 120000 16 d b n
theorem jFm.tr {C : jK} {N Y b n : Int} {d : Nat} (h : jFm C N Y d b n) (hN : N ≤ 120000) (hY : Y ≤ 16) : jTr C d n := ⟨b, h.wide hN hY⟩
theorem jTr.part {C : jK} {d : Nat} {n k : Int} (h : jTr C d n) (h0 : 0 ≤ k) (h1 : k < jPts C n) : jTr C (d - 1) (jPr C n k) := by obtain ⟨b, h⟩ := h; exact ⟨_, h.part h0 h1⟩
theorem jTr.mono {C : jK} {d d1 : Nat} {n : Int} (h : jTr C d n) (hd : d ≤ d1) : jTr C d1 n := by obtain ⟨b, h⟩ := h; exact ⟨b, h.mono hd (Int.le_refl b)⟩
theorem jTr.ok {C : jK} {d : Nat} {n : Int} (h : jTr C d n) : 0 ≤ n ∧ n < 120000 ∧ 0 ≤ jSo C.s n ∧ jSo C.s n ≤ 10 ∧ (jSo C.s n = 7 ∨ jSo C.s n = 8 → 0 ≤ jSo C.n n ∧ jSo C.n n < 16) ∧ 0 ≤ jPts C n ∧ jPts C n ≤ 3 ∧ 1 ≤ d := by
  obtain ⟨b, h⟩ := h
  obtain ⟨h1, h2, h3, h4, h5, h6, h7, h8, h9⟩ := h.nd
  exact ⟨h1, h2, h3, h4, h5, h8, h9, h.pos⟩
theorem jTr.step {C : jK} {d : Nat} {n : Int} (h : jTr C d n) (hd : d ≤ 4000) : jsz C n = jSzK C n (jPts C n) := by obtain ⟨b, h⟩ := h; exact jsz_step h hd
theorem jTr.pos {C : jK} {d : Nat} {n : Int} (h : jTr C d n) : 1 ≤ jsz C n := by obtain ⟨b, h⟩ := h; exact jsz_pos h
theorem jFm.leaf {C : jK} {N Y b n : Int} {d : Nat} (h : jFm C N Y d b n) (h0 : jPts C n = 0) {b1 : Int} (h1 : jSo C.s n = 10 → jSo C.n n < b1) {e : Nat} (he : 1 ≤ e) : jFm C N Y e b1 n ∧ jsz C n = 1 := by
  obtain ⟨q1, q2, q3, q4, q5, q6, q7⟩ := h.nd
  cases e with
  | zero => omega
  | succ e =>
    refine ⟨⟨⟨q1, q2, q3, q4, q5, fun q => ⟨(q6 q).1, h1 q⟩, q7⟩, fun k g0 g1 => by omega⟩, ?_⟩
    unfold jsz
    show 1 + (if 0 < jPts C n then jSzF C 3999 (jPr C n 0) else 0) + (if 1 < jPts C n then jSzF C 3999 (jPr C n 1) else 0) + (if 2 < jPts C n then jSzF C 3999 (jPr C n 2) else 0) = 1
    rw [h0]; simp
section J12
variable {p : Program} {l : Launch} {e : Env} {R : Room} {s : State} {m : MethodId} {args : Array Value} {below : List Frame} {meth : Method} {c : Code} {H : Heap} {locs : List Loc} {cells slots : Nat} {Q : State → Prop}
variable {cc : ByteArray} {pc : Nat} {ls : Array Slot} {rest : List Value} {dC : Nat → ClassId} {dI : Nat → Nat → Nat} {ca : Nat → ClassId} {B : jF} {base : Nat} {G0 G : jT} {E : List (Nat × Nat)} {H0 : Heap} {zc zs : Nat} {L : List jPin} {M : List jCt} {I : List jIv} {a k n : Nat} {P : Nat → Int32 → Prop} {cA : ClassId} {tys : List (ClassId × FieldType)}
end J12
end
section
-- goals, hypotheses, facts of the reference's kernel: slots of arrays
def jUpd (n : Int) (f g : Nat → Int32) (i v : Int) : Prop := jSo g i = v ∧ ∀ j : Int, 0 ≤ j → j < n → j ≠ i → jSo g j = jSo f j
theorem jUpd.mk {n : Nat} {f g : Nat → Int32} {e i v : Int} (hv : jSo g e = v) (ho : ∀ j, j < n → j ≠ e.toNat → g j = f j) (he : e = i) (h0 : 0 ≤ i) : jUpd n f g i v := by
  subst he
  refine ⟨hv, fun j g0 g1 g2 => ?_⟩
  unfold jSo
  rw [ho j.toNat (by omega) (by omega)]
def jCpy (fg fh fp gg gh gp : Nat → Int32) (x y : Int) : Prop := jUpd 46 fg gg y (jSo fg x) ∧ jUpd 46 fh gh y (jSo fh x) ∧ (∀ i : Int, 0 ≤ i → i < 8 → jSo gp (8 * y + i) = jSo fp (8 * x + i)) ∧ ∀ j : Int, 0 ≤ j → j < 368 → (j < 8 * y ∨ 8 * y + 8 ≤ j) → jSo gp j = jSo fp j
def jPq (f g : Nat → Int32) (x y k : Int) : Prop := (∀ i : Int, 0 ≤ i → i < k → jSo g (8 * y + i) = jSo f (8 * x + i)) ∧ ∀ j : Int, 0 ≤ j → j < 368 → (j < 8 * y ∨ 8 * y + k ≤ j) → jSo g j = jSo f j
theorem jPq.rf (f : Nat → Int32) (x y : Int) : jPq f f x y 0 := ⟨fun i h0 h1 => by omega, fun _ _ _ _ => rfl⟩
theorem jPq.s {f g h : Nat → Int32} {x y k e e2 z : Int} (hq : jPq f g x y k) (hv : jSo h e = z) (ho : ∀ j, j < 368 → j ≠ e.toNat → h j = g j) (he : e = 8 * y + k) (hz : z = jSo g e2) (he2 : e2 = 8 * x + k) (hx : 0 ≤ x ∧ x ≤ 45) (hy : 0 ≤ y ∧ y ≤ 45) (hk : 0 ≤ k ∧ k < 8) : jPq f h x y (k + 1) := by
  have hU := jUpd.mk (n := 368) hv ho he (by omega)
  subst he2
  have e1 : jSo g (8 * x + k) = jSo f (8 * x + k) := hq.2 _ (by omega) (by omega) (by omega)
  refine ⟨fun i h0 h1 => ?_, fun j h0 h1 h2 => ?_⟩
  · by_cases q : i = k
    · rw [q, hU.1, hz, e1]
    · rw [hU.2 _ (by omega) (by omega) (by omega)]; exact hq.1 i h0 (by omega)
  · rw [hU.2 j h0 h1 (by omega)]; exact hq.2 j h0 h1 (by omega)
def jSe (fg fh fp gg gh gp : Nat → Int32) (i j : Int) : Prop := jSo gg j = jSo fg i ∧ jSo gh j = jSo fh i ∧ ∀ k : Int, 0 ≤ k → k < 8 → jSo gp (8 * j + k) = jSo fp (8 * i + k)
theorem jSe.rf (fg fh fp : Nat → Int32) (i : Int) : jSe fg fh fp fg fh fp i i := ⟨rfl, rfl, fun _ _ _ => rfl⟩
theorem jCpy.at {fg fh fp gg gh gp hg hh hp : Nat → Int32} {x y i : Int} (h : jCpy gg gh gp hg hh hp x y) (hs : jSe fg fh fp gg gh gp i x) : jSe fg fh fp hg hh hp i y := ⟨h.1.1.trans hs.1, h.2.1.1.trans hs.2.1, fun k g0 g1 => (h.2.2.1 k g0 g1).trans (hs.2.2 k g0 g1)⟩
theorem jCpy.off {fg fh fp gg gh gp hg hh hp : Nat → Int32} {x y i j : Int} (h : jCpy gg gh gp hg hh hp x y) (hs : jSe fg fh fp gg gh gp i j) (hj : 0 ≤ j) (hj1 : j ≤ 45) (hn : j ≠ y) (hy : 0 ≤ y) : jSe fg fh fp hg hh hp i j := ⟨(h.1.2 j hj (by omega) hn).trans hs.1, (h.2.1.2 j hj (by omega) hn).trans hs.2.1, fun k g0 g1 => (h.2.2.2 _ (by omega) (by omega) (by omega)).trans (hs.2.2 k g0 g1)⟩
def jT0 (fg fh fp gg gh gp : Nat → Int32) (p v : Int) : Prop := (∀ j : Int, 0 ≤ j → j < v → jSe fg fh fp gg gh gp (j + 1) j) ∧ ∀ j : Int, v ≤ j → j < p → jSe fg fh fp gg gh gp j j
theorem jT0.rf (fg fh fp : Nat → Int32) (p : Int) : jT0 fg fh fp fg fh fp p 0 := ⟨fun j h0 h1 => by omega, fun _ _ _ => jSe.rf _ _ _ _⟩
theorem jT0.s {fg fh fp gg gh gp hg hh hp : Nat → Int32} {p v x y : Int} (h : jT0 fg fh fp gg gh gp p v) (hc : jCpy gg gh gp hg hh hp x y) (hx : x = v + 1) (hy : y = v) (h0 : 0 ≤ v) (h1 : v + 1 < p) (h2 : p ≤ 46) : jT0 fg fh fp hg hh hp p (v + 1) := by
  subst hx; subst hy
  refine ⟨fun j g0 g1 => ?_, fun j g0 g1 => ?_⟩
  · by_cases q : j = y
    · rw [q]; exact hc.at (h.2 _ (by omega) h1)
    · exact hc.off (h.1 j g0 (by omega)) g0 (by omega) q h0
  · exact hc.off (h.2 j (by omega) g1) (by omega) (by omega) (by omega) h0
def jTu1 (fg fh fp gg gh gp : Nat → Int32) (p n v : Int) : Prop := (∀ j : Int, v < j → j < p → jSe fg fh fp gg gh gp j (j + n - 1)) ∧ ∀ j : Int, 0 ≤ j → j ≤ v → jSe fg fh fp gg gh gp j j
theorem jTu1.rf (fg fh fp : Nat → Int32) (p n : Int) : jTu1 fg fh fp fg fh fp p n (p - 1) := ⟨fun j h0 h1 => by omega, fun _ _ _ => jSe.rf _ _ _ _⟩
theorem jTu1.s {fg fh fp gg gh gp hg hh hp : Nat → Int32} {p n v x y : Int} (h : jTu1 fg fh fp gg gh gp p n v) (hc : jCpy gg gh gp hg hh hp x y) (hx : x = v) (hy : y = v + n - 1) (h0 : 0 < v) (h1 : v < p) (h3 : 1 ≤ n) (h2 : p + n ≤ 46) : jTu1 fg fh fp hg hh hp p n (v - 1) := by
  subst hx; subst hy
  refine ⟨fun j g0 g1 => ?_, fun j g0 g1 => ?_⟩
  · by_cases q : j = x
    · rw [q]; exact hc.at (h.2 _ (by omega) (by omega))
    · exact hc.off (h.1 j (by omega) g1) (by omega) (by omega) (by omega) (by omega)
  · exact hc.off (h.2 j g0 (by omega)) g0 (by omega) (by omega) (by omega)
def jTu2 (fg fh fp gg gh gp : Nat → Int32) (p n v : Int) : Prop := (∀ j : Int, 0 < j → j < p → jSe fg fh fp gg gh gp j (j + n - 1)) ∧ ∀ j : Int, 0 ≤ j → j < v → jSe fg fh fp gg gh gp 0 j
theorem jTu2.s {fg fh fp gg gh gp hg hh hp : Nat → Int32} {p n v x y : Int} (h : jTu2 fg fh fp gg gh gp p n v) (hc : jCpy gg gh gp hg hh hp x y) (hx : x = 0) (hy : y = v) (h0 : 1 ≤ v) (h1 : v < n) (h2 : p + n ≤ 46) (h3 : 0 ≤ p) : jTu2 fg fh fp hg hh hp p n (v + 1) := by
  subst hx; subst hy
  refine ⟨fun j g0 g1 => hc.off (h.1 j g0 g1) (by omega) (by omega) (by omega) (by omega), fun j g0 g1 => ?_⟩
  by_cases q : j = y
  · rw [q]; exact hc.at (h.2 0 (by omega) (by omega))
  · exact hc.off (h.2 j g0 (by omega)) g0 (by omega) q (by omega)
def jDq (f g : Nat → Int32) (x h v : Int) : Prop := (∀ k : Int, 0 ≤ k → k < 8 → (k < h ∨ v ≤ k → jSo g (8 * x + k) = jSo f (8 * x + k)) ∧ (h ≤ k ∧ k < v → jSo g (8 * x + k) = jSo f (8 * x + (k + 1)))) ∧ ∀ j : Int, 0 ≤ j → j < 368 → (j < 8 * x ∨ 8 * x + 8 ≤ j) → jSo g j = jSo f j
theorem jDq.rf (f : Nat → Int32) (x h : Int) : jDq f f x h h := ⟨fun k _ _ => ⟨fun _ => rfl, fun q => by omega⟩, fun _ _ _ _ => rfl⟩
theorem jDq.s {f g r : Nat → Int32} {x h v e e2 z : Int} (hq : jDq f g x h v) (hv : jSo r e = z) (ho : ∀ j, j < 368 → j ≠ e.toNat → r j = g j) (he : e = 8 * x + v) (hz : z = jSo g e2) (he2 : e2 = 8 * x + v + 1) (hx : 0 ≤ x ∧ x ≤ 45) (hh : 0 ≤ h ∧ h ≤ v ∧ v < 7) : jDq f r x h (v + 1) := by
  have hU := jUpd.mk (n := 368) hv ho he (by omega)
  have e1 := (hq.1 (v + 1) (by omega) (by omega)).1 (Or.inr (by omega))
  rw [show 8 * x + v + 1 = 8 * x + (v + 1) by omega] at he2
  subst he2
  refine ⟨fun k h0 h1 => ⟨fun q => ?_, fun q => ?_⟩, fun j h0 h1 h2 => ?_⟩
  · rw [hU.2 _ (by omega) (by omega) (by omega)]; exact (hq.1 k h0 h1).1 (by omega)
  · by_cases w : k = v
    · rw [w, hU.1, hz, e1]
    · rw [hU.2 _ (by omega) (by omega) (by omega)]; exact (hq.1 k h0 h1).2 (by omega)
  · rw [hU.2 j h0 h1 (by omega)]; exact hq.2 j h0 h1 h2
def jDh (fh fp gh gp : Nat → Int32) (x : Int) : Prop := jUpd 46 fh gh x (jSo fh x - 1) ∧ (∀ k : Int, 0 ≤ k → k < jSo fh x - 1 → ∃ i : Int, 0 ≤ i ∧ i < jSo fh x ∧ jSo gp (8 * x + k) = jSo fp (8 * x + i)) ∧ ∀ j : Int, 0 ≤ j → j < 368 → (j < 8 * x ∨ 8 * x + 8 ≤ j) → jSo gp j = jSo fp j
def jSl (P : Int → Prop) (fg fh fp : Nat → Int32) (g : Int) : Prop := P (jSo fg g) ∧ 0 ≤ jSo fh g ∧ jSo fh g ≤ 8 ∧ ∀ k : Int, 0 ≤ k → k < jSo fh g → P (jSo fp (8 * g + k))
def jGl (P : Int → Prop) (fg fh fp : Nat → Int32) (n : Int) : Prop := ∀ g : Int, 0 ≤ g → g < n → jSl P fg fh fp g
def jFa (P : Int → Prop) (ff : Nat → Int32) (n : Int) : Prop := ∀ k : Int, 0 ≤ k → k < n → P (jSo ff k)
theorem jSl.mono {P P1 : Int → Prop} {fg fh fp : Nat → Int32} {g : Int} (h : jSl P fg fh fp g) (hP : ∀ x, P x → P1 x) : jSl P1 fg fh fp g := ⟨hP _ h.1, h.2.1, h.2.2.1, fun k g0 g1 => hP _ (h.2.2.2 k g0 g1)⟩
theorem jGl.mono {P P1 : Int → Prop} {fg fh fp : Nat → Int32} {n : Int} (h : jGl P fg fh fp n) (hP : ∀ x, P x → P1 x) : jGl P1 fg fh fp n := fun g g0 g1 => (h g g0 g1).mono hP
theorem jGl.less {P : Int → Prop} {fg fh fp : Nat → Int32} {n m : Int} (h : jGl P fg fh fp n) (hm : m ≤ n) : jGl P fg fh fp m := fun g g0 g1 => h g g0 (by omega)
theorem jFa.mono {P P1 : Int → Prop} {ff : Nat → Int32} {n : Int} (h : jFa P ff n) (hP : ∀ x, P x → P1 x) : jFa P1 ff n := fun k g0 g1 => hP _ (h k g0 g1)
theorem jGl.drop {P : Int → Prop} {fg fh fp gh gp : Nat → Int32} {n i : Int} (h : jGl P fg fh fp n) (hD : jDh fh fp gh gp i) (h1 : 1 ≤ jSo fh i) (h0 : 0 ≤ i) (hn : n ≤ 46) : jGl P fg gh gp n := fun g g0 g1 => by
  obtain ⟨q1, q2, q3, q4⟩ := h g g0 g1
  by_cases q : g = i
  · subst q
    refine ⟨q1, by rw [hD.1.1]; omega, by rw [hD.1.1]; omega, fun k r0 r1 => ?_⟩
    rw [hD.1.1] at r1
    obtain ⟨j, w0, w1, w2⟩ := hD.2.1 k r0 r1
    rw [w2]; exact q4 j w0 w1
  · have e := hD.1.2 g g0 (by omega) q
    refine ⟨q1, by rw [e]; exact q2, by rw [e]; exact q3, fun k r0 r1 => ?_⟩
    rw [e] at r1
    rw [hD.2.2 _ (by omega) (by omega) (by omega)]; exact q4 k r0 r1
/-- a formula that is good: closed, of 80 nodes at most -/
def jG1 (C : jK) (N Y x : Int) : Prop := jFm C N Y 80 0 x ∧ jsz C x ≤ 80
theorem jG1.ag {C D : jK} {N M Y x : Int} (h : jG1 C N Y x) (hA : jAgK C D N) (hM : N ≤ M) : jG1 D M Y x := ⟨h.1.ag hA hM, by rw [jsz_ag hA h.1]; exact h.2⟩
end
section
-- formulas as they are read: raw terms (their parts behind them), raw formulas (their parts ahead of them)
def jRtm (C : jK) : Nat → Int → Int → Prop
  | 0, _, _ => False
  | d + 1, x, hi => 0 ≤ x ∧ x < hi ∧ jSo C.s x = 11 ∧ 0 ≤ jSo C.n x ∧ jSo C.n x ≤ 1599 ∧ 0 ≤ jSo C.c x ∧ (jSo C.c x = 1 → x < jSo C.a x ∧ jRtm C d (jSo C.a x) hi) ∧ (jSo C.c x = 2 → x < jSo C.a x ∧ jRtm C d (jSo C.a x) (jSo C.b (jSo C.a x)) ∧ jRtm C d (jSo C.b (jSo C.a x)) hi) ∧ (jSo C.c x = 3 → x < jSo C.a x ∧ jRtm C d (jSo C.a x) (jSo C.b (jSo C.a x)) ∧ jRtm C d (jSo C.b (jSo C.a x)) (jSo C.b (jSo C.b (jSo C.a x))) ∧ jRtm C d (jSo C.b (jSo C.b (jSo C.a x))) hi)
theorem jRtm.ok {C : jK} {d : Nat} {x hi : Int} (h : jRtm C d x hi) : 1 ≤ d ∧ 0 ≤ x ∧ x < hi ∧ jSo C.s x = 11 ∧ 0 ≤ jSo C.n x ∧ jSo C.n x ≤ 1599 ∧ 0 ≤ jSo C.c x := by
  cases d with
  | zero => exact h.elim
  | succ d => exact ⟨by omega, h.1, h.2.1, h.2.2.1, h.2.2.2.1, h.2.2.2.2.1, h.2.2.2.2.2.1⟩
/-- the same rows from x to hi (but for two of x itself) -/
def jAt (C D : jK) (x hi : Int) : Prop := ∀ j : Int, x ≤ j → j < hi → jSo D.s j = jSo C.s j ∧ jSo D.n j = jSo C.n j ∧ jSo D.a j = jSo C.a j ∧ jSo D.c j = jSo C.c j ∧ (x < j → jSo D.b j = jSo C.b j)
theorem jAt.sub {C D : jK} {x hi y h1 : Int} (h : jAt C D x hi) (hy : x < y) (hh : h1 ≤ hi) : jAt C D y h1 := fun j g0 g1 => by
  obtain ⟨a1, a2, a3, a4, a5⟩ := h j (by omega) (by omega)
  exact ⟨a1, a2, a3, a4, fun _ => a5 (by omega)⟩
theorem jRtm.ag {C D : jK} {d : Nat} : ∀ {x hi : Int}, jRtm C d x hi → jAt C D x hi → jRtm D d x hi := by
  induction d with
  | zero => intro x hi h; exact h.elim
  | succ d ih =>
    intro x hi h hA
    obtain ⟨h1, h2, h3, h4, h5, h6, k1, k2, k3⟩ := h
    obtain ⟨a1, a2, a3, a4, -⟩ := hA x (by omega) h2
    refine ⟨h1, h2, by rw [a1]; exact h3, by rw [a2]; exact h4, by rw [a2]; exact h5, by rw [a4]; exact h6, ?_, ?_, ?_⟩
    · rw [a4, a3]; intro q
      obtain ⟨z1, z2⟩ := k1 q
      exact ⟨z1, ih z2 (hA.sub z1 (Int.le_refl _))⟩
    · rw [a4, a3]; intro q
      obtain ⟨z1, z2, z3⟩ := k2 q
      have b1 := z2.ok; have b2 := z3.ok
      have e1 := (hA (jSo C.a x) (by omega) (by omega)).2.2.2.2 z1
      rw [e1]
      exact ⟨z1, ih z2 (hA.sub z1 (by omega)), ih z3 (hA.sub (by omega) (Int.le_refl _))⟩
    · rw [a4, a3]; intro q
      obtain ⟨z1, z2, z3, z4⟩ := k3 q
      have b1 := z2.ok; have b2 := z3.ok; have b3 := z4.ok
      have e1 := (hA (jSo C.a x) (by omega) (by omega)).2.2.2.2 z1
      rw [e1]
      have e2 := (hA (jSo C.b (jSo C.a x)) (by omega) (by omega)).2.2.2.2 (by omega)
      rw [e2]
      exact ⟨z1, ih z2 (hA.sub z1 (by omega)), ih z3 (hA.sub (by omega) (by omega)), ih z4 (hA.sub (by omega) (Int.le_refl _))⟩
theorem jRtm.mono {C : jK} {d : Nat} : ∀ {x hi : Int}, jRtm C d x hi → ∀ {d1 : Nat} {h1 : Int}, d ≤ d1 → hi ≤ h1 → jRtm C d1 x h1 := by
  induction d with
  | zero => intro x hi h; exact h.elim
  | succ d ih =>
    intro x hi h d1 h1 hd hh
    cases d1 with
    | zero => omega
    | succ d1 =>
      obtain ⟨g1, g2, g3, g4, g5, g6, k1, k2, k3⟩ := h
      refine ⟨g1, by omega, g3, g4, g5, g6, fun q => ?_, fun q => ?_, fun q => ?_⟩
      · obtain ⟨z1, z2⟩ := k1 q; exact ⟨z1, ih z2 (by omega) hh⟩
      · obtain ⟨z1, z2, z3⟩ := k2 q; exact ⟨z1, ih z2 (by omega) (Int.le_refl _), ih z3 (by omega) hh⟩
      · obtain ⟨z1, z2, z3, z4⟩ := k3 q; exact ⟨z1, ih z2 (by omega) (Int.le_refl _), ih z3 (by omega) (Int.le_refl _), ih z4 (by omega) hh⟩
theorem jAgK.at {C D : jK} {N x hi : Int} (h : jAgK C D N) (hx : 0 ≤ x) (hh : hi ≤ N) : jAt C D x hi := fun j g0 g1 => by
  obtain ⟨a1, a2, a3, a4, a5⟩ := h.so (n := j) (by omega) (by omega)
  exact ⟨a1, a2, a3, a5, fun _ => a4⟩
theorem jRtm.agK {C D : jK} {d : Nat} {N x hi : Int} (h : jRtm C d x hi) (hA : jAgK C D N) (hh : hi ≤ N) : jRtm D d x hi := h.ag (hA.at h.ok.2.1 hh)
/-- a raw formula: its nodes from lo to hi, its root x; q quantifiers within one another at most -/
def jRw (C : jK) : Nat → Nat → Int → Int → Int → Prop
  | 0, _, _, _, _ => False
  | e + 1, q, lo, x, hi => 0 ≤ lo ∧ lo ≤ x ∧ x < hi ∧ ((jSo C.s x = 11 ∧ jRtm C 13 x hi) ∨ jSo C.s x = 3 ∨ (jSo C.s x = 6 ∧ ∃ m : Int, lo ≤ jSo C.a x ∧ jRtm C 13 (jSo C.a x) m ∧ m ≤ jSo C.b x ∧ jRtm C 13 (jSo C.b x) x) ∨ ((jSo C.s x = 4 ∨ jSo C.s x = 5) ∧ 0 ≤ jSo C.n x ∧ jSo C.n x ≤ 1599 ∧ 1 ≤ q ∧ jRw C e (q - 1) lo (jSo C.a x) x) ∨ (0 ≤ jSo C.s x ∧ jSo C.s x ≤ 2 ∧ ∃ m : Int, jRw C e q lo (jSo C.a x) m ∧ jRw C e q m (jSo C.b x) x))
theorem jRw.ok {C : jK} {e q : Nat} {lo x hi : Int} (h : jRw C e q lo x hi) : 1 ≤ e ∧ 0 ≤ lo ∧ lo ≤ x ∧ x < hi := by
  cases e with
  | zero => exact h.elim
  | succ e => exact ⟨by omega, h.1, h.2.1, h.2.2.1⟩
theorem jRw.mono {C : jK} {e : Nat} : ∀ {q : Nat} {lo x hi : Int}, jRw C e q lo x hi → ∀ {e1 q1 : Nat} {l1 h1 : Int}, e ≤ e1 → q ≤ q1 → 0 ≤ l1 → l1 ≤ lo → hi ≤ h1 → jRw C e1 q1 l1 x h1 := by
  induction e with
  | zero => intro q lo x hi h; exact h.elim
  | succ e ih =>
    intro q lo x hi h e1 q1 l1 h1 he hq hl0 hl hh
    cases e1 with
    | zero => omega
    | succ e1 =>
      obtain ⟨g1, g2, g3, g4⟩ := h
      refine ⟨hl0, by omega, by omega, ?_⟩
      rcases g4 with ⟨s1, t1⟩ | s1 | ⟨s1, m, t1, t2, t3, t4⟩ | ⟨s1, t1, t2, t3, t4⟩ | ⟨s1, s2, m, t1, t2⟩
      · exact Or.inl ⟨s1, t1.mono (Nat.le_refl _) hh⟩
      · exact Or.inr (Or.inl s1)
      · exact Or.inr (Or.inr (Or.inl ⟨s1, m, by omega, t2, t3, t4⟩))
      · exact Or.inr (Or.inr (Or.inr (Or.inl ⟨s1, t1, t2, by omega, ih t4 (by omega) (by omega) hl0 hl (Int.le_refl _)⟩)))
      · exact Or.inr (Or.inr (Or.inr (Or.inr ⟨s1, s2, m, ih t1 (by omega) hq hl0 hl (Int.le_refl _), ih t2 (by omega) hq t2.ok.2.1 (Int.le_refl _) (Int.le_refl _)⟩)))
theorem jRw.ag {C D : jK} {N : Int} (hA : jAgK C D N) {e : Nat} : ∀ {q : Nat} {lo x hi : Int}, jRw C e q lo x hi → hi ≤ N → jRw D e q lo x hi := by
  induction e with
  | zero => intro q lo x hi h; exact h.elim
  | succ e ih =>
    intro q lo x hi h hN
    obtain ⟨g1, g2, g3, g4⟩ := h
    obtain ⟨a1, a2, a3, a4, a5⟩ := hA.so (n := x) (by omega) (by omega)
    refine ⟨g1, g2, g3, ?_⟩
    rw [a1, a2, a3, a4]
    rcases g4 with ⟨s1, t1⟩ | s1 | ⟨s1, m, t1, t2, t3, t4⟩ | ⟨s1, t1, t2, t3, t4⟩ | ⟨s1, s2, m, t1, t2⟩
    · exact Or.inl ⟨s1, t1.agK hA hN⟩
    · exact Or.inr (Or.inl s1)
    · have := t4.ok
      exact Or.inr (Or.inr (Or.inl ⟨s1, m, t1, t2.agK hA (by omega), t3, t4.agK hA (by omega)⟩))
    · exact Or.inr (Or.inr (Or.inr (Or.inl ⟨s1, t1, t2, t3, ih t4 (by omega)⟩)))
    · have := t2.ok
      exact Or.inr (Or.inr (Or.inr (Or.inr ⟨s1, s2, m, ih t1 (by omega), ih t2 (by omega)⟩)))
theorem jRw.up {C : jK} {e e1 q q1 : Nat} {lo x hi : Int} (h : jRw C e q lo x hi) (he : e ≤ e1) (hq : q ≤ q1) : jRw C e1 q1 lo x hi := h.mono he hq h.ok.2.1 (Int.le_refl _) (Int.le_refl _)
theorem jRw.eq {C D : jK} {e q d d1 : Nat} {m N ws wn wa wb wc : Int} (h1 : jRtm C d wa m) (h2 : jRtm C d1 wb N) (hm : m ≤ wb) (h : jNw C D N ws wn wa wb wc) (hs : ws = 6) (hd : d ≤ 13) (hd1 : d1 ≤ 13) (he : 1 ≤ e) : jRw D e q wa N (N + 1) := by
  have o1 := h1.ok; have o2 := h2.ok
  cases e with
  | zero => omega
  | succ e =>
    obtain ⟨hA, s1, s2, s3, s4, s5⟩ := h
    refine ⟨o1.2.1, by omega, by omega, Or.inr (Or.inr (Or.inl ⟨by omega, m, by omega, ?_, by omega, ?_⟩))⟩
    · rw [s3]; exact (h1.mono hd (Int.le_refl _)).agK hA (by omega)
    · rw [s4]; exact (h2.mono hd1 (Int.le_refl _)).agK hA (by omega)
-- what a raw formula is, by its root
end
section
-- the reference's kernel: its facts, goals and lemma are good formulas
theorem jG1.of {C : jK} {N Y x : Int} {d : Nat} (h : jFm C N Y d 0 x) (hd : d ≤ 4000) (hs : jsz C x ≤ 80) : jG1 C N Y x := ⟨h.tight hd 80 (by omega), hs⟩
end
section
-- apply: a rule's quantifiers, its left sides, the terms that are told
/-- the new goals so far -/
theorem jFa.put {P : Int → Prop} {f g : Nat → Int32} {n x e : Int} (h : jFa P f n) (hv : jSo g e = x) (ho : ∀ j, j < 100 → j ≠ e.toNat → g j = f j) (he : e = n) (h0 : 0 ≤ n) (h1 : n ≤ 99) (hx : P x) : jFa P g (n + 1) := fun k g0 g1 => by
  have hU := jUpd.mk (n := 100) hv ho he h0
  by_cases q : k = n
  · rw [q, hU.1]; exact hx
  · rw [hU.2 k g0 (by omega) q]; exact h k g0 (by omega)
end
section
-- where a sign stands in a text whose last sign it is
def jStrE (base a n : Nat) (f : Nat → Int32) (U : State) (H : Heap) : Prop := va_O "java/lang/String" a (jA base) U H ∧ va_OF "java/lang/String" "coder" "B" (.int 0) a (jA base) U H ∧ f (n - 1) = 32 ∧ ∃ v : Nat, va_OF "java/lang/String" "value" "[B" (.ref v) a (jA base) U H ∧ va_T .byte v n (fun j => .int (f j)) (jA base) U H
theorem jStrE.moved {base a n : Nat} {f : Nat → Int32} {u U : State} {H : Heap} (hvm : u.vm.Alike U.vm) (h : jStrE base a n f u H) : jStrE base a n f U H := by
  obtain ⟨h1, h2, h5, v, h3, h4⟩ := h
  exact ⟨h1.moved hvm, h2.moved hvm, h5, v, h3.moved hvm, h4.moved hvm⟩
theorem jStrE.kept {base a n : Nat} {f : Nat → Int32} {U : State} {H H1 : Heap} (h : jStrE base a n f U H) (hq : ∀ a : Nat, a < H.size → ¬ jA base a → H1[a]? = H[a]?) : jStrE base a n f U H1 := by
  obtain ⟨h1, h2, h5, v, h3, h4⟩ := h
  exact ⟨h1.kept hq, h2.kept hq, h5, v, h3.kept hq, h4.kept hq⟩
end
section
-- printing: how often a bound name is marked
def jMx (f : Nat → Int32) (n M : Int) : Prop := ∀ k : Int, 0 ≤ k → k < n → jSo f k ≤ M
def jEqK (f g : Nat → Int32) (n : Int) : Prop := ∀ k : Int, 0 ≤ k → k < n → jSo g k = jSo f k
theorem jEqK.rf (f : Nat → Int32) (n : Int) : jEqK f f n := fun _ _ _ => rfl
theorem jEqK.tr {f g h : Nat → Int32} {n : Int} (h1 : jEqK f g n) (h2 : jEqK g h n) : jEqK f h n := fun k q0 q1 => (h2 k q0 q1).trans (h1 k q0 q1)
theorem jMx.eq {f g : Nat → Int32} {n M : Int} (h : jMx f n M) (he : jEqK f g n) : jMx g n M := fun k q0 q1 => by rw [he k q0 q1]; exact h k q0 q1
theorem jMx.put {f g : Nat → Int32} {n m M M1 x e : Int} (h : jMx f n M) (hv : jSo g e = x) (ho : ∀ j, j < 100 → j ≠ e.toNat → g j = f j) (he : e = n) (h0 : 0 ≤ n) (h1 : n ≤ 99) (hm : m = n + 1) (hx : x ≤ M1) (hM : M ≤ M1) : jMx g m M1 := fun k q0 q1 => by
  have hU := jUpd.mk (n := 100) hv ho he h0
  by_cases q : k = n
  · rw [q, hU.1]; exact hx
  · rw [hU.2 k q0 (by omega) q]; have := h k q0 (by omega); omega
theorem jEqK.st {f g h : Nat → Int32} {n m x e : Int} (hv : jSo g e = x) (ho : ∀ j, j < 100 → j ≠ e.toNat → g j = f j) (he : e = n) (h0 : 0 ≤ n) (h1 : n ≤ 99) (h2 : jEqK g h m) (hm : n ≤ m) : jEqK f h n := fun k q0 q1 => by
  have hU := jUpd.mk (n := 100) hv ho he h0
  rw [h2 k q0 (by omega), hU.2 k q0 (by omega) (by omega)]
end
section
-- how a text is parted, as functions
def jBlk (x : Int) : Int := if x = 32 ∨ x = 9 ∨ x = 10 ∨ x = 13 then 1 else 0
theorem jOpI_le (f : Nat → Int32) (i n : Int) : 0 ≤ jOpI f i n ∧ jOpI f i n ≤ 1 := by unfold jOpI; split <;> omega
def jBcc (f : Nat → Int32) (n i : Int) : Int := jBc f n ((n - i).toNat + 1) i 0
def jGa (f : Nat → Int32) (n : Int) : Nat → Int → Int
  | 0, _ => n
  | k + 1, i => if i < n then (if jBlk (jSo f i) = 1 then jGa f n k (i + 1) else if jOpI f i n = 1 ∧ 0 ≤ jBcc f n i then jGa f n k (jBcc f n i) else i) else n
theorem jGa_s {f : Nat → Int32} {n i : Int} {k : Nat} (hk : 0 < k) : jGa f n k i = if i < n then (if jBlk (jSo f i) = 1 then jGa f n (k - 1) (i + 1) else if jOpI f i n = 1 ∧ 0 ≤ jBcc f n i then jGa f n (k - 1) (jBcc f n i) else i) else n := by
  cases k with
  | zero => omega
  | succ k => rfl
def jGap (f : Nat → Int32) (n i : Int) : Int := jGa f n ((n - i).toNat + 1) i
def jDt (f : Nat → Int32) (n i : Int) : Int := if jSo f i = 46 ∧ (i + 1 = n ∨ jBlk (jSo f (i + 1)) = 1 ∨ jOpI f (i + 1) n = 1) then 1 else 0
def jSx (f : Nat → Int32) (n : Int) : Nat → Int → Int
  | 0, _ => -1
  | k + 1, i => if i < n then (if jOpI f i n = 1 then (if jBcc f n i < 0 then -1 else jSx f n k (jBcc f n i)) else if jDt f n i = 1 then i + 1 else jSx f n k (i + 1)) else -1
theorem jSx_s {f : Nat → Int32} {n i : Int} {k : Nat} (hk : 0 < k) : jSx f n k i = if i < n then (if jOpI f i n = 1 then (if jBcc f n i < 0 then -1 else jSx f n (k - 1) (jBcc f n i)) else if jDt f n i = 1 then i + 1 else jSx f n (k - 1) (i + 1)) else -1 := by
  cases k with
  | zero => omega
  | succ k => rfl
def jSen (f : Nat → Int32) (n i : Int) : Int := jSx f n ((n - i).toNat + 1) i
/-- where a sentence ends, and the next one begins; how many there are -/
def jEn (f : Nat → Int32) (n i : Int) : Int := if jSen f n i < 0 then n else jSen f n i
def jPn (f : Nat → Int32) (n : Int) : Nat → Int → Int → Int
  | 0, _, c => c
  | k + 1, i, c => if i < n then (if c = 39 then 40 else jPn f n k (jGap f n (jEn f n i)) (c + 1)) else c
theorem jPn_s {f : Nat → Int32} {n i c : Int} {k : Nat} (hk : 0 < k) : jPn f n k i c = if i < n then (if c = 39 then 40 else jPn f n (k - 1) (jGap f n (jEn f n i)) (c + 1)) else c := by
  cases k with
  | zero => omega
  | succ k => rfl
theorem jPn_m {f : Nat → Int32} {n i i1 c c1 : Int} {k : Nat} (hk : 0 < k) (hi : i < n) (hc : c ≠ 39) (e : i1 = jGap f n (jEn f n i)) (ec : c1 = c + 1) : jPn f n (k - 1) i1 c1 = jPn f n k i c := by rw [jPn_s hk, if_pos hi, if_neg hc, e, ec]
theorem jPn_o {f : Nat → Int32} {n i c r : Int} {k : Nat} (hk : 0 < k) (hi : n ≤ i) (e : r = c) : r = jPn f n k i c := by rw [jPn_s hk, if_neg (by omega), e]
def jPar (f : Nat → Int32) (n : Int) : Int := jPn f n ((n - jGap f n 0).toNat + 2) (jGap f n 0) 0
/-- sentences in order: s of them, all within u -/
def jSrt (b e : Nat → Int32) (s u : Int) : Prop := ∀ k : Int, 0 ≤ k → k < s → 0 ≤ jSo b k ∧ jSo b k ≤ jSo e k ∧ jSo e k ≤ u ∧ (k + 1 < s → jSo e k ≤ jSo b (k + 1))
theorem jSrt.nil (b e : Nat → Int32) (u : Int) : jSrt b e 0 u := fun k h0 h1 => by omega
theorem jSrt.up {b e : Nat → Int32} {s u v : Int} (h : jSrt b e s u) (hv : u ≤ v) : jSrt b e s v := fun k h0 h1 => by
  obtain ⟨a1, a2, a3, a4⟩ := h k h0 h1
  exact ⟨a1, a2, by omega, a4⟩
theorem jSrt.app {b e b1 e1 : Nat → Int32} {s m i x u : Int} (h : jSrt b e s i) (hb : jUpd 40 b b1 s i) (he : jUpd 40 e e1 s x) (h0 : 0 ≤ s) (h40 : s < 40) (hi : 0 ≤ i) (hx : i ≤ x) (hu : x ≤ u) (hm : m = s + 1) : jSrt b1 e1 m u := fun k q0 q1 => by
  by_cases q : k = s
  · rw [q, hb.1, he.1]; exact ⟨hi, hx, hu, fun w => by omega⟩
  · obtain ⟨a1, a2, a3, a4⟩ := h k q0 (by omega)
    rw [hb.2 k q0 (by omega) q, he.2 k q0 (by omega) q]
    refine ⟨a1, a2, by omega, fun w => ?_⟩
    by_cases q2 : k + 1 = s
    · rw [q2, hb.1]; exact a3
    · rw [hb.2 (k + 1) (by omega) (by omega) q2]; exact a4 (by omega)
end
section
-- the documents of the reference: their sentences are in order (an invariant with a footprint; x: the document that is being changed)
def jD14 (dC : Nat → ClassId) (dI : Nat → Nat → Nat) (ca : Nat → ClassId) (G : jT) (a yb ye : Nat) (H : Heap) : Prop := ∃ (fb fe : Nat → Int32) (ps pz pc : Int32), G yb = some (190, 40) ∧ G ye = some (191, 40) ∧ jP (dC, dI) G H [(a, 14, 6, .ref yb), (a, 14, 7, .ref ye), (a, 14, 5, .int ps), (a, 14, 4, .int pz), (a, 14, 9, .int pc)] ∧ jMc (dC, dI) G H [(yb, 190, 40, ca 1, fb), (ye, 191, 40, ca 1, fe)] ∧ jSrt fb fe ps.toInt pz.toInt ∧ 0 ≤ pc.toInt ∧ pc.toInt ≤ ps.toInt ∧ ps.toInt ≤ 40 ∧ 0 ≤ pz.toInt ∧ pz.toInt ≤ 1500
def jDX (dC : Nat → ClassId) (dI : Nat → Nat → Nat) (ca : Nat → ClassId) (G : jT) (x : Option Nat) (H : Heap) : Prop := ∃ Yb Ye : Nat → Nat, (∀ a, G a = some (14, 0) → jf (dC, dI) 14 a 6 (.ref (Yb a)) H ∧ jf (dC, dI) 14 a 7 (.ref (Ye a)) H) ∧ (∀ a b, G a = some (14, 0) → G b = some (14, 0) → Yb a = Yb b → a = b) ∧ (∀ a b, G a = some (14, 0) → G b = some (14, 0) → Ye a = Ye b → a = b) ∧ ∀ a, G a = some (14, 0) → some a ≠ x → jD14 dC dI ca G a (Yb a) (Ye a) H
/-- what is known of one document -/
theorem jDX.at {dC : Nat → ClassId} {dI : Nat → Nat → Nat} {ca : Nat → ClassId} {G : jT} {x : Option Nat} {H : Heap} (h : jDX dC dI ca G x H) {a : Nat} (ha : G a = some (14, 0)) (hx : some a ≠ x) : ∃ yb ye, jD14 dC dI ca G a yb ye H := by
  obtain ⟨Yb, Ye, -, -, -, h4⟩ := h
  exact ⟨_, _, h4 a ha hx⟩
theorem jDX.less {dC : Nat → ClassId} {dI : Nat → Nat → Nat} {ca : Nat → ClassId} {G : jT} {H : Heap} (h : jDX dC dI ca G none H) (x : Option Nat) : jDX dC dI ca G x H := by
  obtain ⟨Yb, Ye, h1, h2, h3, h4⟩ := h
  exact ⟨Yb, Ye, h1, h2, h3, fun a ha _ => h4 a ha (fun q => by cases q)⟩
end
section
-- invariants with a footprint, as a walk carries them: contents of reference arrays, one field of all documents, the sentences of all documents
theorem jIs.cons {D : va_G} {G : jT} {H : Heap} {q : jIv} {L : List jIv} (h : q.2 H ∧ ∀ H1 H2 : Heap, jAg D G q.1 H1 H2 → q.2 H1 → q.2 H2) (h2 : jIs D G H L) : jIs D G H (q :: L) := fun x hx => by
  rcases List.mem_cons.mp hx with e | e
  · subst e; exact h
  · exact h2 x e
theorem jf.uniq {D : va_G} {k a i : Nat} {v w : Value} {H : Heap} (h1 : jf D k a i v H) (h2 : jf D k a i w H) : v = w := by
  obtain ⟨r, -, -, cell, g3, -, -, g6⟩ := h1
  obtain ⟨r2, -, -, cell2, q3, -, -, q6⟩ := h2
  cases g3.symm.trans q3
  exact Option.some.inj (g6.symm.trans q6)
def jQc (dC : Nat → ClassId) (dI : Nat → Nat → Nat) (cA : ClassId) (a n : Nat) (f : Nat → Option Nat) (H : Heap) : Prop := va_at (dC, dI) vwCl (a, .inl (cA, n, .inr (.inr (.inr (.inr f))))) H
def jVl (dC : Nat → ClassId) (dI : Nat → Nat → Nat) (G : jT) (i : Nat) (v : Nat → Int32) (H : Heap) : Prop := ∀ a, G a = some (14, 0) → jf (dC, dI) 14 a i (.int (v a)) H
/-- one document: ps sentences, in order -/
def jD2 (dC : Nat → ClassId) (dI : Nat → Nat → Nat) (ca : Nat → ClassId) (G : jT) (a yb ye : Nat) (ps : Int32) (H : Heap) : Prop := ∃ (fb fe : Nat → Int32), G yb = some (190, 40) ∧ G ye = some (191, 40) ∧ jP (dC, dI) G H [(a, 14, 6, .ref yb), (a, 14, 7, .ref ye), (a, 14, 5, .int ps)] ∧ jMc (dC, dI) G H [(yb, 190, 40, ca 1, fb), (ye, 191, 40, ca 1, fe)] ∧ jSrt fb fe ps.toInt 1500 ∧ 0 ≤ ps.toInt ∧ ps.toInt ≤ 40
/-- all documents but x -/
def jDY (dC : Nat → ClassId) (dI : Nat → Nat → Nat) (ca : Nat → ClassId) (G : jT) (x : Option Nat) (sn : Nat → Int32) (H : Heap) : Prop := ∃ Yb Ye : Nat → Nat, (∀ a, G a = some (14, 0) → jf (dC, dI) 14 a 6 (.ref (Yb a)) H ∧ jf (dC, dI) 14 a 7 (.ref (Ye a)) H ∧ G (Yb a) = some (190, 40) ∧ G (Ye a) = some (191, 40)) ∧ (∀ a b, G a = some (14, 0) → G b = some (14, 0) → Yb a = Yb b → a = b) ∧ (∀ a b, G a = some (14, 0) → G b = some (14, 0) → Ye a = Ye b → a = b) ∧ ∀ a, G a = some (14, 0) → some a ≠ x → jD2 dC dI ca G a (Yb a) (Ye a) (sn a) H
theorem jD2.of {dC : Nat → ClassId} {dI : Nat → Nat → Nat} {ca : Nat → ClassId} {G : jT} {a yb ye : Nat} {ps : Int32} {H H1 : Heap} (h : jD2 dC dI ca G a yb ye ps H) (hf : ∀ i v, i = 5 ∨ i = 6 ∨ i = 7 → jf (dC, dI) 14 a i v H → jf (dC, dI) 14 a i v H1) (hb : H1[yb]? = H[yb]?) (he : H1[ye]? = H[ye]?) : jD2 dC dI ca G a yb ye ps H1 := by
  obtain ⟨fb, fe, g1, g2, g3, g4, g5⟩ := h
  refine ⟨fb, fe, g1, g2, fun q hq => ?_, fun q hq => ?_, g5⟩
  · obtain ⟨q1, q2⟩ := g3 q hq
    refine ⟨q1, ?_⟩
    simp only [List.mem_cons, List.not_mem_nil, or_false] at hq
    rcases hq with rfl | rfl | rfl
    · exact hf _ _ (Or.inr (Or.inl rfl)) q2
    · exact hf _ _ (Or.inr (Or.inr rfl)) q2
    · exact hf _ _ (Or.inl rfl) q2
  · obtain ⟨q1, q2, q3, q4⟩ := g4 q hq
    refine ⟨q1, q2, q3, q4.kept ?_⟩
    simp only [List.mem_cons, List.not_mem_nil, or_false] at hq
    rcases hq with rfl | rfl
    · exact hb
    · exact he
theorem jDY.at {dC : Nat → ClassId} {dI : Nat → Nat → Nat} {ca : Nat → ClassId} {G : jT} {x : Option Nat} {sn : Nat → Int32} {H : Heap} (h : jDY dC dI ca G x sn H) {a : Nat} (ha : G a = some (14, 0)) (hx : some a ≠ x) : ∃ (yb ye : Nat) (fb fe : Nat → Int32), G yb = some (190, 40) ∧ G ye = some (191, 40) ∧ jP (dC, dI) G H [(a, 14, 6, .ref yb), (a, 14, 7, .ref ye), (a, 14, 5, .int (sn a))] ∧ jMc (dC, dI) G H [(yb, 190, 40, ca 1, fb), (ye, 191, 40, ca 1, fe)] ∧ jSrt fb fe (sn a).toInt 1500 ∧ 0 ≤ (sn a).toInt ∧ (sn a).toInt ≤ 40 := by
  obtain ⟨Yb, Ye, -, -, -, h4⟩ := h
  obtain ⟨fb, fe, g⟩ := h4 a ha hx
  exact ⟨_, _, fb, fe, g⟩
theorem jDY.less {dC : Nat → ClassId} {dI : Nat → Nat → Nat} {ca : Nat → ClassId} {G : jT} {sn : Nat → Int32} {H : Heap} (h : jDY dC dI ca G none sn H) (x : Nat) : jDY dC dI ca G (some x) sn H := by
  obtain ⟨Yb, Ye, h1, h2, h3, h4⟩ := h
  exact ⟨Yb, Ye, h1, h2, h3, fun a ha _ => h4 a ha (fun q => by cases q)⟩
def jUn (v : Nat → Int32) (a : Nat) (w : Int32) : Nat → Int32 := fun b => if b = a then w else v b
theorem jUn_e (v : Nat → Int32) (a : Nat) (w : Int32) : jUn v a w a = w := by simp [jUn]
theorem jUn_n (v : Nat → Int32) {a b : Nat} (w : Int32) (h : b ≠ a) : jUn v a w b = v b := by simp [jUn, h]
theorem jVl.put {dC : Nat → ClassId} {dI : Nat → Nat → Nat} {G : jT} {ck : Nat → Int32} {H H1 : Heap} {a : Nat} {w : Int32} (h : jVl dC dI G 9 ck H) (hfr : ∀ p, p ≠ a → H1[p]? = H[p]?) (hn : jf (dC, dI) 14 a 9 (.int w) H1) : jVl dC dI G 9 (jUn ck a w) H1 := fun b hb => by
  by_cases e : b = a
  · subst e; rw [jUn_e]; exact hn
  · rw [jUn_n _ _ e]; exact (h b hb).kept (hfr b e)
/-- what is asked of the numbers: the open documents are apart, checked <= sentences, and what a worker holds is an open document's sentence -/
def jPu (sn ck : Nat → Int32) (fd fo : Nat → Option Nat) (fs : Nat → Int32) (dc : Int) (ol nw td : Nat) : Prop := (∀ i, i < 3 → fd i ≠ some ol ∧ fd i ≠ some nw ∧ fd i ≠ some td) ∧ (∀ i j, i < 3 → j < 3 → fd i = fd j → i = j) ∧ (∀ i a, i < 3 → fd i = some a → (ck a).toInt ≤ (sn a).toInt) ∧ ∀ w, w < 2 → fo w = none ∨ ∃ (d a : Nat), (d : Int) < dc ∧ d < 3 ∧ fd d = some a ∧ fo w = some a ∧ (fs w).toInt < (sn a).toInt
theorem jVl.at {dC : Nat → ClassId} {dI : Nat → Nat → Nat} {G : jT} {ck : Nat → Int32} {H : Heap} {a : Nat} (h : jVl dC dI G 9 ck H) (ha : G a = some (14, 0)) : jP (dC, dI) G H [(a, 14, 9, .int (ck a))] := fun q hq => by
  cases List.mem_singleton.mp hq
  exact ⟨⟨0, ha⟩, h a ha⟩
theorem jPu.drop {sn ck fs : Nat → Int32} {fd fo fo' : Nat → Option Nat} {dc : Int} {ol nw td : Nat} {w : Nat} (h : jPu sn ck fd fo fs dc ol nw td) (hv : fo' w = none) (ho : ∀ j, j < 2 → j ≠ w → fo' j = fo j) : jPu sn ck fd fo' fs dc ol nw td := by
  obtain ⟨g0, g1, g2, g3⟩ := h
  refine ⟨g0, g1, g2, fun j hj => ?_⟩
  by_cases e : j = w
  · subst e; exact Or.inl hv
  · rw [ho j hj e]; exact g3 j hj
section J15
variable {p : Program} {l : Launch} {e : Env} {R : Room} {s : State} {m : MethodId} {args : Array Value} {below : List Frame} {meth : Method} {c : Code} {H : Heap} {locs : List Loc} {cells slots : Nat} {Q : State → Prop}
variable {cc : ByteArray} {pc : Nat} {ls : Array Slot} {rest : List Value} {dC : Nat → ClassId} {dI : Nat → Nat → Nat} {ca : Nat → ClassId} {B : jF} {base : Nat} {G0 G : jT} {E : List (Nat × Nat)} {H0 : Heap} {zc zs : Nat} {L : List jPin} {M : List jCt} {I : List jIv} {a k n i N : Nat} {cA : ClassId} {tys : List (ClassId × FieldType)} {C own : String} {T : u_T} {index : Nat}
theorem jSt.iv (hh : jSt (dC, dI) B base G0 G E H0 zc zs L M I H locs) (j : Nat) {q : jIv} (hj : I[j]? = some q) : q.2 H := (hh.2.2.2.2.2.2.2.2 q (List.mem_of_getElem? hj)).1
end J15
end
section
-- texts whose bytes are known: charAt, isText and member as functions
def jStrF (base a n : Nat) (f : Nat → Int32) (U : State) (H : Heap) : Prop := va_O "java/lang/String" a (jA base) U H ∧ va_OF "java/lang/String" "coder" "B" (.int 0) a (jA base) U H ∧ ∃ v : Nat, va_OF "java/lang/String" "value" "[B" (.ref v) a (jA base) U H ∧ va_T .byte v n (fun j => .int (f j)) (jA base) U H
theorem jStrF.moved {base a n : Nat} {f : Nat → Int32} {u U : State} {H : Heap} (hvm : u.vm.Alike U.vm) (h : jStrF base a n f u H) : jStrF base a n f U H := by
  obtain ⟨h1, h2, v, h3, h4⟩ := h
  exact ⟨h1.moved hvm, h2.moved hvm, v, h3.moved hvm, h4.moved hvm⟩
theorem jStrF.kept {base a n : Nat} {f : Nat → Int32} {U : State} {H H1 : Heap} (h : jStrF base a n f U H) (hq : ∀ a : Nat, a < H.size → ¬ jA base a → H1[a]? = H[a]?) : jStrF base a n f U H1 := by
  obtain ⟨h1, h2, v, h3, h4⟩ := h
  exact ⟨h1.kept hq, h2.kept hq, v, h3.kept hq, h4.kept hq⟩
def jCv (x : Int32) : Int32 := ((x &&& 255).toUInt32 % 65536).toInt32
end
section
-- the workers of a document that has changed; a document that is opened; closed
def jPv (sn ck : Nat → Int32) (fd fo : Nat → Option Nat) (fs : Nat → Int32) (dc : Int) (ol nw td : Nat) (x : Nat) (st k : Int) : Prop := (∀ i, i < 3 → fd i ≠ some ol ∧ fd i ≠ some nw ∧ fd i ≠ some td) ∧ (∀ i j, i < 3 → j < 3 → fd i = fd j → i = j) ∧ (∀ i a, i < 3 → fd i = some a → (ck a).toInt ≤ (sn a).toInt) ∧ (st ≤ (sn x).toInt ∧ (ck x).toInt ≤ st) ∧ ∀ w, w < 2 → fo w = none ∨ ∃ (d a : Nat), (d : Int) < dc ∧ d < 3 ∧ fd d = some a ∧ fo w = some a ∧ ((fs w).toInt < (sn a).toInt ∨ (a = x ∧ k ≤ (w : Int)))
theorem jPv.null {sn ck fs : Nat → Int32} {fd fo fo' : Nat → Option Nat} {dc st k k1 : Int} {ol nw td x w : Nat} (h : jPv sn ck fd fo fs dc ol nw td x st k) (hv : fo' w = none) (ho : ∀ j, j < 2 → j ≠ w → fo' j = fo j) (hw : (w : Int) = k) (hk : k1 = k + 1) : jPv sn ck fd fo' fs dc ol nw td x st k1 := by
  obtain ⟨g0, g1, g2, g4, g3⟩ := h
  refine ⟨g0, g1, g2, g4, fun j hj => ?_⟩
  by_cases e : j = w
  · subst e; exact Or.inl hv
  · rw [ho j hj e]
    rcases g3 j hj with q | ⟨d, a, k1, k2, k3, k4, k5⟩
    · exact Or.inl q
    · exact Or.inr ⟨d, a, k1, k2, k3, k4, k5.imp id (fun q => ⟨q.1, by have := q.2; omega⟩)⟩
theorem jPu.opn {sn ck fs : Nat → Int32} {fd fo : Nat → Option Nat} {dc dc1 : Int} {ol nw td x d0 : Nat} {v w0 : Int32} (h : jPu sn ck fd fo fs dc ol nw td) (hd : fd d0 = some x) (h3 : d0 < 3) (hdc : (d0 : Int) = dc) (h1 : dc1 = dc + 1) (hw : w0.toInt ≤ v.toInt) : jPu (jUn sn x v) (jUn ck x w0) fd fo fs dc1 ol nw td := by
  obtain ⟨g0, g1, g2, g3⟩ := h
  refine ⟨g0, g1, fun i a hi ha => ?_, fun w hw => ?_⟩
  · by_cases e : a = x
    · subst e; rw [jUn_e, jUn_e]; exact hw
    · rw [jUn_n _ _ e, jUn_n _ _ e]; exact g2 i a hi ha
  · rcases g3 w hw with k | ⟨d, a, k1, k2, k3, k4, k5⟩
    · exact Or.inl k
    · refine Or.inr ⟨d, a, by omega, k2, k3, k4, ?_⟩
      have e : a ≠ x := fun q => by
        subst q
        have := g1 d d0 k2 h3 (k3.trans hd.symm)
        omega
      rw [jUn_n _ _ e]; exact k5
section J16
variable {p : Program} {l : Launch} {e : Env} {R : Room} {s : State} {m : MethodId} {args : Array Value} {below : List Frame} {meth : Method} {c : Code} {H : Heap} {locs : List Loc} {cells slots : Nat} {Q : State → Prop}
variable {cc : ByteArray} {pc : Nat} {ls : Array Slot} {rest : List Value} {dC : Nat → ClassId} {dI : Nat → Nat → Nat} {ca : Nat → ClassId} {B : jF} {base : Nat} {G0 G : jT} {E : List (Nat × Nat)} {H0 : Heap} {zc zs : Nat} {L : List jPin} {M : List jCt} {I : List jIv} {a k n : Nat} {cA : ClassId} {tys : List (ClassId × FieldType)}
end J16
end
section
-- how a text is parted rests on its units alone
def jEqU (f g : Nat → Int32) (n : Int) : Prop := ∀ i : Int, 0 ≤ i → i < n → jSo f i = jSo g i
theorem jEqU.nil (f g : Nat → Int32) : jEqU f g 0 := fun i h0 h1 => by omega
theorem jEqU.up {f g : Nat → Int32} {m n : Int} (h : jEqU f g m) (hn : n ≤ m) : jEqU f g n := fun i h0 h1 => h i h0 (by omega)
theorem jOpI_c {f g : Nat → Int32} {i n : Int} (h : jEqU f g n) (hi : 0 ≤ i) : jOpI f i n = jOpI g i n := by
  unfold jOpI
  by_cases q : i + 1 < n
  · have e1 : (f i.toNat).toInt = (g i.toNat).toInt := h i hi (by omega)
    have e2 : (f (i + 1).toNat).toInt = (g (i + 1).toNat).toInt := h (i + 1) (by omega) q
    rw [e1, e2]
  · rw [if_neg (fun w => q w.1), if_neg (fun w => q w.1)]
theorem jClI_c {f g : Nat → Int32} {i n : Int} (h : jEqU f g n) (hi : 0 ≤ i) : jClI f i n = jClI g i n := by
  unfold jClI
  by_cases q : i + 1 < n
  · have e1 : (f i.toNat).toInt = (g i.toNat).toInt := h i hi (by omega)
    have e2 : (f (i + 1).toNat).toInt = (g (i + 1).toNat).toInt := h (i + 1) (by omega) q
    rw [e1, e2]
  · rw [if_neg (fun w => q w.1), if_neg (fun w => q w.1)]
theorem jBc_c {f g : Nat → Int32} {n : Int} (h : jEqU f g n) : ∀ (k : Nat) (i d : Int), 0 ≤ i → jBc f n k i d = jBc g n k i d := by
  intro k
  induction k with
  | zero => intro i d _; rfl
  | succ k ih =>
    intro i d hi
    rw [jBc_s (f := f) (by omega), jBc_s (f := g) (by omega), jOpI_c h hi, jClI_c h hi, show k + 1 - 1 = k by omega, ih (i + 2) (d + 1) (by omega), ih (i + 2) (d - 1) (by omega), ih (i + 1) d (by omega)]
theorem jBcc_c {f g : Nat → Int32} {n i : Int} (h : jEqU f g n) (hi : 0 ≤ i) : jBcc f n i = jBcc g n i := jBc_c h _ _ _ hi
theorem jGa_cg {f g : Nat → Int32} {n : Int} (h : jEqU f g n) : ∀ (k : Nat) (i : Int), 0 ≤ i → jGa f n k i = jGa g n k i := by
  intro k
  induction k with
  | zero => intro i _; rfl
  | succ k ih =>
    intro i hi
    rw [jGa_s (f := f) (by omega), jGa_s (f := g) (by omega), show k + 1 - 1 = k by omega]
    by_cases q : i < n
    · rw [if_pos q, if_pos q, h i hi q, jOpI_c h hi, jBcc_c h hi, ih (i + 1) (by omega)]
      by_cases w : jOpI g i n = 1 ∧ 0 ≤ jBcc g n i
      · rw [if_pos w, if_pos w, ih _ w.2]
      · rw [if_neg w, if_neg w]
    · rw [if_neg q, if_neg q]
theorem jGa_nn {f : Nat → Int32} {n : Int} (hn : 0 ≤ n) : ∀ (k : Nat) (i : Int), 0 ≤ i → 0 ≤ jGa f n k i := by
  intro k
  induction k with
  | zero => intro i _; exact hn
  | succ k ih =>
    intro i hi
    rw [jGa_s (by omega), show k + 1 - 1 = k by omega]
    split
    · split
      · exact ih _ (by omega)
      · split
        · rename_i w; exact ih _ w.2
        · exact hi
    · exact hn
theorem jDt_cg {f g : Nat → Int32} {n i : Int} (h : jEqU f g n) (hi : 0 ≤ i) (hn : i < n) : jDt f n i = jDt g n i := by
  unfold jDt
  rw [h i hi hn, jOpI_c h (by omega : 0 ≤ i + 1)]
  by_cases q : i + 1 = n
  · by_cases w : jSo g i = 46
    · rw [if_pos ⟨w, Or.inl q⟩, if_pos ⟨w, Or.inl q⟩]
    · rw [if_neg (fun v => w v.1), if_neg (fun v => w v.1)]
  · rw [h (i + 1) (by omega) (by omega)]
theorem jSx_cg {f g : Nat → Int32} {n : Int} (h : jEqU f g n) : ∀ (k : Nat) (i : Int), 0 ≤ i → jSx f n k i = jSx g n k i := by
  intro k
  induction k with
  | zero => intro i _; rfl
  | succ k ih =>
    intro i hi
    rw [jSx_s (f := f) (by omega), jSx_s (f := g) (by omega), show k + 1 - 1 = k by omega]
    by_cases q : i < n
    · rw [if_pos q, if_pos q, jOpI_c h hi, jBcc_c h hi, jDt_cg h hi q, ih (i + 1) (by omega)]
      by_cases w : jBcc g n i < 0
      · rw [if_pos w, if_pos w]
      · rw [if_neg w, if_neg w, ih _ (by omega)]
    · rw [if_neg q, if_neg q]
theorem jEn_cg {f g : Nat → Int32} {n i : Int} (h : jEqU f g n) (hi : 0 ≤ i) : jEn f n i = jEn g n i := by
  unfold jEn jSen
  rw [jSx_cg h _ _ hi]
theorem jEn_nn {f : Nat → Int32} {n i : Int} (hn : 0 ≤ n) : 0 ≤ jEn f n i := by
  unfold jEn
  split
  · exact hn
  · omega
theorem jPn_cg {f g : Nat → Int32} {n : Int} (hn : 0 ≤ n) (h : jEqU f g n) : ∀ (k : Nat) (i c : Int), 0 ≤ i → jPn f n k i c = jPn g n k i c := by
  intro k
  induction k with
  | zero => intro i c _; rfl
  | succ k ih =>
    intro i c hi
    rw [jPn_s (f := f) (by omega), jPn_s (f := g) (by omega), show k + 1 - 1 = k by omega, jEn_cg h hi]
    have e : jGap f n (jEn g n i) = jGap g n (jEn g n i) := jGa_cg h _ _ (jEn_nn hn)
    have hnn : 0 ≤ jGap g n (jEn g n i) := jGa_nn hn _ _ (jEn_nn hn)
    rw [e, ih _ (c + 1) hnn]
theorem jPar_cg {f g : Nat → Int32} {n : Int} (hn : 0 ≤ n) (h : jEqU f g n) : jPar f n = jPar g n := by
  unfold jPar
  have e : jGap f n 0 = jGap g n 0 := jGa_cg h _ _ (by omega)
  have hnn : 0 ≤ jGap g n 0 := jGa_nn hn _ _ (by omega)
  rw [e, jPn_cg hn h _ _ _ hnn]
end
section
-- a document is closed: it goes behind the open ones
def jNo (fo : Nat → Option Nat) (x : Nat) (k : Int) : Prop := ∀ w : Nat, (w : Int) < k → fo w ≠ some x
theorem jNo.null {fo fo' : Nat → Option Nat} {x w : Nat} {k k1 : Int} (h : jNo fo x k) (hv : fo' w = none) (ho : ∀ j, j < 2 → j ≠ w → fo' j = fo j) (hw : (w : Int) = k) (h2 : k < 2) (hk : k1 = k + 1) : jNo fo' x k1 := fun j hj => by
  by_cases e : j = w
  · subst e; rw [hv]; exact fun q => by cases q
  · rw [ho j (by omega) e]; exact h j (by omega)
def jSh (f0 f : Nat → Option Nat) (d k : Int) : Prop := ∀ i : Nat, i < 3 → f i = if d ≤ (i : Int) ∧ (i : Int) < k then f0 (i + 1) else f0 i
theorem jSh.nil (f0 : Nat → Option Nat) (d : Int) : jSh f0 f0 d d := fun i hi => by rw [if_neg (by omega)]
theorem jSh.step {f0 f g : Nat → Option Nat} {d k k1 : Int} {o : Option Nat} (h : jSh f0 f d k) (h0 : 0 ≤ k) (hd : d ≤ k) (h3 : k + 1 < 3) (ho : o = f (k + 1).toNat) (hv : g k.toNat = o) (hg : ∀ j, j < 3 → j ≠ k.toNat → g j = f j) (e : k1 = k + 1) : jSh f0 g d k1 := fun i hi => by
  by_cases q : i = k.toNat
  · have h1 := h (k + 1).toNat (by omega)
    rw [if_neg (by omega)] at h1
    rw [q, hv, ho, h1, if_pos (by omega), show (k + 1).toNat = k.toNat + 1 by omega]
  · rw [hg i hi q, h i hi]
    by_cases w : d ≤ (i : Int) ∧ (i : Int) < k
    · rw [if_pos w, if_pos (by omega)]
    · rw [if_neg w, if_neg (by omega)]
theorem jPu.cls {sn ck fs : Nat → Int32} {f0 f g fo : Nat → Option Nat} {dc dc1 d k k' : Int} {ol nw td x : Nat} (h : jPu sn ck f0 fo fs dc ol nw td) (hn : jNo fo x 2) (hs : jSh f0 f d k') (h0 : 0 ≤ d) (hdc : d < dc) (h3 : dc ≤ 3) (hx : f0 d.toNat = some x) (hkk : k' = k) (hk : k = dc - 1) (hv : g k.toNat = some x) (hg : ∀ j, j < 3 → j ≠ k.toNat → g j = f j) (e : dc1 = dc - 1) : jPu sn ck g fo fs dc1 ol nw td := by
  have hkk2 := hkk.symm
  subst hkk2
  obtain ⟨g0, g1, g2, g3⟩ := h
  have key : ∀ i : Nat, i < 3 → ∃ j : Nat, j < 3 ∧ g i = f0 j ∧ (((i : Int) = k ∧ (j : Int) = d) ∨ (d ≤ (i : Int) ∧ (i : Int) < k ∧ j = i + 1) ∨ (((i : Int) < d ∨ k < (i : Int)) ∧ j = i)) := fun i hi => by
    by_cases q : i = k.toNat
    · exact ⟨d.toNat, by omega, by rw [q, hv, hx], Or.inl ⟨by omega, by omega⟩⟩
    · rw [hg i hi q, hs i hi]
      by_cases w : d ≤ (i : Int) ∧ (i : Int) < k
      · rw [if_pos w]; exact ⟨i + 1, by omega, rfl, Or.inr (Or.inl ⟨w.1, w.2, rfl⟩)⟩
      · rw [if_neg w]; exact ⟨i, hi, rfl, Or.inr (Or.inr ⟨by omega, rfl⟩)⟩
  refine ⟨fun i hi => ?_, fun i j hi hj he => ?_, fun i a hi ha => ?_, fun w hw => ?_⟩
  · obtain ⟨j, k1, k2, -⟩ := key i hi
    rw [k2]; exact g0 j k1
  · obtain ⟨i1, a1, a2, a3⟩ := key i hi
    obtain ⟨j1, b1, b2, b3⟩ := key j hj
    have := g1 i1 j1 a1 b1 (by rw [← a2, ← b2]; exact he)
    omega
  · obtain ⟨j, k1, k2, -⟩ := key i hi
    rw [k2] at ha; exact g2 j a k1 ha
  · rcases g3 w hw with q | ⟨j, a, k1, k2, k3, k4, k5⟩
    · exact Or.inl q
    · have hja : (j : Int) ≠ d := fun q => by
        have e1 : j = d.toNat := by omega
        rw [e1, hx] at k3
        exact hn w (by omega) (by rw [k4, k3])
      by_cases c : (j : Int) < d
      · obtain ⟨j1, b1, b2, b3⟩ := key j k2
        exact Or.inr ⟨j, a, by omega, k2, by rw [b2, show j1 = j by omega]; exact k3, k4, k5⟩
      · obtain ⟨j1, b1, b2, b3⟩ := key (j - 1) (by omega)
        exact Or.inr ⟨j - 1, a, by omega, by omega, by rw [b2, show j1 = j by omega]; exact k3, k4, k5⟩
end
section
-- super's methods; bytes whose contents are known; the numbers that signs tell
def jDg (f : Nat → Int32) (n : Int) : Prop := ∀ i : Int, 0 ≤ i → i < n → 48 ≤ (jCv (f i.toNat)).toInt ∧ (jCv (f i.toNat)).toInt ≤ 57
def jNm (f : Nat → Int32) : Nat → Int
  | 0 => 0
  | n + 1 => 10 * jNm f n + ((jCv (f n)).toInt - 48)
def jBf (j : Nat) (z : Int32) : Prop := fits .byte (.int z) = true
section J18
variable {p : Program} {l : Launch} {e : Env} {R : Room} {s : State} {m : MethodId} {args : Array Value} {below : List Frame} {meth : Method} {c : Code} {H : Heap} {locs : List Loc} {cells slots : Nat} {Q : State → Prop}
variable {cc : ByteArray} {pc : Nat} {ls : Array Slot} {rest : List Value} {dC : Nat → ClassId} {dI : Nat → Nat → Nat} {ca : Nat → ClassId} {B : jF} {base : Nat} {G0 G : jT} {E : List (Nat × Nat)} {H0 : Heap} {zc zs : Nat} {L : List jPin} {M : List jCt} {I : List jIv} {a k n : Nat} {cA : ClassId} {tys : List (ClassId × FieldType)}
end J18
end
section
-- what a method writes of one object only: the others of its kind keep their fields
def jOw (D : va_G) (G : jT) (k r : Nat) (H0 H : Heap) : Prop := ∀ a n i v, a ≠ r → G a = some (k, n) → jf D k a i v H0 → jf D k a i v H
theorem jOw.rf {D : va_G} {G : jT} {k r : Nat} {H : Heap} : jOw D G k r H H := fun _ _ _ _ _ _ h => h
theorem jOw.tr {D : va_G} {G G1 : jT} {k r : Nat} {H0 H H1 : Heap} (h : jOw D G k r H0 H) (hle : jLe G G1) (h1 : jOw D G1 k r H H1) : jOw D G k r H0 H1 := fun a n i v hne ha hf => h1 a n i v hne (hle _ _ ha) (h a n i v hne ha hf)
theorem jOw.put {D : va_G} {G : jT} {k r : Nat} {H0 H H1 : Heap} (h : jOw D G k r H0 H) (hr : ∀ q, q ≠ r → H1[q]? = H[q]?) : jOw D G k r H0 H1 := fun a n i v hne ha hf => (h a n i v hne ha hf).kept (hr a hne)
theorem jP.cons {D : va_G} {G : jT} {H : Heap} {L : List jPin} {a k n i : Nat} {v : Value} (hg : G a = some (k, n)) (hf : jf D k a i v H) (h : jP D G H L) : jP D G H ((a, k, i, v) :: L) := fun q hq => by
  rcases List.mem_cons.mp hq with e | e
  · subst e; exact ⟨⟨n, hg⟩, hf⟩
  · exact h q e
/-- no new object of these kinds -/
def jNk (ks : List Nat) (G G1 : jT) : Prop := ∀ a k n, G1 a = some (k, n) → ks.contains k = true → G a = some (k, n)
theorem jNk.rf {ks : List Nat} {G : jT} : jNk ks G G := fun _ _ _ h _ => h
theorem jNk.tr {ks : List Nat} {G G1 G2 : jT} (h : jNk ks G G1) (h1 : jNk ks G1 G2) : jNk ks G G2 := fun a k n ha hk => h a k n (h1 a k n ha hk) hk
section J19
variable {p : Program} {l : Launch} {e : Env} {R : Room} {s : State} {m : MethodId} {args : Array Value} {below : List Frame} {meth : Method} {c : Code} {H : Heap} {locs : List Loc} {cells slots : Nat} {Q : State → Prop}
variable {cc : ByteArray} {pc : Nat} {ls : Array Slot} {rest : List Value} {dC : Nat → ClassId} {dI : Nat → Nat → Nat} {ca : Nat → ClassId} {B : jF} {base : Nat} {G0 G : jT} {E : List (Nat × Nat)} {H0 : Heap} {zc zs : Nat} {L : List jPin} {M : List jCt} {I : List jIv} {a k n i index N : Nat} {tys : List (ClassId × FieldType)} {own C : String} {T : u_T}
end J19
end
section
def Fz0 (n : Nat) (G : jT) : List (Value → Prop) := [jRk G 198 1000, jI 0 0, jZb, jI 0 1000]
end
section
-- more cells: what is known stays known (a call that makes cells; none of them is a document of the reference)
/-- no new document -/
def jN14 (G G1 : jT) : Prop := ∀ a, G1 a = some (14, 0) → G a = some (14, 0)
theorem jN14.rf {G : jT} : jN14 G G := fun _ h => h
theorem jN14.tr {G G1 G2 : jT} (h : jN14 G G1) (h1 : jN14 G1 G2) : jN14 G G2 := fun a ha => h a (h1 a ha)
end
section
-- bits: what masks, shifts and or leave
theorem ji_toInt (x : Int32) : x.toInt = if 2 * x.toBitVec.toNat < 2 ^ 32 then (x.toBitVec.toNat : Int) else (x.toBitVec.toNat : Int) - (2 ^ 32 : Nat) := by
  show x.toBitVec.toInt = _
  rw [BitVec.toInt_eq_toNat_cond]
theorem jb_and15 (x : Int32) : (x &&& 15).toInt = x.toInt % 16 := by
  have h := pk_and x (m := 15) 4 (by decide)
  have hb := x.toBitVec.isLt
  have hx := ji_toInt x
  rw [h, nI_toInt (by omega), hx]
  split <;> omega
end
section
def jPw (m : Nat) : Prop := ∃ k, k ≤ 16 ∧ m = 16 * 2 ^ k
theorem jPw.le {m : Nat} (h : jPw m) : 16 ≤ m ∧ m ≤ 1048576 := by
  obtain ⟨k, hk, rfl⟩ := h
  have h1 : 2 ^ k ≤ 2 ^ 16 := Nat.pow_le_pow_right (by decide) hk
  have h2 : 0 < 2 ^ k := Nat.two_pow_pos k
  have h3 : (2 : Nat) ^ 16 = 65536 := by decide
  omega
theorem jPw.cg {n m : Nat} (h : jPw n) (e : n = m) : jPw m := e ▸ h
def jBkd (n : Nat) : Nat := if n = 4000 then 197 else 196
def jBr (n : Nat) (G : jT) : Value → Prop := fun v => ∃ (x m : Nat), v = .ref x ∧ G x = some (jBkd n, m) ∧ 16 ≤ m ∧ m ≤ 1048576 ∧ (n = 0 → jPw m) ∧ (n = 0 ∨ m = n)
def jBct (n : Nat) : Value → Prop := fun v => ∃ x : Int32, v = .int x ∧ 0 ≤ x.toInt ∧ x.toInt ≤ 1048576 ∧ (n = 0 ∨ x.toInt ≤ n)
def F2 (n : Nat) (G : jT) : List (Value → Prop) := [jBr n G, jBct n]
end
section
-- new objects: raw while they are made, typed when they are whole
def jFx : List (Value → Prop) → List Value → Prop
  | [], _ => True
  | _ :: _, [] => False
  | p :: P, v :: fs => p v ∧ jFx P fs
theorem jFx.at : ∀ (P : List (Value → Prop)) (fs : List Value), jFx P fs → ∀ (i : Nat) (p : Value → Prop), P[i]? = some p → p (vp_V fs i)
  | [], _, _, i, p, hp => by simp at hp
  | q :: P, [], h, i, p, hp => by simp [jFx] at h
  | q :: P, v :: fs, h, i, p, hp => by
    obtain ⟨h1, h2⟩ := h
    cases i with
    | zero =>
      have e : q = p := by simpa using hp
      rw [← e]; exact h1
    | succ j =>
      have e : P[j]? = some p := by simpa using hp
      exact jFx.at P fs h2 j p e
/-- the cells that were there are as they were, and have the kinds that they had -/
def jKe (G0 G : jT) (H0 H : Heap) : Prop := (∀ q, q < H0.size → H[q]? = H0[q]?) ∧ ∀ q t, q < H0.size → G q = some t → G0 q = some t
/-- the same, but for one -/
def jKx (r : Nat) (G0 G : jT) (H0 H : Heap) : Prop := (∀ q, q < H0.size → q ≠ r → H[q]? = H0[q]?) ∧ ∀ q t, q < H0.size → q ≠ r → G q = some t → G0 q = some t
theorem jKe.rf {G : jT} {H : Heap} : jKe G G H H := ⟨fun _ _ => rfl, fun _ _ _ h => h⟩
theorem jKx.rf {r : Nat} {G : jT} {H : Heap} : jKx r G G H H := ⟨fun _ _ _ => rfl, fun _ _ _ _ h => h⟩
theorem jLtz {H0 H : Heap} {q : Nat} (h : q < H0.size) (e : H[q]? = H0[q]?) : q < H.size := by
  rw [Array.getElem?_eq_getElem h] at e
  exact (Array.getElem?_eq_some_iff.mp e).1
theorem jKe.tr {G0 G G1 : jT} {H0 H H1 : Heap} (h : jKe G0 G H0 H) (h1 : jKe G G1 H H1) : jKe G0 G1 H0 H1 :=
  ⟨fun q hq => (h1.1 q (jLtz hq (h.1 q hq))).trans (h.1 q hq), fun q t hq hg => h.2 q t hq (h1.2 q t (jLtz hq (h.1 q hq)) hg)⟩
theorem jKx.tr {r : Nat} {G0 G G1 : jT} {H0 H H1 : Heap} (h : jKx r G0 G H0 H) (h1 : jKe G G1 H H1) : jKx r G0 G1 H0 H1 :=
  ⟨fun q hq hn => (h1.1 q (jLtz hq (h.1 q hq hn))).trans (h.1 q hq hn), fun q t hq hn hg => h.2 q t hq hn (h1.2 q t (jLtz hq (h.1 q hq hn)) hg)⟩
/-- an inner constructor, whose object came later -/
theorem jKx.in {r a : Nat} {G0 G G1 : jT} {H0 H H1 : Heap} (h : jKx r G0 G H0 H) (h1 : jKx a G G1 H H1) (ha : H0.size ≤ a) : jKx r G0 G1 H0 H1 :=
  ⟨fun q hq hn => (h1.1 q (jLtz hq (h.1 q hq hn)) (by omega)).trans (h.1 q hq hn), fun q t hq hn hg => h.2 q t hq hn (h1.2 q t (jLtz hq (h.1 q hq hn)) (by omega) hg)⟩
theorem jKe.in {a : Nat} {G0 G G1 : jT} {H0 H H1 : Heap} (h : jKe G0 G H0 H) (h1 : jKx a G G1 H H1) (ha : H0.size ≤ a) : jKe G0 G1 H0 H1 :=
  ⟨fun q hq => (h1.1 q (jLtz hq (h.1 q hq)) (by omega)).trans (h.1 q hq), fun q t hq hg => h.2 q t hq (h1.2 q t (jLtz hq (h.1 q hq)) (by omega) hg)⟩
theorem jKx.put {r : Nat} {G0 G : jT} {H0 H H1 : Heap} (h : jKx r G0 G H0 H) (hr : ∀ q, q ≠ r → H1[q]? = H[q]?) : jKx r G0 G H0 H1 := ⟨fun q hq hn => (hr q hn).trans (h.1 q hq hn), h.2⟩
theorem jKe.st {G : jT} {H0 H H1 : Heap} {G0 : jT} {a : Nat} (h : jKe G0 G H0 H) (ha : H0.size ≤ a) (hr : ∀ q, q ≠ a → H1[q]? = H[q]?) : jKe G0 G H0 H1 := ⟨fun q hq => (hr q (by omega)).trans (h.1 q hq), h.2⟩
section J20
variable {p : Program} {l : Launch} {e : Env} {R : Room} {s : State} {m : MethodId} {args : Array Value} {below : List Frame} {meth : Method} {c : Code} {H : Heap} {locs : List Loc} {cells slots : Nat} {Q : State → Prop}
variable {cc : ByteArray} {pc : Nat} {ls : Array Slot} {rest : List Value} {dC : Nat → ClassId} {dI : Nat → Nat → Nat} {ca : Nat → ClassId} {B : jF} {base : Nat} {G0 G : jT} {E : List (Nat × Nat)} {H0 : Heap} {zc zs : Nat} {L : List jPin} {M : List jCt} {I : List jIv} {a k n i index N : Nat} {tys : List (ClassId × FieldType)} {own C : String} {T : u_T} {fs : List Value}
theorem jOb.of {F : Nat → jT → List (Value → Prop)} (hBk : ∀ n G a H, B k n G a H ↔ jOb (dC, dI) k N (F n G) a H) (hc : vwCl[k]? = some (C, T, N)) (h : va_at (dC, dI) vwCl (a, .inr (k, fs)) H) (hF : jFx (F n G) fs) : B k n G a H := by
  obtain ⟨r, h1, h2⟩ := h
  have hr : r = (C, T, N) := Option.some.inj (h1.symm.trans hc)
  subst hr
  exact (hBk _ _ _ _).mpr ⟨vp_V fs, h2, fun i p hp => jFx.at _ _ hF i p hp⟩
end J20
-- all growing Bytes hold no more than they have room for
def jYb (dC : Nat → ClassId) (dI : Nat → Nat → Nat) (G : jT) (H : Heap) : Prop := ∀ a, G a = some (2, 0) → ∃ (c : Int32) (x m : Nat), jf (dC, dI) 2 a 1 (.int c) H ∧ jf (dC, dI) 2 a 0 (.ref x) H ∧ G x = some (196, m) ∧ c.toInt ≤ m ∧ m ≤ 1048576
theorem jYb.put {dC : Nat → ClassId} {dI : Nat → Nat → Nat} {G : jT} {r n : Nat} {H H1 : Heap} (h : jYb dC dI G H) (hr : ∀ q, q ≠ r → H1[q]? = H[q]?) (hx : G r = some (2, n)) (hp : n = 0 → ∃ (c : Int32) (x m : Nat), jf (dC, dI) 2 r 1 (.int c) H1 ∧ jf (dC, dI) 2 r 0 (.ref x) H1 ∧ G x = some (196, m) ∧ c.toInt ≤ m ∧ m ≤ 1048576) : jYb dC dI G H1 := fun a ha => by
  by_cases e : a = r
  · subst e
    rw [hx] at ha
    exact hp (Prod.mk.inj (Option.some.inj ha)).2
  · obtain ⟨c, x, m, g1, g2, g3, g4⟩ := h a ha
    exact ⟨c, x, m, g1.kept (hr a e), g2.kept (hr a e), g3, g4⟩
def jQa (k : Nat) (G : jT) : Option Nat → Prop := fun o => o = none ∨ ∃ x n, o = some x ∧ G x = some (k, n)
end
section
-- less is known of the room
theorem jSt.wk {dC : Nat → ClassId} {dI : Nat → Nat → Nat} {B : jF} {base : Nat} {G0 G : jT} {E : List (Nat × Nat)} {H0 : Heap} {zc zs : Nat} {L : List jPin} {M : List jCt} {I : List jIv} {H : Heap} {locs : List Loc} (hh : jSt (dC, dI) B base G0 G E H0 zc zs L M I H locs) {zc1 zs1 : Nat} (h1 : zc ≤ zc1) (h2 : zs ≤ zs1) : jSt (dC, dI) B base G0 G E H0 zc1 zs1 L M I H locs := by
  obtain ⟨g1, g2, g3, g4, g5, g6, g7, g8, g9⟩ := hh
  exact ⟨g1, g2, g3, g4, g5, by omega, by omega, g8, g9⟩
end
section
-- formulas whose nodes may be -1
def jLe5 (f : Nat → Int32) (r : Int) : Prop := ∀ j : Int, 0 ≤ j → j < r → jSo f j % 16 = 5
theorem jLe5.step {f : Nat → Int32} {r r1 : Int} (h : jLe5 f r) (h1 : r1 = r + 1) (h2 : jSo f r % 16 = 5) : jLe5 f r1 := fun j a b => by
  by_cases e : j = r
  · subst e; exact h2
  · exact h j a (by omega)
/-- the number of leading quantifiers -/
def jLd (f : Nat → Int32) (n : Nat) (r : Int) : Prop := jLe5 f r ∧ (r = n ∨ r = 12 ∨ jSo f r % 16 ≠ 5)
theorem jLd.uniq {f : Nat → Int32} {n : Nat} {r r1 : Int} (h : jLd f n r) (g : jLd f n r1) (h0 : 0 ≤ r) (h1 : r ≤ n) (h2 : r ≤ 12) (g0 : 0 ≤ r1) (g1 : r1 ≤ n) (g2 : r1 ≤ 12) : r = r1 := by
  rcases Int.lt_trichotomy r r1 with q | q | q
  · have := g.1 r h0 q
    have := h.2
    omega
  · exact q
  · have := h.1 r1 g0 q
    have := g.2
    omega
end
section
def F9b (n : Nat) (G : jT) : List (Value → Prop) := [jRf G 8 0, jRf G 286 800, jI 0 800, jRf G 287 13, jRf G 288 13]
end
section
-- arrays of references that get their kind when they are filled; arrays of arrays of ints
def jK5 (dC : Nat → ClassId) (dI : Nat → Nat → Nat) (ca : Nat → ClassId) (U : State) : Prop := va_K (dC, dI) vwCl [(ca 8, .array .int)] U ∧ (∃ kA : Class, U.vm.classes[ca 8]? = some kA ∧ kA.kind = .array (ca 1) (.array .int)) ∧ (∃ k1 : Class, U.vm.classes[ca 1]? = some k1) ∧ (Cond.arrayOver (.array .int)).before #[] U = true
def jQk (k most : Nat) (G : jT) : Option Nat → Prop := fun o => ∃ x j, o = some x ∧ G x = some (k, j) ∧ j ≤ most
section J22
variable {p : Program} {l : Launch} {e : Env} {R : Room} {s : State} {m : MethodId} {args : Array Value} {below : List Frame} {meth : Method} {c : Code} {H : Heap} {locs : List Loc} {cells slots : Nat} {Q : State → Prop}
variable {cc : ByteArray} {pc : Nat} {ls : Array Slot} {rest : List Value} {dC : Nat → ClassId} {dI : Nat → Nat → Nat} {ca : Nat → ClassId} {B : jF} {base : Nat} {G0 G : jT} {E : List (Nat × Nat)} {H0 : Heap} {zc zs : Nat} {L : List jPin} {M : List jCt} {I : List jIv} {a k n index : Nat} {tys : List (ClassId × FieldType)} {own C : String} {cA : ClassId} {f : Nat → Option Nat}
end J22
end
section
def jQg (G : jT) : Option Nat → Prop := fun o => ∃ x m, o = some x ∧ G x = some (5, m) ∧ m % 10 = 1
def jGv (n : Nat) (G : jT) : Value → Prop := fun v => ∃ (x j : Nat), v = .ref x ∧ G x = some (101, j) ∧ j ≤ 7 ∧ (n % 10 = 1 → j ≤ 6) ∧ (n % 10 = 2 → 6 < j)
def jGn (n : Nat) (G : jT) : Value → Prop := fun v => ∃ x : Nat, v = .ref x ∧ G x = some (101, n / 10)
def jGh (n : Nat) (G : jT) : Value → Prop := fun v => ∃ (x k : Nat), v = .ref x ∧ G x = some (k, n / 10) ∧ n / 10 ≤ 9 ∧ (n % 10 ≠ 4 → k = 313) ∧ (n % 10 = 4 → k = 315) ∧ (n % 10 = 1 → n / 10 ≤ 8) ∧ (n % 10 = 3 → 8 < n / 10)
def jGfo (n : Nat) (G : jT) : Value → Prop := fun v => (v = .null ∧ n % 10 = 0) ∨ ∃ (x j : Nat), v = .ref x ∧ G x = some (280, j) ∧ j ≤ 80 ∧ n % 10 ≠ 0 ∧ n % 10 ≤ 4
def F5 (n : Nat) (G : jT) : List (Value → Prop) := [jGv n G, jGn n G, jGh n G, jGfo n G]
def F11 (n : Nat) (G : jT) : List (Value → Prop) := [jRn G 11 0, jRk G 175 1500, jIa, jRk G 101 16, jRk G 101 16, jRk G 313 16, jIa, jRk G 280 80, jRk G 214 6]
def F17 (n : Nat) (G : jT) : List (Value → Prop) := [jRk G 199 4096, jI 0 4096]
def F10 (n : Nat) (G : jT) : List (Value → Prop) := [jRn G 17 0, jRn G 3 0, jIa, jZb, jIa]
end
section
def F13 (n : Nat) (G : jT) : List (Value → Prop) := [jRf G 2 4000, jRf G 4 0, jRf G 6 0, jRf G 2 20000, jRf G 2 0, jRf G 7 0, jRf G 9 0, jRf G 1 1, jRf G 1 2, jRf G 1 3, jRf G 212 2, jI 0 2, jIa, jIa, jIa, jRf G 3 1, jRn G 3 1, jRf G 2 0, jIa]
end
section
-- what a method writes of some objects only
def jOl (D : va_G) (G : jT) (k : Nat) (rs : List Nat) (H0 H : Heap) : Prop := ∀ a n i v, a ∉ rs → G a = some (k, n) → jf D k a i v H0 → jf D k a i v H
theorem jOl.rf {D : va_G} {G : jT} {k : Nat} {rs : List Nat} {H : Heap} : jOl D G k rs H H := fun _ _ _ _ _ _ h => h
theorem jOl.put {D : va_G} {G : jT} {k r : Nat} {rs : List Nat} {H0 H H1 : Heap} (h : jOl D G k rs H0 H) (hr : ∀ q, q ≠ r → H1[q]? = H[q]?) (hm : r ∈ rs) : jOl D G k rs H0 H1 := fun a n i v hne ha hf => (h a n i v hne ha hf).kept (hr a (fun q => hne (by rw [q]; exact hm)))
end
section
-- how many digits a number has, as they are written one by one
def jTb (g v : Int) : Prop := (g = 10 ∧ v = 1000000000) ∨ (g = 9 ∧ v = 100000000) ∨ (g = 8 ∧ v = 10000000) ∨ (g = 7 ∧ v = 1000000) ∨ (g = 6 ∧ v = 100000) ∨ (g = 5 ∧ v = 10000) ∨ (g = 4 ∧ v = 1000) ∨ (g = 3 ∧ v = 100) ∨ (g = 2 ∧ v = 10) ∨ (g = 1 ∧ v = 1) ∨ (g = 0 ∧ v = 0)
def jDj (a p g : Int) : Prop := (10 ≤ a ∨ p = 0 ∨ p + g ≤ 1) ∧ (100 ≤ a ∨ p = 0 ∨ p + g ≤ 2) ∧ (1000 ≤ a ∨ p = 0 ∨ p + g ≤ 3) ∧ (10000 ≤ a ∨ p = 0 ∨ p + g ≤ 4) ∧ (100000 ≤ a ∨ p = 0 ∨ p + g ≤ 5) ∧ (1000000 ≤ a ∨ p = 0 ∨ p + g ≤ 6) ∧ (10000000 ≤ a ∨ p = 0 ∨ p + g ≤ 7)
def jNdg (a v g p b : Int) : Prop := jTb g v ∧ ((b = 0 ∧ p = 0) ∨ (b = 1 ∧ 1 ≤ p)) ∧ (b = 0 ∨ g = 0 ∨ 10 * v ≤ a) ∧ jDj a p g
def jNp (a pc n : Int) : Prop := (a < 10 ∧ pc + 1 ≤ n) ∨ (a < 100 ∧ pc + 2 ≤ n) ∨ (a < 1000 ∧ pc + 3 ≤ n) ∨ (a < 10000 ∧ pc + 4 ≤ n) ∨ (a < 100000 ∧ pc + 5 ≤ n) ∨ (a < 1000000 ∧ pc + 6 ≤ n) ∨ (a < 10000000 ∧ pc + 7 ≤ n)
theorem jNdg.start {a : Int} : jNdg a 1000000000 10 0 0 := ⟨Or.inl ⟨rfl, rfl⟩, Or.inl ⟨rfl, rfl⟩, Or.inl rfl, Or.inr (Or.inl rfl), Or.inr (Or.inl rfl), Or.inr (Or.inl rfl), Or.inr (Or.inl rfl), Or.inr (Or.inl rfl), Or.inr (Or.inl rfl), Or.inr (Or.inl rfl)⟩
theorem jTb.step {g v : Int} (h : jTb g v) (hv : 0 < v) : jTb (g - 1) (v / 10) ∧ 1 ≤ g := by
  unfold jTb at h ⊢
  rcases h with ⟨rfl, rfl⟩ | ⟨rfl, rfl⟩ | ⟨rfl, rfl⟩ | ⟨rfl, rfl⟩ | ⟨rfl, rfl⟩ | ⟨rfl, rfl⟩ | ⟨rfl, rfl⟩ | ⟨rfl, rfl⟩ | ⟨rfl, rfl⟩ | ⟨rfl, rfl⟩ | ⟨rfl, rfl⟩ <;> first | omega | (exact ⟨by decide, by decide⟩)
/-- what a digit that is written tells of the number -/
theorem jNdg.ge {a v g p b : Int} (h : jNdg a v g p b) (hv : 0 < v) (hc : b = 1 ∨ 1 ≤ a / v ∨ v = 1) : v = 1 ∨ v ≤ a := by
  obtain ⟨h1, h2, h3, -⟩ := h
  rcases hc with hc | hc | hc
  · rcases h3 with h3 | h3 | h3
    · omega
    · unfold jTb at h1; omega
    · omega
  · right
    have h4 : v * 1 ≤ v * (a / v) := Int.mul_le_mul_of_nonneg_left hc (by omega)
    have h5 : v * (a / v) ≤ a := Int.mul_ediv_self_le (by omega)
    omega
  · left; exact hc
theorem jD1 {a p g : Int} {A J : Int} (h : A ≤ a ∨ p = 0 ∨ p + g ≤ J) (hp : p = 0 → A ≤ a ∨ g ≤ J) : A ≤ a ∨ p + 1 = 0 ∨ p + 1 + (g - 1) ≤ J := by
  rcases h with h | h | h
  · exact Or.inl h
  · rcases hp h with q | q
    · exact Or.inl q
    · right; right; omega
  · right; right; omega
theorem jTb.g1 {g v a : Int} (h : jTb g v) (hv : 0 < v) (ha : v = 1 ∨ v ≤ a) : (10 ≤ a ∨ g ≤ 1) ∧ (100 ≤ a ∨ g ≤ 2) ∧ (1000 ≤ a ∨ g ≤ 3) ∧ (10000 ≤ a ∨ g ≤ 4) ∧ (100000 ≤ a ∨ g ≤ 5) ∧ (1000000 ≤ a ∨ g ≤ 6) ∧ (10000000 ≤ a ∨ g ≤ 7) := by
  unfold jTb at h
  rcases h with ⟨rfl, rfl⟩ | ⟨rfl, rfl⟩ | ⟨rfl, rfl⟩ | ⟨rfl, rfl⟩ | ⟨rfl, rfl⟩ | ⟨rfl, rfl⟩ | ⟨rfl, rfl⟩ | ⟨rfl, rfl⟩ | ⟨rfl, rfl⟩ | ⟨rfl, rfl⟩ | ⟨rfl, rfl⟩ <;> first | omega | (refine ⟨?_, ?_, ?_, ?_, ?_, ?_, ?_⟩ <;> omega)
theorem jTb.ten {g v a : Int} (h : jTb g v) (hv : 0 < v) (ha : v = 1 ∨ v ≤ a) : g - 1 = 0 ∨ 10 * (v / 10) ≤ a := by
  unfold jTb at h
  rcases h with ⟨rfl, rfl⟩ | ⟨rfl, rfl⟩ | ⟨rfl, rfl⟩ | ⟨rfl, rfl⟩ | ⟨rfl, rfl⟩ | ⟨rfl, rfl⟩ | ⟨rfl, rfl⟩ | ⟨rfl, rfl⟩ | ⟨rfl, rfl⟩ | ⟨rfl, rfl⟩ | ⟨rfl, rfl⟩ <;> omega
theorem jNdg.put {a v g p b p1 b1 v1 : Int} (h : jNdg a v g p b) (hv : 0 < v) (hc : b = 1 ∨ 1 ≤ a / v ∨ v = 1) (hp : p1 = p + 1) (hb : b1 = 1) (hv1 : v1 = v / 10) : jNdg a v1 (g - 1) p1 b1 := by
  subst hp hb hv1
  have hge := h.ge hv hc
  obtain ⟨h1, h2, h3, d1, d2, d3, d4, d5, d6, d7⟩ := h
  obtain ⟨e1, e2, e3, e4, e5, e6, e7⟩ := h1.g1 hv hge
  exact ⟨(h1.step hv).1, Or.inr ⟨rfl, by rcases h2 with h2 | h2 <;> omega⟩, Or.inr (h1.ten hv hge), jD1 d1 (fun _ => e1), jD1 d2 (fun _ => e2), jD1 d3 (fun _ => e3), jD1 d4 (fun _ => e4), jD1 d5 (fun _ => e5), jD1 d6 (fun _ => e6), jD1 d7 (fun _ => e7)⟩
theorem jNdg.no {a v g p b p1 b1 v1 : Int} (h : jNdg a v g p b) (hv : 0 < v) (hb : b = 0) (hp : p1 = p) (hb1 : b1 = 0) (hv1 : v1 = v / 10) : jNdg a v1 (g - 1) p1 b1 := by
  subst hp hb1 hv1
  obtain ⟨h1, h2, h3, -⟩ := h
  have e : p1 = 0 := by rcases h2 with h2 | h2 <;> omega
  exact ⟨(h1.step hv).1, Or.inl ⟨rfl, e⟩, Or.inl rfl, Or.inr (Or.inl e), Or.inr (Or.inl e), Or.inr (Or.inl e), Or.inr (Or.inl e), Or.inr (Or.inl e), Or.inr (Or.inl e), Or.inr (Or.inl e)⟩
theorem jNdg.lt {a v g p b pc n : Int} (h : jNdg a v g p b) (hv : 0 < v) (hc : b = 1 ∨ 1 ≤ a / v ∨ v = 1) (hn : jNp a pc n) : pc + p < n := by
  have hge := h.ge hv hc
  obtain ⟨h1, h2, h3, d1, d2, d3, d4, d5, d6, d7⟩ := h
  obtain ⟨e1, e2, e3, e4, e5, e6, e7⟩ := h1.g1 hv hge
  have hg := (h1.step hv).2
  unfold jNp at hn
  rcases hn with hn | hn | hn | hn | hn | hn | hn
  · clear d2 d3 d4 d5 d6 d7 e2 e3 e4 e5 e6 e7; omega
  · clear d1 d3 d4 d5 d6 d7 e1 e3 e4 e5 e6 e7; omega
  · clear d1 d2 d4 d5 d6 d7 e1 e2 e4 e5 e6 e7; omega
  · clear d1 d2 d3 d5 d6 d7 e1 e2 e3 e5 e6 e7; omega
  · clear d1 d2 d3 d4 d6 d7 e1 e2 e3 e4 e6 e7; omega
  · clear d1 d2 d3 d4 d5 d7 e1 e2 e3 e4 e5 e7; omega
  · clear d1 d2 d3 d4 d5 d6 e1 e2 e3 e4 e5 e6; omega
theorem jNdg.end {a v g p b : Int} (h : jNdg a v g p b) (hv : v ≤ 0) : (10 ≤ a ∨ p ≤ 1) ∧ (100 ≤ a ∨ p ≤ 2) ∧ (1000 ≤ a ∨ p ≤ 3) ∧ (10000 ≤ a ∨ p ≤ 4) ∧ (100000 ≤ a ∨ p ≤ 5) ∧ (1000000 ≤ a ∨ p ≤ 6) ∧ (10000000 ≤ a ∨ p ≤ 7) := by
  obtain ⟨h1, h2, h3, d1, d2, d3, d4, d5, d6, d7⟩ := h
  have hg : g = 0 := by unfold jTb at h1; clear h2 h3 d1 d2 d3 d4 d5 d6 d7; omega
  clear h1 h2 h3
  subst hg
  refine ⟨?_, ?_, ?_, ?_, ?_, ?_, ?_⟩
  · clear d2 d3 d4 d5 d6 d7; omega
  · clear d1 d3 d4 d5 d6 d7; omega
  · clear d1 d2 d4 d5 d6 d7; omega
  · clear d1 d2 d3 d5 d6 d7; omega
  · clear d1 d2 d3 d4 d6 d7; omega
  · clear d1 d2 d3 d4 d5 d7; omega
  · clear d1 d2 d3 d4 d5 d6; omega
end
section
-- the digits of a number are counted
def jDc (c d : Int) : Prop := (d = 1 ∧ c < 10) ∨ (d = 2 ∧ c < 100) ∨ (d = 3 ∧ c < 1000) ∨ (d = 4 ∧ c < 10000) ∨ (d = 5 ∧ c < 100000) ∨ (d = 6 ∧ c < 1000000) ∨ (d = 7 ∧ c < 10000000)
def jDi (c v d : Int) : Prop := (d = 1 ∧ v = c) ∨ (d = 2 ∧ v = c / 10) ∨ (d = 3 ∧ v = c / 100) ∨ (d = 4 ∧ v = c / 1000) ∨ (d = 5 ∧ v = c / 10000) ∨ (d = 6 ∧ v = c / 100000) ∨ (d = 7 ∧ v = c / 1000000)
theorem jDi.start {c : Int} : jDi c c 1 := Or.inl ⟨rfl, rfl⟩
theorem jDi.step {c v d v1 d1 : Int} (h : jDi c v d) (h0 : 10 ≤ v) (hc : c ≤ 1048576) (e : v1 = v / 10) (e1 : d1 = d + 1) : jDi c v1 d1 := by
  subst e e1
  unfold jDi at h ⊢
  rcases h with ⟨rfl, rfl⟩ | ⟨rfl, rfl⟩ | ⟨rfl, rfl⟩ | ⟨rfl, rfl⟩ | ⟨rfl, rfl⟩ | ⟨rfl, rfl⟩ | ⟨rfl, rfl⟩
  · right; left; omega
  · right; right; left; omega
  · right; right; right; left; omega
  · right; right; right; right; left; omega
  · right; right; right; right; right; left; omega
  · right; right; right; right; right; right; omega
  · exfalso; omega
theorem jDi.end {c v d : Int} (h : jDi c v d) (h0 : v < 10) : jDc c d := by
  unfold jDi at h
  unfold jDc
  rcases h with ⟨rfl, rfl⟩ | ⟨rfl, rfl⟩ | ⟨rfl, rfl⟩ | ⟨rfl, rfl⟩ | ⟨rfl, rfl⟩ | ⟨rfl, rfl⟩ | ⟨rfl, rfl⟩
  · left; omega
  · right; left; omega
  · right; right; left; omega
  · right; right; right; left; omega
  · right; right; right; right; left; omega
  · right; right; right; right; right; left; omega
  · right; right; right; right; right; right; omega
theorem jDc.end {c d p q : Int} (h : jDc c d) (h1 : 10 ≤ c ∨ q ≤ p + 1) (h2 : 100 ≤ c ∨ q ≤ p + 2) (h3 : 1000 ≤ c ∨ q ≤ p + 3) (h4 : 10000 ≤ c ∨ q ≤ p + 4) (h5 : 100000 ≤ c ∨ q ≤ p + 5) (h6 : 1000000 ≤ c ∨ q ≤ p + 6) (h7 : 10000000 ≤ c ∨ q ≤ p + 7) : q ≤ p + d := by
  unfold jDc at h
  rcases h with ⟨rfl, h⟩ | ⟨rfl, h⟩ | ⟨rfl, h⟩ | ⟨rfl, h⟩ | ⟨rfl, h⟩ | ⟨rfl, h⟩ | ⟨rfl, h⟩
  · clear h2 h3 h4 h5 h6 h7; omega
  · clear h1 h3 h4 h5 h6 h7; omega
  · clear h1 h2 h4 h5 h6 h7; omega
  · clear h1 h2 h3 h5 h6 h7; omega
  · clear h1 h2 h3 h4 h6 h7; omega
  · clear h1 h2 h3 h4 h5 h7; omega
  · clear h1 h2 h3 h4 h5 h6; omega
end
section
-- System.arraycopy of ints in a walk
section J21
variable {p : Program} {l : Launch} {e : Env} {R : Room} {s : State} {m : MethodId} {args : Array Value} {below : List Frame} {meth : Method} {c : Code} {H : Heap} {locs : List Loc} {cells slots : Nat} {Q : State → Prop}
variable {cc : ByteArray} {pc : Nat} {ls : Array Slot} {rest : List Value} {dC : Nat → ClassId} {dI : Nat → Nat → Nat} {ca : Nat → ClassId} {B : jF} {base : Nat} {G0 G : jT} {E : List (Nat × Nat)} {H0 : Heap} {zc zs : Nat} {L : List jPin} {M : List jCt} {I : List jIv} {a a0 k k0 n n0 index : Nat} {tys : List (ClassId × FieldType)} {own : String} {P P0 : Nat → Int32 → Prop} {cA : ClassId}
end J21
/-- an answer that is new -/
def jNwv (v : Value) (H0 : Heap) : Prop := ∃ x : Nat, v = .ref x ∧ H0.size ≤ x
theorem jNwv.le {x : Nat} {H0 : Heap} (h : jNwv (.ref x) H0) : H0.size ≤ x := by
  obtain ⟨y, e, h1⟩ := h
  cases e
  exact h1
end
section
-- an array of arrays gets its kind
theorem jAq.of {dC : Nat → ClassId} {dI : Nat → Nat → Nat} {B : jF} {k n a : Nat} {cA : ClassId} {P : jT → Option Nat → Prop} {G : jT} {H : Heap} {f : Nat → Option Nat} (hBk : ∀ n G a H, B k n G a H ↔ jAq (dC, dI) cA P n G a H) (h : va_at (dC, dI) vwCl (a, .inl (cA, n, .inr (.inr (.inr (.inr f))))) H) (hP : ∀ j, j < n → P G (f j)) : B k n G a H := (hBk _ _ _ _).mpr ⟨f, h, hP⟩
/-- the first elements are formulas -/
def jFq (G : jT) (f : Nat → Option Nat) (i : Int) : Prop := ∀ j : Nat, (j : Int) < i → jQk 280 80 G (f j)
theorem jFq.put {G : jT} {f : Nat → Option Nat} {i i1 x : Int} {v m : Nat} (h : jFq G f i) (hx : x = i) (hi : i1 = i + 1) (h0 : 0 ≤ i) (hv : G v = some (280, m)) (hm : m ≤ 80) : jFq G (va_up f x.toNat (some v)) i1 := fun j hj => by
  by_cases e : j = x.toNat
  · subst e
    simp only [va_up, if_pos]
    exact ⟨v, m, rfl, hv, hm⟩
  · rw [va_up_ne _ _ e]
    exact h j (by omega)
theorem jQk.up {k most : Nat} {G G1 : jT} {o : Option Nat} (h : jQk k most G o) (hle : jLe G G1) : jQk k most G1 o := by
  obtain ⟨x, j, h1, h2, h3⟩ := h
  exact ⟨x, j, h1, hle _ _ h2, h3⟩
theorem jFq.all {G G1 : jT} {f : Nat → Option Nat} {i : Int} {n : Nat} (h : jFq G f i) (hi : (n : Int) = i) (hle : jLe G G1) : ∀ j, j < n → jQk 280 80 G1 (f j) := fun j hj => (h j (by omega)).up hle
end
section
theorem jK5.moved {dC : Nat → ClassId} {dI : Nat → Nat → Nat} {ca : Nat → ClassId} {u U : State} (hvm : u.vm.Alike U.vm) (h : jK5 dC dI ca u) : jK5 dC dI ca U := by
  obtain ⟨h1, ⟨kA, a1, a2⟩, ⟨k1, b1⟩, h4⟩ := h
  obtain ⟨kA', c1, c2⟩ := hvm.2.2 _ _ a1
  obtain ⟨k1', d1, -⟩ := hvm.2.2 _ _ b1
  refine ⟨va_K.moved hvm h1, ⟨kA', c1, by rw [c2]; exact a2⟩, ⟨k1', d1⟩, ?_⟩
  obtain ⟨comp, cl, k, e1, e2, e3, e4, e5⟩ := arrayOverA_spec h4
  obtain ⟨k', hk', he⟩ := hvm.2.2 _ _ e3
  have f0 : (U.vm.classes.findIdx? fun (x : Class) => match x.kind with | .array component _ => component == comp | _ => false) = some cl := by
    rw [hvm.findIdx?_eq _ (fun _ => rfl)]; exact e2
  have f1 : U.vm.findClass (FieldType.array .int).toString = some comp := by rw [hvm.findClass]; exact e1
  have f2 : U.vm.findClass ("[" ++ (FieldType.array .int).toString) = some cl := by rw [hvm.findClass]; exact e5
  have f3 : k'.kind = .array comp (.array .int) := by rw [he]; exact e4
  unfold Cond.before Cond.holds
  simp only [Cond.value]
  rw [f1, Option.bind_some]
  refine (congrArg (fun o : Option Nat => (o.bind (fun c => (U.vm.classes[c]?).map fun (k : Class) => match k.kind with | .array _ ty => decide (ty = FieldType.array .int) && decide (U.vm.findClass ("[" ++ (FieldType.array .int).toString) = some c) | _ => false) == some true)) f0).trans ?_
  simp [hk', f3, f2]
end
section
-- what the kernel's walks need: raw arrays of ints, arrays whose last element is null, states, new goals
def jK6 (U : State) : Prop := va_AO "ProofServerModel$Document" U ∧ va_AO "ProofServer$Document" U ∧ va_AO "ProofServer$State" U ∧ va_AO "ProofServer$Goal" U
theorem jK6.moved {u U : State} (hvm : u.vm.Alike U.vm) (h : jK6 u) : jK6 U := ⟨va_AO.moved hvm h.1, va_AO.moved hvm h.2.1, va_AO.moved hvm h.2.2.1, va_AO.moved hvm h.2.2.2⟩
def jAqZ (D : va_G) (cA : ClassId) (n a : Nat) (H : Heap) : Prop := ∃ f : Nat → Option Nat, va_at D vwCl (a, .inl (cA, n, .inr (.inr (.inr (.inr f))))) H ∧ (0 < n → f (n - 1) = none)
section J30
variable {p : Program} {l : Launch} {e : Env} {R : Room} {s : State} {m : MethodId} {args : Array Value} {below : List Frame} {meth : Method} {c : Code} {H : Heap} {locs : List Loc} {cells slots : Nat} {Q : State → Prop}
variable {cc : ByteArray} {pc : Nat} {ls : Array Slot} {rest : List Value} {dC : Nat → ClassId} {dI : Nat → Nat → Nat} {ca : Nat → ClassId} {B : jF} {base : Nat} {G0 G : jT} {E : List (Nat × Nat)} {H0 : Heap} {zc zs : Nat} {L : List jPin} {M : List jCt} {I : List jIv} {a a0 k k0 n n0 index : Nat} {tys : List (ClassId × FieldType)} {own C : String} {cA : ClassId}
theorem jAr.of {P : Nat → Int32 → Prop} {f : Nat → Int32} (hBk : ∀ n G a H, B k n G a H ↔ jAr (dC, dI) cA P n a H) (h : va_at (dC, dI) vwCl (a, .inl (cA, n, .inl f)) H) (hP : ∀ j, j < n → P j (f j)) : B k n G a H := (hBk _ _ _ _).mpr ⟨f, h, hP⟩
theorem jAqZ.of {f : Nat → Option Nat} (hBk : ∀ n G a H, B k n G a H ↔ jAqZ (dC, dI) cA n a H) (h : va_at (dC, dI) vwCl (a, .inl (cA, n, .inr (.inr (.inr (.inr f))))) H) (hP : 0 < n → f (n - 1) = none) : B k n G a H := (hBk _ _ _ _).mpr ⟨f, h, hP⟩
end J30
def jFp (f : Nat → Int32) : Prop := ∀ j, -1 ≤ (f j).toInt
theorem jFp.put {f : Nat → Int32} {i : Nat} {v : Int32} (h : jFp f) (hv : -1 ≤ v.toInt) : jFp (upd f i v) := fun j => by
  unfold upd
  split
  · exact hv
  · exact h j
/-- the terms that are told lie in the source -/
def jTt (f g : Nat → Int32) (n : Nat) : Prop := ∀ l : Int, 0 ≤ l → l < 13 → 0 < jSo g l → jSo f l + jSo g l ≤ n
def jTbk (f g : Nat → Int32) (n : Nat) (b : Int) : Prop := ∀ l : Int, 0 ≤ l → l < b → jSo f l + jSo g l ≤ n
def jTa (g : Nat → Int32) (b : Int) : Prop := ∀ l : Int, 0 ≤ l → l < b → 0 < jSo g l
theorem jTt.tb {f g : Nat → Int32} {n : Nat} {b : Int} (h : jTt f g n) (hb : b ≤ 13) (ha : jTa g b) : jTbk f g n b := fun l h0 h1 => h l h0 (by omega) (ha l h0 h1)
theorem jTt.put {f g f1 g1 : Nat → Int32} {n : Nat} {x u w : Int} (h : jTt f g n) (hx : 0 ≤ x) (hx2 : x < 13) (hv : jSo f1 x = u) (ho : ∀ j, j < 13 → j ≠ x.toNat → f1 j = f j) (hv2 : jSo g1 x = w) (ho2 : ∀ j, j < 13 → j ≠ x.toNat → g1 j = g j) (hs : u + w ≤ n) : jTt f1 g1 n := fun l h0 h1 h2 => by
  by_cases e : l = x
  · subst e; rw [hv, hv2]; exact hs
  · have e1 : jSo f1 l = jSo f l := by unfold jSo; rw [ho l.toNat (by omega) (by omega)]
    have e2 : jSo g1 l = jSo g l := by unfold jSo; rw [ho2 l.toNat (by omega) (by omega)]
    rw [e2] at h2
    rw [e1, e2]
    exact h l h0 h1 h2
theorem jTa.cg {g : Nat → Int32} {b b1 : Int} (h : jTa g b) (hb : b1 ≤ b) : jTa g b1 := fun l h0 h1 => h l h0 (by omega)
def jZe (g : Nat → Int32) (n : Int) : Prop := ∀ l : Int, 0 ≤ l → l < n → jSo g l = 0
theorem jZe.step {g g1 : Nat → Int32} {i i1 : Int} {n : Nat} (h : jZe g i) (hi : i1 = i + 1) (h0 : 0 ≤ i) (hn : i < n) (hv : jSo g1 i = 0) (ho : ∀ j, j < n → j ≠ i.toNat → g1 j = g j) : jZe g1 i1 := fun l a b => by
  by_cases e : l = i
  · subst e; exact hv
  · have e1 : jSo g1 l = jSo g l := by unfold jSo; rw [ho l.toNat (by omega) (by omega)]
    rw [e1]; exact h l a (by omega)
/-- what matches tells, for the number of bound names of a rule -/
def jTf (ff : Nat → Int32) (n1 : Nat) (f g : Nat → Int32) (n : Nat) : Prop := ∀ b : Int, 0 ≤ b → b ≤ 12 → b ≤ n1 → jLd ff n1 b → jTbk f g n b
theorem jTf.of {ff : Nat → Int32} {n1 : Nat} {f g : Nat → Int32} {n : Nat} {b : Int} (h : jTt f g n) (ha : jTa g b) (hb0 : 0 ≤ b) (hb : b ≤ 12) (hb1 : b ≤ n1) (hl : jLd ff n1 b) : jTf ff n1 f g n := fun b' q0 q1 q2 q3 => by
  rw [jLd.uniq q3 hl q0 q2 q1 hb0 hb1 hb]
  exact h.tb (by omega) ha
theorem jTa.step {g : Nat → Int32} {b b1 : Int} (h : jTa g b) (hb : b1 = b + 1) (hv : 0 < jSo g b) : jTa g b1 := fun l h0 h1 => by
  by_cases e : l = b
  · subst e; exact hv
  · exact h l h0 (by omega)
def jNn0 (g : Nat → Int32) (n : Nat) : Prop := ∀ l : Int, 0 ≤ l → l < n → 0 ≤ jSo g l
def jNn1 (g : Nat → Int32) (n : Nat) : Prop := ∀ l : Int, 0 ≤ l → l < n → -1 ≤ jSo g l
def jW (f g : Nat → Int32) (b i : Int) : Int := if jSo f i % 16 = 10 ∧ jSo f i / 32768 < b then jSo g (jSo f i / 32768) else 1
def jPs (f g : Nat → Int32) (b i0 : Int) : Nat → Int
  | 0 => 0
  | k + 1 => jPs f g b i0 k + jW f g b (i0 + k)
def jPqk (f g : Nat → Int32) (b i0 i s : Int) : Prop := i0 ≤ i ∧ s = jPs f g b i0 (i - i0).toNat
theorem jPqk.step {f g : Nat → Int32} {b i0 i s i1 s1 : Int} (h : jPqk f g b i0 i s) (hi : i1 = i + 1) (hs : s1 = s + jW f g b i) : jPqk f g b i0 i1 s1 := by
  obtain ⟨h0, h2⟩ := h
  refine ⟨by omega, ?_⟩
  have e : (i1 - i0).toNat = (i - i0).toNat + 1 := by omega
  rw [e, hs, h2]
  show _ = jPs f g b i0 _ + jW f g b (i0 + ((i - i0).toNat : Nat))
  rw [show i0 + ((i - i0).toNat : Int) = i by omega]
theorem jW.nn {f g : Nat → Int32} {b i : Int} (hf : -1 ≤ jSo f i) (hg : jNn0 g 13) (hb : b ≤ 13) : 0 ≤ jW f g b i := by
  unfold jW
  split
  · rename_i h
    exact hg _ (by omega) (by omega)
  · omega
theorem jPs.mono {f g : Nat → Int32} {b i0 e : Int} (hn : ∀ j, i0 ≤ j → j < e → 0 ≤ jW f g b j) (k : Nat) : ∀ m : Nat, k ≤ m → i0 + m ≤ e → jPs f g b i0 k ≤ jPs f g b i0 m
  | 0, h, _ => by rw [show k = 0 by omega]; exact Int.le_refl _
  | m + 1, h, h2 => by
    by_cases q : k = m + 1
    · rw [q]; exact Int.le_refl _
    · have h3 := jPs.mono hn k m (by omega) (by omega)
      have h4 := hn (i0 + m) (by omega) (by omega)
      show _ ≤ jPs f g b i0 m + jW f g b (i0 + m)
      omega
theorem jNn0.of {g : Nat → Int32} {n : Nat} (h : ∀ i, i < n → 0 ≤ (g i).toInt ∧ (g i).toInt ≤ 3000) : jNn0 g n := fun l h0 h1 => (h l.toNat (by omega)).1
theorem jNn1.of {g : Nat → Int32} {n : Nat} (h : ∀ i, i < n → -1 ≤ (g i).toInt) : jNn1 g n := fun l h0 h1 => h l.toNat (by omega)
-- all states have as many facts as names of facts
def jFrc (f : Nat → Option Nat) (c : Int) : Prop := ∀ i : Nat, i < 6 → (i : Int) < c → f i ≠ none
theorem jFrc.put {f f1 : Nat → Option Nat} {c c1 x : Int} {v : Nat} (h : jFrc f c) (hc : c1 = c + 1) (hx : x = c) (h0 : 0 ≤ c) (hv : f1 x.toNat = some v) (ho : ∀ j, j < 6 → j ≠ x.toNat → f1 j = f j) : jFrc f1 c1 := fun i h6 hi => by
  by_cases e : i = x.toNat
  · subst e; rw [hv]; exact fun q => by cases q
  · rw [ho i h6 e]; exact h i h6 (by omega)
def jGq (G : jT) (f : Nat → Option Nat) (i : Int) : Prop := ∀ j : Nat, (j : Int) < i → jQg G (f j)
theorem jGq.put {G : jT} {f : Nat → Option Nat} {i i1 x : Int} {v m : Nat} (h : jGq G f i) (hi : i1 = i + 1) (hx : x = i) (h0 : 0 ≤ i) (hg : G v = some (5, m)) (hm : m % 10 = 1) : jGq G (va_up f x.toNat (some v)) i1 := fun j hj => by
  subst hx
  by_cases e : j = x.toNat
  · subst e; exact ⟨v, m, by simp [va_up], hg, hm⟩
  · rw [va_up_ne _ _ e]; exact h j (by omega)
theorem jGq.all {G G1 : jT} {f : Nat → Option Nat} {i : Int} {n : Nat} (h : jGq G f i) (hn : (n : Int) ≤ i) (hle : jLe G G1) : ∀ j, j < n → jQg G1 (f j) := fun j hj => by
  obtain ⟨x, m, q1, q2, q3⟩ := h j (by omega)
  exact ⟨x, m, q1, hle _ _ q2, q3⟩
end
section
-- all cells but these stay
def jKl (rs : List Nat) (H0 H : Heap) : Prop := ∀ q : Nat, q ∉ rs → H[q]? = H0[q]?
theorem jKl.rf {rs : List Nat} {H : Heap} : jKl rs H H := fun _ _ => rfl
theorem jKl.put {rs : List Nat} {H0 H H1 : Heap} {a : Nat} (h : jKl rs H0 H) (hr : ∀ q : Nat, q ≠ a → H1[q]? = H[q]?) (ha : a ∈ rs) : jKl rs H0 H1 := fun q hq => (hr q (fun e => hq (e ▸ ha))).trans (h q hq)
theorem jKl.tr {rs rs1 : List Nat} {H0 H H1 : Heap} (h : jKl rs H0 H) (h1 : jKl rs1 H H1) (hs : ∀ q, q ∈ rs1 → q ∈ rs) : jKl rs H0 H1 := fun q hq => (h1 q (fun e => hq (hs q e))).trans (h q hq)
theorem jKx.st {r : Nat} {G : jT} {H0 H H1 : Heap} {G0 : jT} {a : Nat} (h : jKx r G0 G H0 H) (ha : H0.size ≤ a) (hr : ∀ q, q ≠ a → H1[q]? = H[q]?) : jKx r G0 G H0 H1 := ⟨fun q hq hn => (hr q (by omega)).trans (h.1 q hq hn), h.2⟩
section J31
variable {p : Program} {l : Launch} {e : Env} {R : Room} {s : State} {m : MethodId} {args : Array Value} {below : List Frame} {meth : Method} {c : Code} {H : Heap} {locs : List Loc} {cells slots : Nat} {Q : State → Prop}
variable {cc : ByteArray} {pc : Nat} {ls : Array Slot} {rest : List Value} {dC : Nat → ClassId} {dI : Nat → Nat → Nat} {ca : Nat → ClassId} {B : jF} {base : Nat} {G0 G : jT} {E : List (Nat × Nat)} {H0 : Heap} {zc zs : Nat} {L : List jPin} {M : List jCt} {I : List jIv} {a k n : Nat} {tys : List (ClassId × FieldType)} {cA : ClassId}
end J31
end
section
def F12b (n : Nat) (G : jT) : List (Value → Prop) := [jRf G 8 0, jRf G 101 1500, jRf G 293 1500, jI 0 1500, jI 0 1503, jIa, jRf G 292 3, jI 0 3, jIa, jRf G 280 3000, jI 0 3000]
def F7 (n : Nat) (G : jT) : List (Value → Prop) := [jRf G 8 0, jRf G 12 0, jRf G 11 0, jRf G 101 13, jRf G 101 13, jRk G 280 3000, jRf G 290 13, jRf G 291 13, jRf G 280 1, jRf G 211 6, jI 0 1000000]
end
section
def jQh (G : jT) : Option Nat → Prop := fun o => o = none ∨ ∃ x n, o = some x ∧ G x = some (5, n) ∧ (n % 10 ≠ 4 ∨ 10 ≤ n)
end
section
-- the places where a term stands, counted as the scan goes
def jSaB (f : Nat → Int32) (n : Nat) (g : Nat → Int32) (m : Nat) (a b w : Int) : Bool := decide (0 ≤ a) && (decide (0 ≤ b) && (decide (a + w ≤ n) && (decide (b + w ≤ m) && (List.range w.toNat).all (fun j => decide (jSo f (a + (j : Int)) = jSo g (b + (j : Int)))))))
theorem jSaB.in {f g : Nat → Int32} {n m : Nat} {a b w : Int} (h : jSaB f n g m a b w = true) : 0 ≤ a ∧ a + w ≤ n := by
  unfold jSaB at h
  rw [Bool.and_eq_true, Bool.and_eq_true, Bool.and_eq_true] at h
  exact ⟨of_decide_eq_true h.1, of_decide_eq_true h.2.2.1⟩
def jSq (f g : Nat → Int32) (a b i : Int) : Prop := ∀ j : Int, 0 ≤ j → j < i → jSo f (a + j) = jSo g (b + j)
theorem jSq.step {f g : Nat → Int32} {a b i i1 : Int} (h : jSq f g a b i) (hi : i1 = i + 1) (he : jSo f (a + i) = jSo g (b + i)) : jSq f g a b i1 := fun j h0 h1 => by
  by_cases e : j = i
  · subst e; exact he
  · exact h j h0 (by omega)
def jTc (S : Int → Bool) (w n : Int) : Nat → Int → Int
  | 0, _ => 0
  | k + 1, i => if n ≤ i then 0 else if S i = true then 1 + jTc S w n k (i + w) else jTc S w n k (i + 1)
def jTn (S : Int → Bool) (w n i : Int) : Int := jTc S w n (n - i).toNat i
theorem jTn.end {S : Int → Bool} {w n i : Int} (h : n ≤ i) : jTn S w n i = 0 := by
  unfold jTn
  rw [show (n - i).toNat = 0 by omega]
  rfl
abbrev jSp (f : Nat → Int32) (n : Nat) (g : Nat → Int32) (m : Nat) (w : Int) : Int → Bool := fun x => jSaB f n g m x 1 w
/-- the first pass: i is reached, c were found -/
def jR1 (f : Nat → Int32) (n : Nat) (g : Nat → Int32) (m : Nat) (w i c : Int) : Prop := 0 ≤ c ∧ c ≤ i ∧ i ≤ n ∧ c + jTn (jSp f n g m w) w n i = jTn (jSp f n g m w) w n 0
/-- how long what comes will be -/
def jRz (f : Nat → Int32) (n : Nat) (g : Nat → Int32) (m : Nat) (w b z : Int) : Prop := z = n + jTn (jSp f n g m w) w n 0 * (b - w)
theorem jR1.size {f g : Nat → Int32} {n m : Nat} {w i c b y d : Int} (h : jR1 f n g m w i c) (hi : n ≤ i) (hy : y = n) (hd : d = b - w) : jRz f n g m w b (y + c * d) := by
  obtain ⟨h1, h2, h3, h4⟩ := h
  rw [jTn.end hi, Int.add_zero] at h4
  unfold jRz
  rw [hy, h4, hd]
end
section
-- what stands below a place stays
def jKb (f g : Nat → Int32) (n : Int) : Prop := ∀ j : Int, 0 ≤ j → j < n → jSo g j = jSo f j
theorem jKb.rf {f : Nat → Int32} {n : Int} : jKb f f n := fun _ _ _ => rfl
theorem jKb.tr {f g h : Nat → Int32} {n m : Int} (h1 : jKb f g n) (h2 : jKb g h m) (hm : n ≤ m) : jKb f h n := fun j a b => (h2 j a (by omega)).trans (h1 j a b)
theorem jKb.put {f g : Nat → Int32} {n i : Int} {N : Nat} (hi : n ≤ i) (h0 : 0 ≤ n) (hN : i < N) (ho : ∀ j, j < N → j ≠ i.toNat → g j = f j) : jKb f g n := fun j a b => by
  unfold jSo
  rw [ho j.toNat (by omega) (by omega)]
theorem jKb.cg {f g h : Nat → Int32} {n : Int} (h1 : jKb f g n) (e : h = f) : jKb h g n := e ▸ h1
end
section
-- lists: arrays of Object, the interface's calls
def jLcs (C : String) (U : State) : Prop := va_Nw (.castable C "java/lang/Object") U ∧ va_Nw (.castable C C) U
def jFw (n d : String) (y : MethodName) (U : State) : Prop := va_Fw "java/util/ArrayList" ⟨"java/util/List", n, d⟩ y U
theorem jFw.moved {n d : String} {y : MethodName} {u U : State} (hvm : u.vm.Alike U.vm) (h : jFw n d y u) : jFw n d y U := va_Fw.moved ⟨show "java/util/List" ≠ "java/lang/invoke/MethodHandle" by decide, show "java/util/List" ≠ "java/lang/invoke/VarHandle" by decide⟩ hvm h
def jK7 (dC : Nat → ClassId) (dI : Nat → Nat → Nat) (ca : Nat → ClassId) (base : Nat) (U : State) : Prop :=
  va_K (dC, dI) vwCl [(ca 9, .object "java/lang/Object")] U ∧ va_AO "java/lang/Object" U ∧ (jLcs "ProofServer$Document" U ∧ jLcs "ProofServer$Request" U ∧ jLcs "ProofServer$State" U)
  ∧ va_Mi "[Ljava/lang/Object;" (dI 99 1) U ∧ va_Dc U ∧ (jFw "size" "()I" yJx4a65c_size_8abf5 U ∧ jFw "get" "(I)Ljava/lang/Object;" yJx4a65c_get_915e3 U ∧ jFw "add" "(Ljava/lang/Object;)Z" yJx4a65c_add_9ea2d U ∧ jFw "remove" "(I)Ljava/lang/Object;" yJx4a65c_remove_915e3 U)
  ∧ va_Z "java/util/ArrayList" "DEFAULTCAPACITY_EMPTY_ELEMENTDATA" "[Ljava/lang/Object;" (.ref (dI 99 0)) (jA base) U U.heap ∧ va_T (.object "java/lang/Object") (dI 99 0) 0 (fun _ => .null) (jA base) U U.heap
theorem jLcs.warm {C : String} {s U : State} (hW : s.WarmedH U.vm) (h : jLcs C s) : jLcs C U := ⟨va_Nw.warmC hW h.1, va_Nw.warmC hW h.2⟩
theorem jK7.step {dC : Nat → ClassId} {dI : Nat → Nat → Nat} {ca : Nat → ClassId} {base : Nat} {s U : State} {H : Heap} {locs : List Loc} (h : jK7 dC dI ca base s) (hW : s.WarmedH U.vm) (hU : U.heap = H) (hS : va_S (jA base) s.heap H locs) : jK7 dC dI ca base U := by
  obtain ⟨h1, h2, h3, h4, h5, h8, h6, h7⟩ := h
  have hq : ∀ a : Nat, a < s.heap.size → ¬ jA base a → U.heap[a]? = s.heap[a]? := fun a ha hn => by rw [hU]; exact hS.2.1 a ha hn
  exact ⟨va_K.moved hW.alike h1, va_AO.moved hW.alike h2, ⟨h3.1.warm hW, h3.2.1.warm hW, h3.2.2.warm hW⟩, h4.moved hW.alike, h5.moved hW.alike, ⟨h8.1.moved hW.alike, h8.2.1.moved hW.alike, h8.2.2.1.moved hW.alike, h8.2.2.2.moved hW.alike⟩, (h6.moved hW.alike).kept hq, (h7.moved hW.alike).kept hq⟩
section J32
variable {p : Program} {l : Launch} {e : Env} {R : Room} {s : State} {m : MethodId} {args : Array Value} {below : List Frame} {meth : Method} {c : Code} {H : Heap} {locs : List Loc} {cells slots : Nat} {Q : State → Prop}
variable {cc : ByteArray} {pc : Nat} {ls : Array Slot} {rest : List Value} {dC : Nat → ClassId} {dI : Nat → Nat → Nat} {ca : Nat → ClassId} {B : jF} {base : Nat} {G0 G : jT} {E : List (Nat × Nat)} {H0 : Heap} {zc zs : Nat} {L : List jPin} {M : List jCt} {I : List jIv} {a a0 k k0 n n0 index : Nat} {tys tys0 : List (ClassId × FieldType)} {own C CE : String} {cA : ClassId}
end J32
theorem jQn.up {k n : Nat} {G G1 : jT} {o : Option Nat} (h : jQn k n G o) (hle : jLe G G1) : jQn k n G1 o := by
  rcases h with h | ⟨x, h1, h2⟩
  · exact Or.inl h
  · exact Or.inr ⟨x, h1, hle _ _ h2⟩
end
section
-- what is known of all lists (o: the one that is open); k: as many there are
def jRr : Value → Prop := fun v => ∃ x : Nat, v = .ref x
def jLb (c : Nat) : Int := if c = 1 then 3 else if c = 2 then 12 else 24
/-- what is told of the lists: the first one's size and elements, the elements of the other two -/
abbrev jWl9 := Int × (Nat → Option Nat) × List Nat × List Nat
def jWl9.s1 (w : jWl9) (n : Int) (f : Nat → Option Nat) : jWl9 := ⟨n, f, w.2.2.1, w.2.2.2⟩
def jWls (c : Nat) (w : jWl9) : List Nat := if c = 2 then w.2.2.1 else w.2.2.2
def jWm (c : Nat) (w : jWl9) (z : Int) (f : Nat → Option Nat) : Prop := c ≠ 1 → ((jWls c w).length : Int) = z ∧ ∀ i : Nat, (i : Int) < z → f i = (jWls c w)[i]?
def jWk (c : Nat) (w : jWl9) (z : Int) (f : Nat → Option Nat) : Prop := c = 1 → w.1 = z ∧ ∀ i : Nat, (i : Int) < z → f i = w.2.1 i
def jLo (dC : Nat → ClassId) (dI : Nat → Nat → Nat) (ca : Nat → ClassId) (G : jT) (w : jWl9) (a c : Nat) (H : Heap) : Prop := ∃ (z : Int32) (x : Nat), jf (dC, dI) 1 a 2 (.int z) H ∧ jf (dC, dI) 1 a 1 (.ref x) H ∧ (0 ≤ z.toInt ∧ z.toInt ≤ jLb c) ∧ ((x = dI 99 0 ∧ z.toInt = 0 ∧ (c = 1 → w.1 = 0) ∧ (c ≠ 1 → jWls c w = [])) ∨ ∃ (m : Nat) (f : Nat → Option Nat), G x = some (220 + c, m) ∧ (10 ≤ m ∧ m ≤ 40) ∧ z.toInt ≤ m ∧ jQc dC dI (ca 9) x m f H ∧ (∀ i : Nat, (i : Int) < z.toInt → f i ≠ none) ∧ jWk c w z.toInt f ∧ jWm c w z.toInt f)
def jLs (dC : Nat → ClassId) (dI : Nat → Nat → Nat) (ca : Nat → ClassId) (G : jT) (k : Nat) (o : Option Nat) (w : jWl9) (H : Heap) : Prop := (∀ a b c, G a = some (1, c) → G b = some (1, c) → a = b) ∧ (∀ a c, G a = some (1, c) → 1 ≤ c ∧ c ≤ k ∧ c ≤ 3) ∧ ∀ a c, G a = some (1, c) → o ≠ some a → jLo dC dI ca G w a c H
section J33
variable {dC : Nat → ClassId} {dI : Nat → Nat → Nat} {ca : Nat → ClassId} {G G1 : jT} {H H1 : Heap} {a c k r x m n : Nat} {o : Option Nat} {ks : List Nat} {w wn : jWl9}
theorem jLo.up (h : jLo dC dI ca G w a c H) (hle : jLe G G1) : jLo dC dI ca G1 w a c H := by
  obtain ⟨z, x, h1, h2, h3, h4⟩ := h
  refine ⟨z, x, h1, h2, h3, ?_⟩
  rcases h4 with h4 | ⟨m, f, g1, g2⟩
  · exact Or.inl h4
  · exact Or.inr ⟨m, f, hle _ _ g1, g2⟩
theorem jLs.at (h : jLs dC dI ca G k none w H) (ha : G a = some (1, c)) : jLo dC dI ca G w a c H := h.2.2 a c ha (fun q => by cases q)
theorem jLs.less (h : jLs dC dI ca G k none w H) (r : Nat) : jLs dC dI ca G k (some r) w H := ⟨h.1, h.2.1, fun a c ha _ => h.2.2 a c ha (fun q => by cases q)⟩
end J33
theorem jAd.put {f g : Nat → Option Nat} {z nz x : Int} {n v : Nat} (h : ∀ k : Nat, (k : Int) < z → f k ≠ none) (hz : nz = z + 1) (h0 : 0 ≤ z) (hx : x = z) (hn : nz ≤ n) (hv : g x.toNat = some v) (ho : ∀ j, j < n → j ≠ x.toNat → g j = f j) : ∀ k : Nat, (k : Int) < nz → g k ≠ none := fun k hk => by
  by_cases e : k = x.toNat
  · subst e; rw [hv]; exact fun q => by cases q
  · rw [ho k (by omega) e]; exact h k (by omega)
def jUf {α : Type} (v : Nat → α) (a : Nat) (w : α) : Nat → α := fun b => if b = a then w else v b
theorem jUf_s {α : Type} (v : Nat → α) (a : Nat) (w : α) : jUf v a w a = w := if_pos rfl
theorem jUf_n {α : Type} (v : Nat → α) {a b : Nat} (w : α) (h : b ≠ a) : jUf v a w b = v b := if_neg h
def jRmv {α : Type} (f : Nat → α) (d : Nat) : Nat → α := fun i => if i < d then f i else f (i + 1)
theorem jWk.put {f g : Nat → Option Nat} {w : jWl9} {z nz x : Int} {n v : Nat} (h : jWk 1 w z f) (hz : nz = z + 1) (h0 : 0 ≤ z) (hx : x = z) (hn : nz ≤ n) (hv : g x.toNat = some v) (ho : ∀ j, j < n → j ≠ x.toNat → g j = f j) : jWk 1 (w.s1 (w.1 + 1) (jUf w.2.1 w.1.toNat (some v))) nz g := fun q => by
  obtain ⟨a, b⟩ := h q
  refine ⟨by show w.1 + 1 = nz; omega, fun j hj => ?_⟩
  show g j = jUf w.2.1 w.1.toNat (some v) j
  rw [show w.1.toNat = x.toNat by omega]
  by_cases e : j = x.toNat
  · subst e; rw [jUf_s]; exact hv
  · rw [jUf_n _ _ e, ho j (by omega) e]; exact b j (by omega)
theorem jWm.nil {c : Nat} {w : jWl9} {z : Int} {f : Nat → Option Nat} (h : c ≠ 1 → jWls c w = []) (hz : z = 0) : jWm c w z f := fun q => by
  rw [h q, hz]
  exact ⟨rfl, fun i hi => absurd hi (by omega)⟩
theorem jWm.cg {c : Nat} {w : jWl9} {z : Int} {f g : Nat → Option Nat} (h : jWm c w z f) (hg : ∀ i : Nat, (i : Int) < z → g i = f i) : jWm c w z g := fun q => ⟨(h q).1, fun i hi => (hg i hi).trans ((h q).2 i hi)⟩
theorem jWm.put {c : Nat} {f g : Nat → Option Nat} {w wn : jWl9} {z nz x : Int} {n v : Nat} (hl : jWls c wn = jWls c w ++ [v]) (h : jWm c w z f) (hz : nz = z + 1) (h0 : 0 ≤ z) (hx : x = z) (hn : nz ≤ n) (hv : g x.toNat = some v) (ho : ∀ j, j < n → j ≠ x.toNat → g j = f j) : jWm c wn nz g := fun q => by
  obtain ⟨a, b⟩ := h q
  rw [hl]
  refine ⟨by rw [List.length_append]; show ((_ + 1 : Nat) : Int) = nz; omega, fun j hj => ?_⟩
  by_cases e : j = x.toNat
  · rw [e, hv, List.getElem?_append_right (by omega), show x.toNat - (jWls c w).length = 0 by omega]; rfl
  · rw [List.getElem?_append_left (by omega), ho j (by omega) e]; exact b j (by omega)
end
section
def F1 (n : Nat) (G : jT) : List (Value → Prop) := [jIa, jRr, jI 0 40]
end
section
-- Bytes that stay small; new Bytes
def jJq (fk fi fz : Nat → Int32) (pv : Int) : Prop := ∀ i : Int, 0 ≤ i → i < pv → jSo fk i = 3 → 0 ≤ jSo fi i ∧ 0 ≤ jSo fz i ∧ jSo fi i + jSo fz i ≤ 3000
def jTen (v k : Int) : Prop := 0 ≤ k ∧ v = 10 ^ k.toNat / 10
theorem jTen.pos {v k : Int} (h : jTen v k) (hv : 0 < v) : 1 ≤ k := by
  obtain ⟨h0, e⟩ := h
  by_cases q : k = 0
  · subst q
    have e2 : (10 : Int) ^ (0 : Int).toNat / 10 = 0 := by decide
    omega
  · omega
theorem jTen.step {v k v1 k1 : Int} (h : jTen v k) (hv : v1 = v / 10) (hk : k1 = k - 1) (h1 : 1 ≤ k) : jTen v1 k1 := by
  obtain ⟨h0, e⟩ := h
  refine ⟨by omega, ?_⟩
  have e1 : k.toNat = k1.toNat + 1 := by omega
  rw [hv, e, e1, Int.pow_succ, Int.mul_ediv_cancel _ (by decide)]
end
section
-- what reading JSON leaves: the strings and keys of the values stand apart among the units, and take bytes
abbrev jC := (Nat → Int32) × (Nat → Int32) × (Nat → Int32) × (Nat → Int32) × (Nat → Int32)
def jln (C : jC) (e : Nat) : Int := if e % 2 = 0 then (if jSo C.1 ((e / 2 : Nat) : Int) = 3 then jSo C.2.2.1 ((e / 2 : Nat) : Int) else 0) else jSo C.2.2.2.2 ((e / 2 : Nat) : Int)
def jlo (C : jC) (e : Nat) : Int := if e % 2 = 0 then (if jSo C.1 ((e / 2 : Nat) : Int) = 3 then jSo C.2.1 ((e / 2 : Nat) : Int) else 0) else jSo C.2.2.2.1 ((e / 2 : Nat) : Int)
def jE5 (C D : jC) (i : Int) : Prop := jSo D.1 i = jSo C.1 i ∧ jSo D.2.1 i = jSo C.2.1 i ∧ jSo D.2.2.1 i = jSo C.2.2.1 i ∧ jSo D.2.2.2.1 i = jSo C.2.2.2.1 i ∧ jSo D.2.2.2.2 i = jSo C.2.2.2.2 i
theorem jE5.ln {C D : jC} {e : Nat} (h : jE5 C D ((e / 2 : Nat) : Int)) : jln D e = jln C e := by
  obtain ⟨h1, h2, h3, h4, h5⟩ := h
  unfold jln
  rw [h1, h3, h5]
theorem jE5.lo {C D : jC} {e : Nat} (h : jE5 C D ((e / 2 : Nat) : Int)) : jlo D e = jlo C e := by
  obtain ⟨h1, h2, h3, h4, h5⟩ := h
  unfold jlo
  rw [h1, h2, h4]
def jDjn (D : jC) (e e' : Nat) : Prop := jln D e = 0 ∨ jln D e' = 0 ∨ jlo D e + jln D e ≤ jlo D e' ∨ jlo D e' + jln D e' ≤ jlo D e
def jJr (C : jC) (pv pu : Int) (D : jC) (qv qu : Int) : Prop := (0 ≤ pv ∧ pv ≤ qv ∧ 0 ≤ pu ∧ pu ≤ qu) ∧ (∀ i : Int, 0 ≤ i → i < pv → jE5 C D i) ∧
  (∀ e : Nat, 2 * pv ≤ e → (e : Int) < 2 * qv → (0 ≤ jln D e ∧ 0 ≤ jlo D e ∧ jlo D e + jln D e ≤ qu) ∧ (jln D e = 0 ∨ pu ≤ jlo D e)) ∧
  (∀ e e' : Nat, 2 * pv ≤ e → (e : Int) < 2 * qv → 2 * pv ≤ e' → (e' : Int) < 2 * qv → e ≠ e' → jDjn D e e')
theorem jJr.rf {C : jC} {pv pu : Int} (h0 : 0 ≤ pv) (h1 : 0 ≤ pu) : jJr C pv pu C pv pu := ⟨⟨h0, by omega, h1, by omega⟩, fun _ _ _ => ⟨rfl, rfl, rfl, rfl, rfl⟩, fun e h1 h2 => by omega, fun e _ h1 h2 => by omega⟩
theorem jJr.up {C D : jC} {pv pu qv qu qu' : Int} (h : jJr C pv pu D qv qu) (hq : qu ≤ qu') : jJr C pv pu D qv qu' := by
  obtain ⟨h1, h2, h3, h4⟩ := h
  refine ⟨by omega, h2, fun e a b => ?_, h4⟩
  have := h3 e a b
  omega
theorem jJr.tr {C D E : jC} {pv pu qv qu rv ru : Int} (h : jJr C pv pu D qv qu) (g : jJr D qv qu E rv ru) : jJr C pv pu E rv ru := by
  obtain ⟨h1, h2, h3, h4⟩ := h
  obtain ⟨g1, g2, g3, g4⟩ := g
  have key : ∀ e : Nat, (e : Int) < 2 * qv → jE5 D E ((e / 2 : Nat) : Int) := fun e he => g2 _ (by omega) (by omega)
  refine ⟨by omega, fun i a b => ?_, fun e a b => ?_, fun e e' a b c d ne => ?_⟩
  · obtain ⟨x1, x2, x3, x4, x5⟩ := h2 i a b
    obtain ⟨y1, y2, y3, y4, y5⟩ := g2 i a (by omega)
    exact ⟨y1.trans x1, y2.trans x2, y3.trans x3, y4.trans x4, y5.trans x5⟩
  · by_cases q : (e : Int) < 2 * qv
    · have := h3 e a q
      rw [(key e q).ln, (key e q).lo]
      omega
    · have := g3 e (by omega) b
      omega
  · by_cases q : (e : Int) < 2 * qv
    · by_cases q' : (e' : Int) < 2 * qv
      · have := h4 e e' a q c q' ne
        unfold jDjn at this ⊢
        rw [(key e q).ln, (key e q).lo, (key e' q').ln, (key e' q').lo]
        exact this
      · have x := h3 e a q
        have y := g3 e' (by omega) d
        unfold jDjn
        rw [(key e q).ln, (key e q).lo]
        omega
    · by_cases q' : (e' : Int) < 2 * qv
      · have x := h3 e' c q'
        have y := g3 e (by omega) b
        unfold jDjn
        rw [(key e' q').ln, (key e' q').lo]
        omega
      · exact g4 e e' (by omega) b (by omega) d ne
/-- the bytes that values take beside their units -/
def jSb (f : Nat → Int32) : Nat → Int
  | 0 => 0
  | n + 1 => jSb f n + (if 1 ≤ (f n).toInt then 5 else 2)
theorem jSb.cg {f g : Nat → Int32} : ∀ (n : Nat), (∀ i, i < n → g i = f i ∨ (g i).toInt = (f i).toInt) → jSb g n = jSb f n
  | 0, _ => rfl
  | n + 1, h => by
    have h1 := jSb.cg n (fun i hi => h i (by omega))
    have h2 : (g n).toInt = (f n).toInt := by
      rcases h n (by omega) with e | e
      · rw [e]
      · exact e
    show jSb g n + _ = jSb f n + _
    rw [h1, h2]
theorem jSb.lo (f : Nat → Int32) : ∀ n : Nat, 2 * (n : Int) ≤ jSb f n
  | 0 => by show (2 : Int) * 0 ≤ 0; omega
  | n + 1 => by
    have h1 := jSb.lo f n
    show 2 * ((n + 1 : Nat) : Int) ≤ jSb f n + _
    split <;> omega
theorem jSb.put {f g : Nat → Int32} (r N : Nat) (ho : ∀ i, i < N → i ≠ r → g i = f i) (h0 : (f r).toInt = 0) : ∀ n : Nat, n ≤ N → jSb g n ≤ jSb f n + (if 1 ≤ (g r).toInt ∧ r < n then 3 else 0)
  | 0, _ => by show (0 : Int) ≤ 0 + _; split <;> omega
  | n + 1, hn => by
    have h1 := jSb.put r N ho h0 n (by omega)
    show jSb g n + _ ≤ jSb f n + _ + _
    by_cases e : n = r
    · subst e
      rw [h0, if_neg (by omega : ¬ (1 : Int) ≤ 0)]
      rw [if_neg (by omega : ¬ (1 ≤ (g n).toInt ∧ n < n))] at h1
      by_cases q : 1 ≤ (g n).toInt
      · rw [if_pos q, if_pos ⟨q, by omega⟩]; omega
      · rw [if_neg q, if_neg (fun x => q x.1)]; omega
    · rw [ho n (by omega) e]
      by_cases q : 1 ≤ (g r).toInt ∧ r < n
      · rw [if_pos q] at h1
        rw [if_pos (⟨q.1, by omega⟩ : 1 ≤ (g r).toInt ∧ r < n + 1)]
        omega
      · rw [if_neg q] at h1
        rw [if_neg (fun x => q ⟨x.1, by omega⟩ : ¬ (1 ≤ (g r).toInt ∧ r < n + 1))]
        omega
/-- what a store leaves -/
theorem jst {f g : Nat → Int32} {x : Int} {N : Nat} (ho : ∀ j, j < N → j ≠ x.toNat → g j = f j) (i : Int) (h0 : 0 ≤ i) (hN : i < N) (hx : 0 ≤ x) (hne : i ≠ x) : jSo g i = jSo f i := by
  unfold jSo
  rw [ho i.toNat (by omega) (by omega)]
/-- a value is read: r is its number -/
def jVr (C : jC) (pv pu pt : Int) (D : jC) (qv qu qt r : Int) : Prop := jJr C pv pu D qv qu ∧ (r < 0 ∨ (pv ≤ r ∧ r < qv ∧ jSo D.2.2.2.2 r = 0 ∧ qu - pu + (jSb D.2.2.2.2 qv.toNat - jSb C.2.2.2.2 pv.toNat) ≤ qt - pt + 1))
theorem jVr.no {C : jC} {pv pu pt qu qt r : Int} (h0 : 0 ≤ pv) (h1 : 0 ≤ pu) (hu : pu ≤ qu) (hr : r < 0) : jVr C pv pu pt C pv qu qt r := ⟨(jJr.rf h0 h1).up hu, Or.inl hr⟩
theorem jSb.suc {f : Nat → Int32} {n m : Int} (h0 : 0 ≤ n) (hm : m = n + 1) (h : jSo f n = 0) : jSb f m.toNat = jSb f n.toNat + 2 := by
  have e : m.toNat = n.toNat + 1 := by omega
  rw [e]
  show jSb f n.toNat + _ = _
  unfold jSo at h
  rw [h, if_neg (by omega : ¬ (1 : Int) ≤ 0)]
/-- what is known of an object or a list while it is read: x bytes are told ahead -/
def jHv (C : jC) (pv pu pt : Int) (D : jC) (wv wu wt l x : Int) : Prop := l < 0 ∨ (l = pv ∧ pv < wv ∧ jSo D.1 pv ≠ 3 ∧ jSo D.2.2.2.2 pv = 0 ∧ wu - pu + x + (jSb D.2.2.2.2 wv.toNat - jSb C.2.2.2.2 pv.toNat) ≤ wt - pt + 1)
theorem jHv.end {C F : jC} {pv pu pt qv qu t l : Int} (h : jJr C pv pu F qv qu ∧ jHv C pv pu pt F qv qu t l 0) : jVr C pv pu pt F qv qu t l := by
  obtain ⟨h1, h2⟩ := h
  refine ⟨h1, ?_⟩
  rcases h2 with h2 | ⟨b1, b2, b3, b4, b5⟩
  · exact Or.inl h2
  · exact Or.inr ⟨by omega, by omega, by rw [b1]; exact b4, by omega⟩
theorem jVr.cg {C : jC} {C' : jC} {pv pu pt : Int} {D : jC} {qv qu qt r : Int} (e : C' = C) (h : jVr C' pv pu pt D qv qu qt r) : jVr C pv pu pt D qv qu qt r := e ▸ h
theorem jVr.root {C D : jC} {a b pt qv qu qt r e : Int} (h : jVr C a b pt D qv qu qt r) (ha : a = 0) (hb : b = 0) (hr : r = 0) (hp : 0 ≤ pt) (he : qt ≤ e) : 1 ≤ qv ∧ qu + jSb D.2.2.2.2 qv.toNat ≤ e + 1 := by
  subst ha hb
  rcases h.2 with h | ⟨h1, h2, h3, h4⟩
  · omega
  · have e : jSb C.2.2.2.2 (0 : Int).toNat = 0 := rfl
    omega
/-- a string of the values -/
theorem jJr.p {C D : jC} {qv qu : Int} (h : jJr C 0 0 D qv qu) (hq : qu ≤ 3000) : jJq D.1 D.2.1 D.2.2.1 qv := fun i h0 h1 h3 => by
  have := h.2.2.1 (2 * i.toNat) (by omega) (by omega)
  have e : (((2 * i.toNat) / 2 : Nat) : Int) = i := by omega
  have n1 : jln D (2 * i.toNat) = jSo D.2.2.1 i := by
    unfold jln
    rw [if_pos (by omega), e, if_pos h3]
  have n2 : jlo D (2 * i.toNat) = jSo D.2.1 i := by
    unfold jlo
    rw [if_pos (by omega), e, if_pos h3]
  omega
theorem jJr.k {C D : jC} {qv qu : Int} (h : jJr C 0 0 D qv qu) (hq : qu ≤ 3000) {i : Int} (h0 : 0 ≤ i) (h1 : i < qv) : 0 ≤ jSo D.2.2.2.1 i ∧ 0 ≤ jSo D.2.2.2.2 i ∧ jSo D.2.2.2.1 i + jSo D.2.2.2.2 i ≤ 3000 := by
  have := h.2.2.1 (2 * i.toNat + 1) (by omega) (by omega)
  have e : (((2 * i.toNat + 1) / 2 : Nat) : Int) = i := by omega
  have n1 : jln D (2 * i.toNat + 1) = jSo D.2.2.2.2 i := by
    unfold jln
    rw [if_neg (by omega), e]
  have n2 : jlo D (2 * i.toNat + 1) = jSo D.2.2.2.1 i := by
    unfold jlo
    rw [if_neg (by omega), e]
  omega
/-- a message that was understood: its bytes, and what it tells first -/
def jUd (D : jC) (qv qu n : Int) : Prop := qu + jSb D.2.2.2.2 qv.toNat ≤ n + 1 ∧ ∃ j : Int, 0 ≤ j ∧ j < qv ∧ jSo D.2.2.2.2 j = 7 ∧ jSo D.1 j = 3 ∧ jSo D.2.2.1 j = 3
theorem jUd.of {gk gi gz ga gs : Nat → Int32} {qv qu n j : Int} (h : qu + jSb gs qv.toNat ≤ n + 1) (h0 : 0 ≤ j) (h1 : j < qv) (h2 : jSo gs j = 7) (h3 : jSo gk j = 3) (h4 : jSo gz j = 3) : jUd (gk, gi, gz, ga, gs) qv qu n := ⟨h, j, h0, h1, h2, h3, h4⟩
end
section
-- the sentences of a document of the class: in order, none empty
def jSn (b e : Nat → Int32) (s u : Int) : Prop := ∀ k : Int, 0 ≤ k → k < s → 0 ≤ jSo b k ∧ jSo b k < jSo e k ∧ jSo e k ≤ u ∧ (k + 1 < s → jSo e k ≤ jSo b (k + 1))
theorem jSn.put {b e b1 e1 : Nat → Int32} {s u x y n1 : Int} (h : jSn b e s u) (hl : s = 0 ∨ jSo e (s - 1) ≤ x) (hb : jSo b1 s = x) (hbo : ∀ j, j < 40 → j ≠ s.toNat → b1 j = b j) (he : jSo e1 s = y) (heo : ∀ j, j < 40 → j ≠ s.toNat → e1 j = e j) (h0 : 0 ≤ s) (h4 : s < 40) (hx : 0 ≤ x) (hxy : x < y) (hy : y ≤ u) (hn : n1 = s + 1) : jSn b1 e1 n1 u := by
  subst hn
  intro k k0 k1
  by_cases q : k = s
  · subst q
    rw [hb, he]
    exact ⟨hx, hxy, hy, fun z => by omega⟩
  · have g := h k k0 (by omega)
    rw [jst hbo k k0 (by omega) h0 q, jst heo k k0 (by omega) h0 q]
    refine ⟨g.1, g.2.1, g.2.2.1, fun z => ?_⟩
    by_cases q2 : k + 1 = s
    · rw [q2, hb]
      rcases hl with hl | hl
      · omega
      · rw [show s - 1 = k by omega] at hl
        exact hl
    · rw [jst hbo (k + 1) (by omega) (by omega) h0 q2]
      exact g.2.2.2 (by omega)
theorem jSn.nx {e1 : Nat → Int32} {s y n1 t : Int} (he : jSo e1 s = y) (hn : n1 = s + 1) (ht : y ≤ t) : n1 = 0 ∨ jSo e1 (n1 - 1) ≤ t := by
  subst hn
  rw [show s + 1 - 1 = s by omega, he]
  exact Or.inr ht
theorem jSn.cg {b e b1 e1 : Nat → Int32} {s u : Int} (h : jSn b e s u) (hb : b1 = b) (he : e1 = e) : jSn b1 e1 s u := by
  subst hb he
  exact h
/-- as many units as sentences -/
theorem jSn.many {b e : Nat → Int32} {s u : Int} (h : jSn b e s u) : ∀ k : Nat, (k : Int) < s → (k : Int) + 1 ≤ jSo e k
  | 0, hk => by
    have := h 0 (by omega) hk
    show (0 : Int) + 1 ≤ jSo e 0
    omega
  | k + 1, hk => by
    have h1 := jSn.many h k (by omega)
    have h2 := h k (by omega) (by omega)
    have h3 := h ((k : Int) + 1) (by omega) (by omega)
    have h4 := h2.2.2.2 (by omega)
    have e1 : ((k + 1 : Nat) : Int) = (k : Int) + 1 := by omega
    rw [e1]
    omega
theorem jSn.le {b e : Nat → Int32} {s u : Int} (h : jSn b e s u) (h0 : 0 ≤ u) : s ≤ u := by
  by_cases q : s ≤ 0
  · omega
  · have h1 := h.many (s - 1).toNat (by omega)
    have h2 := h (s - 1) (by omega) (by omega)
    have e1 : (((s - 1).toNat : Nat) : Int) = s - 1 := by omega
    rw [e1] at h1
    omega
theorem jSn.mono {b e : Nat → Int32} {s u u1 : Int} (h : jSn b e s u) (hu : u ≤ u1) : jSn b e s u1 := fun k a c => by
  have g := h k a c
  exact ⟨g.1, g.2.1, by omega, g.2.2.2⟩
end
section
-- the documents of the class: sentences in order, and what is still to be checked of the open ones
def jEd (fe : Nat → Int32) (k : Int) : Int := if k ≤ 0 then 0 else jSo fe (k - 1)
def jPo (fe : Nat → Int32) (ps pk : Int) (vc : Value) (w : Nat) : Prop := pk ≤ ps ∧ ((vc = .null ∧ 575 * (ps - pk) + (1500 - jEd fe pk) ≤ w) ∨ (vc ≠ .null ∧ pk < ps ∧ 575 * (ps - pk) - 16 + (1500 - jSo fe pk) ≤ w))
def jD3 (dC : Nat → ClassId) (dI : Nat → Nat → Nat) (ca : Nat → ClassId) (G : jT) (a yb ye : Nat) (fb fe : Nat → Int32) (ps pk : Int32) (vc : Value) (H : Heap) : Prop := jP (dC, dI) G H [(a, 3, 4, .int ps), (a, 3, 10, .int pk), (a, 3, 11, vc)] ∧ jMc (dC, dI) G H [(yb, 171, 40, ca 1, fb), (ye, 172, 40, ca 1, fe)] ∧ jSn fb fe ps.toInt 1500 ∧ (0 ≤ ps.toInt ∧ ps.toInt ≤ 40 ∧ 0 ≤ pk.toInt)
def jSmm (G : jT) (x : Option Nat) (W : Nat → Nat) : Nat → Nat
  | 0 => 0
  | N + 1 => jSmm G x W N + (if G N = some (3, 0) ∧ x ≠ some N then W N else 0)
theorem jSmm.mono {G : jT} {x : Option Nat} {W : Nat → Nat} {N : Nat} : ∀ M, N ≤ M → jSmm G x W N ≤ jSmm G x W M
  | 0, h => by rw [Nat.le_zero.mp h]; exact Nat.le_refl _
  | M + 1, h => by
    by_cases e : N = M + 1
    · rw [e]; exact Nat.le_refl _
    · exact Nat.le_trans (jSmm.mono M (by omega)) (Nat.le_add_right _ _)
theorem jSmm.less {G : jT} {W : Nat → Nat} {a : Nat} (ha : G a = some (3, 0)) : ∀ N, jSmm G (some a) W N + (if a < N then W a else 0) = jSmm G none W N
  | 0 => rfl
  | N + 1 => by
    have h := jSmm.less (W := W) ha N
    show jSmm G (some a) W N + (if G N = some (3, 0) ∧ some a ≠ some N then W N else 0) + _ = jSmm G none W N + (if G N = some (3, 0) ∧ none ≠ some N then W N else 0)
    by_cases e : a = N
    · subst e
      rw [if_neg (by omega : ¬ a < a)] at h
      rw [if_neg (fun q => q.2 rfl), if_pos (by omega : a < a + 1), if_pos ⟨ha, fun q => by cases q⟩]
      omega
    · have e2 : (if G N = some (3, 0) ∧ some a ≠ some N then W N else 0) = (if G N = some (3, 0) ∧ none ≠ some N then W N else 0) := by
        by_cases q : G N = some (3, 0)
        · rw [if_pos ⟨q, fun z => e (Option.some.inj z)⟩, if_pos ⟨q, fun z => by cases z⟩]
        · rw [if_neg (fun z => q z.1), if_neg (fun z => q z.1)]
      rw [e2]
      by_cases q : a < N
      · rw [if_pos q] at h
        rw [if_pos (by omega : a < N + 1)]
        omega
      · rw [if_neg q] at h
        rw [if_neg (by omega : ¬ a < N + 1)]
        omega
theorem jSmm.ne {G : jT} {W : Nat → Nat} {a : Nat} (ha : G a ≠ some (3, 0)) : ∀ N, jSmm G (some a) W N = jSmm G none W N
  | 0 => rfl
  | N + 1 => by
    have h := jSmm.ne (W := W) ha N
    show jSmm G (some a) W N + (if G N = some (3, 0) ∧ some a ≠ some N then W N else 0) = jSmm G none W N + (if G N = some (3, 0) ∧ none ≠ some N then W N else 0)
    rw [h]
    by_cases q : G N = some (3, 0)
    · rw [if_pos ⟨q, fun z => ha (by rw [Option.some.inj z]; exact q)⟩, if_pos ⟨q, fun z => by cases z⟩]
    · rw [if_neg (fun z => q z.1), if_neg (fun z => q z.1)]
theorem jSmm.cg {G G1 : jT} {x : Option Nat} {W W1 : Nat → Nat} (h : ∀ N, (G1 N = some (3, 0) ∧ x ≠ some N) ↔ (G N = some (3, 0) ∧ x ≠ some N)) (hw : ∀ N, x ≠ some N → W1 N = W N) : ∀ N, jSmm G1 x W1 N = jSmm G x W N
  | 0 => rfl
  | N + 1 => by
    have h1 := jSmm.cg h hw N
    show jSmm G1 x W1 N + _ = jSmm G x W N + _
    rw [h1]
    by_cases q : G N = some (3, 0) ∧ x ≠ some N
    · rw [if_pos q, if_pos ((h N).mpr q), hw N q.2]
    · rw [if_neg q, if_neg (fun z => q ((h N).mp z))]
def jDcc (dC : Nat → ClassId) (dI : Nat → Nat → Nat) (ca : Nat → ClassId) (G : jT) (x : Option Nat) (ph : Nat) (H : Heap) : Prop := ∃ Yb Ye W : Nat → Nat,
  (∀ a n, G a = some (3, n) → jf (dC, dI) 3 a 5 (.ref (Yb a)) H ∧ jf (dC, dI) 3 a 6 (.ref (Ye a)) H ∧ G (Yb a) = some (171, 40) ∧ G (Ye a) = some (172, 40)) ∧
  (∀ a b n m, G a = some (3, n) → G b = some (3, m) → Yb a = Yb b → a = b) ∧ (∀ a b n m, G a = some (3, n) → G b = some (3, m) → Ye a = Ye b → a = b) ∧
  (∀ a n, G a = some (3, n) → x ≠ some a → ∃ (fb fe : Nat → Int32) (ps pk : Int32) (vc : Value), jD3 dC dI ca G a (Yb a) (Ye a) fb fe ps pk vc H ∧ (n = 0 → jPo fe ps.toInt pk.toInt vc (W a))) ∧ ∀ N, jSmm G x W N ≤ ph
section J41
variable {dC : Nat → ClassId} {dI : Nat → Nat → Nat} {ca : Nat → ClassId} {G G1 : jT} {H H1 : Heap} {x : Option Nat} {ph : Nat}
theorem jD3.of {a yb ye : Nat} {fb fe : Nat → Int32} {ps pk : Int32} {vc : Value} (h : jD3 dC dI ca G a yb ye fb fe ps pk vc H) (hf : ∀ i v, i = 4 ∨ i = 10 ∨ i = 11 → jf (dC, dI) 3 a i v H → jf (dC, dI) 3 a i v H1) (hb : H1[yb]? = H[yb]?) (he : H1[ye]? = H[ye]?) : jD3 dC dI ca G a yb ye fb fe ps pk vc H1 := by
  obtain ⟨g3, g4, g5⟩ := h
  refine ⟨fun q hq => ?_, fun q hq => ?_, g5⟩
  · obtain ⟨q1, q2⟩ := g3 q hq
    refine ⟨q1, ?_⟩
    simp only [List.mem_cons, List.not_mem_nil, or_false] at hq
    rcases hq with rfl | rfl | rfl
    · exact hf _ _ (Or.inl rfl) q2
    · exact hf _ _ (Or.inr (Or.inl rfl)) q2
    · exact hf _ _ (Or.inr (Or.inr rfl)) q2
  · obtain ⟨q1, q2, q3, q4⟩ := g4 q hq
    refine ⟨q1, q2, q3, q4.kept ?_⟩
    simp only [List.mem_cons, List.not_mem_nil, or_false] at hq
    rcases hq with rfl | rfl
    · exact hb
    · exact he
theorem jD3.up {a yb ye : Nat} {fb fe : Nat → Int32} {ps pk : Int32} {vc : Value} (h : jD3 dC dI ca G a yb ye fb fe ps pk vc H) (hle : jLe G G1) : jD3 dC dI ca G1 a yb ye fb fe ps pk vc H := by
  obtain ⟨g3, g4, g5⟩ := h
  refine ⟨fun q hq => ?_, fun q hq => ?_, g5⟩
  · obtain ⟨⟨n, q1⟩, q2⟩ := g3 q hq
    exact ⟨⟨n, hle _ _ q1⟩, q2⟩
  · obtain ⟨q1, q2⟩ := g4 q hq
    exact ⟨hle _ _ q1, q2⟩
/-- a document is opened: what is known of it, and what the others want -/
theorem jDcc.opn {a n : Nat} (h : jDcc dC dI ca G none ph H) (ha : G a = some (3, n)) : ∃ (yb ye w ph1 : Nat) (fb fe : Nat → Int32) (ps pk : Int32) (vc : Value), G yb = some (171, 40) ∧ G ye = some (172, 40) ∧ jf (dC, dI) 3 a 5 (.ref yb) H ∧ jf (dC, dI) 3 a 6 (.ref ye) H ∧ jD3 dC dI ca G a yb ye fb fe ps pk vc H ∧ (n = 0 → jPo fe ps.toInt pk.toInt vc w) ∧ jDcc dC dI ca G (some a) ph1 H ∧ ph1 ≤ ph ∧ (n = 0 → ph1 + w ≤ ph) := by
  obtain ⟨Yb, Ye, W, h1, h2, h3, h4, h5⟩ := h
  obtain ⟨g1, g2, g3, g4⟩ := h1 a n ha
  obtain ⟨fb, fe, ps, pk, vc, g, gp⟩ := h4 a n ha (fun q => by cases q)
  by_cases e : n = 0
  · subst e
    have hs : ∀ N, jSmm G (some a) W N ≤ ph - W a := fun N => by
      have m1 := jSmm.mono (G := G) (x := some a) (W := W) (N := N) (N + a + 1) (by omega)
      have m2 := jSmm.less (W := W) ha (N + a + 1)
      rw [if_pos (by omega : a < N + a + 1)] at m2
      have m3 := h5 (N + a + 1)
      omega
    have m0 := jSmm.less (W := W) ha (a + 1)
    rw [if_pos (by omega : a < a + 1)] at m0
    have m3 := h5 (a + 1)
    exact ⟨Yb a, Ye a, W a, ph - W a, fb, fe, ps, pk, vc, g3, g4, g1, g2, g, gp, ⟨Yb, Ye, W, h1, h2, h3, fun b m hb _ => h4 b m hb (fun q => by cases q), hs⟩, by omega, fun _ => by omega⟩
  · refine ⟨Yb a, Ye a, W a, ph, fb, fe, ps, pk, vc, g3, g4, g1, g2, g, gp, ⟨Yb, Ye, W, h1, h2, h3, fun b m hb _ => h4 b m hb (fun q => by cases q), fun N => ?_⟩, Nat.le_refl _, fun q => absurd q e⟩
    rw [jSmm.ne (fun q => e (by rw [ha] at q; exact congrArg Prod.snd (Option.some.inj q))) N]
    exact h5 N
theorem jPo.rf {fe : Nat → Int32} {ps pk : Int} {w x : Nat} (h : jPo fe ps pk (.ref x) w) : pk < ps ∧ 575 * (ps - pk) - 16 + (1500 - jSo fe pk) ≤ w := by
  obtain ⟨h1, h2 | h2⟩ := h
  · exact absurd h2.1 (fun q => by cases q)
  · exact h2.2
theorem jEd.nx {fb fe : Nat → Int32} {s u k : Int} (h : jSn fb fe s u) (h0 : 0 ≤ k) (h1 : k < s) : jEd fe k ≤ jSo fb k ∧ 0 ≤ jEd fe k ∧ jEd fe (k + 1) = jSo fe k ∧ jSo fb k < jSo fe k ∧ jSo fe k ≤ u ∧ 0 ≤ jSo fb k := by
  have g := h k h0 h1
  have e1 : jEd fe (k + 1) = jSo fe k := by
    unfold jEd
    rw [if_neg (by omega), show k + 1 - 1 = k by omega]
  unfold jEd at e1 ⊢
  by_cases q : k ≤ 0
  · rw [if_pos q]
    exact ⟨g.1, Int.le_refl _, e1, g.2.1, g.2.2.1, g.1⟩
  · rw [if_neg q]
    have g1 := h (k - 1) (by omega) (by omega)
    have g2 := g1.2.2.2 (by omega)
    rw [show k - 1 + 1 = k by omega] at g2
    exact ⟨g2, by omega, e1, g.2.1, g.2.2.1, g.1⟩
theorem jEd.le {fb fe : Nat → Int32} {s u k : Int} (h : jSn fb fe s u) (hu : 0 ≤ u) (h0 : 0 ≤ k) (h1 : k ≤ s) : jEd fe k ≤ u := by
  unfold jEd
  by_cases q : k ≤ 0
  · rw [if_pos q]; exact hu
  · rw [if_neg q]
    exact (h (k - 1) (by omega) (by omega)).2.2.1
end J41
end
section
-- how many bytes a message has at least: its strings and keys stand apart
def jCl (D : jC) (N : Int) (e : Nat) : Int := if N ≤ jlo D e then 0 else if N ≤ jlo D e + jln D e then N - jlo D e else jln D e
def jCss (D : jC) (N : Int) : List Nat → Int
  | [] => 0
  | e :: es => jCl D N e + jCss D N es
def jIn1 (D : jC) (N : Int) (e : Nat) : Int := if jlo D e ≤ N ∧ N < jlo D e + jln D e then 1 else 0
def jIs1 (D : jC) (N : Int) : List Nat → Int
  | [] => 0
  | e :: es => jIn1 D N e + jIs1 D N es
theorem jCl.suc {D : jC} {N : Int} {e : Nat} (h : 0 ≤ jln D e) : jCl D (N + 1) e = jCl D N e + jIn1 D N e := by
  unfold jCl jIn1
  by_cases a : N + 1 ≤ jlo D e
  · rw [if_pos a, if_pos (by omega), if_neg (by omega)]; rfl
  · rw [if_neg a]
    by_cases b : N + 1 ≤ jlo D e + jln D e
    · rw [if_pos b, if_pos (by omega : jlo D e ≤ N ∧ N < jlo D e + jln D e)]
      by_cases c : N ≤ jlo D e
      · rw [if_pos c]; omega
      · rw [if_neg c, if_pos (by omega)]; omega
    · rw [if_neg b, if_neg (by omega : ¬ (jlo D e ≤ N ∧ N < jlo D e + jln D e))]
      by_cases c : N ≤ jlo D e
      · rw [if_pos c]; omega
      · rw [if_neg c]
        by_cases d : N ≤ jlo D e + jln D e
        · rw [if_pos d]; omega
        · rw [if_neg d]; omega
theorem jCss.suc {D : jC} {N : Int} : ∀ es : List Nat, (∀ e ∈ es, 0 ≤ jln D e) → jCss D (N + 1) es = jCss D N es + jIs1 D N es
  | [], _ => rfl
  | e :: es, h => by
    have h1 := jCss.suc (N := N) es (fun x hx => h x (List.mem_cons_of_mem _ hx))
    have h2 := jCl.suc (N := N) (h e List.mem_cons_self)
    show jCl D (N + 1) e + jCss D (N + 1) es = jCl D N e + jCss D N es + (jIn1 D N e + jIs1 D N es)
    omega
theorem jIs1.none {D : jC} {N : Int} : ∀ es : List Nat, (∀ e ∈ es, jIn1 D N e = 0) → jIs1 D N es = 0
  | [], _ => rfl
  | e :: es, h => by
    have h1 := jIs1.none es (fun x hx => h x (List.mem_cons_of_mem _ hx))
    have h2 := h e List.mem_cons_self
    show jIn1 D N e + jIs1 D N es = 0
    omega
theorem jIs1.le {D : jC} {N : Int} : ∀ es : List Nat, es.Pairwise (jDjn D) → (∀ e ∈ es, 0 ≤ jln D e) → jIs1 D N es ≤ 1
  | [], _, _ => by show (0 : Int) ≤ 1; omega
  | e :: es, hp, h => by
    obtain ⟨p1, p2⟩ := List.pairwise_cons.mp hp
    have h1 := jIs1.le (N := N) es p2 (fun x hx => h x (List.mem_cons_of_mem _ hx))
    show jIn1 D N e + jIs1 D N es ≤ 1
    by_cases q : jlo D e ≤ N ∧ N < jlo D e + jln D e
    · have h2 : jIs1 D N es = 0 := jIs1.none es (fun x hx => by
        have d := p1 x hx
        have l := h x (List.mem_cons_of_mem _ hx)
        unfold jDjn at d
        unfold jIn1
        rw [if_neg (by omega)])
      have h3 : jIn1 D N e = 1 := by unfold jIn1; rw [if_pos q]
      omega
    · have h3 : jIn1 D N e = 0 := by unfold jIn1; rw [if_neg q]
      omega
theorem jCss.le {D : jC} {es : List Nat} (hp : es.Pairwise (jDjn D)) (h : ∀ e ∈ es, 0 ≤ jln D e) (h0 : ∀ e ∈ es, 0 ≤ jlo D e) : ∀ N : Nat, jCss D (N : Int) es ≤ N
  | 0 => by
    have z : ∀ es : List Nat, (∀ e ∈ es, 0 ≤ jlo D e) → jCss D ((0 : Nat) : Int) es = 0 := fun es => by
      induction es with
      | nil => exact fun _ => rfl
      | cons e es ih =>
        intro hq
        have h1 := ih (fun x hx => hq x (List.mem_cons_of_mem _ hx))
        have h2 := hq e List.mem_cons_self
        show jCl D _ e + jCss D _ es = 0
        have h3 : jCl D ((0 : Nat) : Int) e = 0 := by unfold jCl; rw [if_pos (by omega)]
        omega
    rw [z es h0]
    exact Int.le_refl _
  | N + 1 => by
    have h1 := jCss.le hp h h0 N
    have h2 := jCss.suc (N := (N : Int)) es h
    have h3 := jIs1.le (N := (N : Int)) es hp h
    have e1 : ((N + 1 : Nat) : Int) = (N : Int) + 1 := by omega
    rw [e1]
    omega
/-- and how many values have a key -/
def jCi (n : Nat) : List Nat → Int
  | [] => 0
  | i :: is => (if i < n then 3 else 0) + jCi n is
theorem jCi.out {n : Nat} : ∀ is : List Nat, (∀ i ∈ is, i ≠ n) → jCi (n + 1) is = jCi n is
  | [], _ => rfl
  | i :: is, h => by
    have h1 := jCi.out is (fun x hx => h x (List.mem_cons_of_mem _ hx))
    have h2 := h i List.mem_cons_self
    show (if i < n + 1 then (3 : Int) else 0) + jCi (n + 1) is = (if i < n then 3 else 0) + jCi n is
    rw [h1]
    by_cases q : i < n
    · rw [if_pos q, if_pos (by omega)]
    · rw [if_neg q, if_neg (by omega)]
theorem jCi.suc {n : Nat} {f : Nat → Int32} : ∀ is : List Nat, is.Pairwise (· ≠ ·) → (∀ i ∈ is, 1 ≤ (f i).toInt) → jCi (n + 1) is ≤ jCi n is + (if 1 ≤ (f n).toInt then 3 else 0)
  | [], _, _ => by show (0 : Int) ≤ 0 + _; split <;> omega
  | i :: is, hp, hf => by
    obtain ⟨p1, p2⟩ := List.pairwise_cons.mp hp
    show (if i < n + 1 then (3 : Int) else 0) + jCi (n + 1) is ≤ (if i < n then 3 else 0) + jCi n is + _
    by_cases e : i = n
    · subst e
      rw [jCi.out is (fun x hx q => p1 x hx q.symm), if_pos (by omega : i < i + 1), if_neg (by omega : ¬ i < i), if_pos (hf i List.mem_cons_self)]
      omega
    · have h1 := jCi.suc (n := n) (f := f) is p2 (fun x hx => hf x (List.mem_cons_of_mem _ hx))
      have e2 : (if i < n + 1 then (3 : Int) else 0) = (if i < n then 3 else 0) := by
        by_cases q : i < n
        · rw [if_pos q, if_pos (by omega)]
        · rw [if_neg q, if_neg (by omega)]
      rw [e2]
      omega
end
section
-- p11: bits; the tape on both sides; bytes read as UTF-8; the text that comes of them
theorem jb_a31 {x z : Int32} (e : z = x &&& 31) : z.toInt = x.toInt % 32 := by
  have h := pk_and x (m := 31) 5 (by decide)
  have hb := x.toBitVec.isLt
  have hx := ji_toInt x
  rw [e, h, nI_toInt (by omega), hx]
  split <;> omega
theorem jb_a7 {x z : Int32} (e : z = x &&& 7) : z.toInt = x.toInt % 8 := by
  have h := pk_and x (m := 7) 3 (by decide)
  have hb := x.toBitVec.isLt
  have hx := ji_toInt x
  rw [e, h, nI_toInt (by omega), hx]
  split <;> omega
theorem jb_s63 {k s z : Int32} (e : z = (63 : Int32) >>> (s &&& 31)) (h : s.toInt = 1 ∨ s.toInt = 2 ∨ s.toInt = 3) : (s.toInt = 1 ∧ z = 31) ∨ (s.toInt = 2 ∧ z = 15) ∨ (s.toInt = 3 ∧ z = 7) := by
  rcases h with h | h | h
  · obtain rfl : s = 1 := Int32.toInt_inj.mp (by rw [h]; decide)
    exact Or.inl ⟨h, by rw [e]; decide⟩
  · obtain rfl : s = 2 := Int32.toInt_inj.mp (by rw [h]; decide)
    exact Or.inr (Or.inl ⟨h, by rw [e]; decide⟩)
  · obtain rfl : s = 3 := Int32.toInt_inj.mp (by rw [h]; decide)
    exact Or.inr (Or.inr ⟨h, by rw [e]; decide⟩)
/-- a byte of x -/
def jVby (x k : Int) : Int := (x / (if k = 24 then 16777216 else if k = 16 then 65536 else if k = 8 then 256 else 1)) % 256
theorem jVby.of {x s z : Int32} {k : Int} (e : z = x >>> (s &&& 31)) (h : s.toInt = k) (hk : k = 24 ∨ k = 16 ∨ k = 8 ∨ k = 0) : z.toInt % 256 = jVby x.toInt k := by
  unfold jVby
  rcases hk with hk | hk | hk | hk
  · obtain rfl : s = 24 := Int32.toInt_inj.mp (by rw [h, hk]; decide)
    rw [e, pk_shr _ _ 24 (by decide), Int.shiftRight_eq_div_pow, hk]; first | rfl | (simp; done)
  · obtain rfl : s = 16 := Int32.toInt_inj.mp (by rw [h, hk]; decide)
    rw [e, pk_shr _ _ 16 (by decide), Int.shiftRight_eq_div_pow, hk]; first | rfl | (simp; done)
  · obtain rfl : s = 8 := Int32.toInt_inj.mp (by rw [h, hk]; decide)
    rw [e, pk_shr _ _ 8 (by decide), Int.shiftRight_eq_div_pow, hk]; first | rfl | (simp; done)
  · obtain rfl : s = 0 := Int32.toInt_inj.mp (by rw [h, hk]; decide)
    rw [e, pk_shr _ _ 0 (by decide), Int.shiftRight_eq_div_pow, hk]; first | rfl | (simp; done)
def jB8 (f : Nat → Int32) (i : Int) : Int := jSo f i % 256
theorem jB8.r (f : Nat → Int32) (i : Int) : 0 ≤ jB8 f i ∧ jB8 f i ≤ 255 := by unfold jB8; omega
/-- all but one byte of a row of n stay -/
def jOth (n : Int) (f g : Nat → Int32) (x : Int) : Prop := ∀ j : Int, 0 ≤ j → j < n → j ≠ x → jSo g j = jSo f j
/-- j bytes of v are put behind p, the highest first -/
def jVpk (f g : Nat → Int32) (p v j : Int) : Prop := (∀ i : Int, 0 ≤ i → i < p → jSo g i = jSo f i) ∧ ∀ k : Int, 0 ≤ k → k < j → jB8 g (p + k) = jVby v (24 - 8 * k)
theorem jVpk.start (f : Nat → Int32) (p v : Int) : jVpk f f p v 0 := ⟨fun _ _ _ => rfl, fun k h0 h1 => by omega⟩
theorem jVpk.step {f g g1 : Nat → Int32} {p j j1 q z s v : Int} (h : jVpk f g p v j) (h0 : 0 ≤ p) (hj : 0 ≤ j) (hq : q = p + j) (h4 : q < 4000) (hz : jSo g1 q % 256 = z % 256) (hs : z % 256 = jVby v s) (es : s = 24 - 8 * j) (ho : jOth 4000 g g1 q) (e : j1 = j + 1) : jVpk f g1 p v j1 := by
  subst e
  refine ⟨fun i q0 q1 => (ho i q0 (by omega) (by omega)).trans (h.1 i q0 q1), fun k q0 q1 => ?_⟩
  by_cases w : k = j
  · subst w; rw [← hq]; unfold jB8; rw [hz, hs, es]
  · have h2 := h.2 k q0 (by omega)
    unfold jB8 at h2 ⊢
    rw [ho (p + k) (by omega) (by omega) (by omega)]; exact h2
def jFv (a b c d e k : Int) : Int := jVby (if k < 4 then a else if k < 8 then b else if k < 12 then c else if k < 16 then d else e) (24 - 8 * (k % 4))
/-- j of the twenty bytes are put behind p -/
def jVfd (f g : Nat → Int32) (p a b c d e j : Int) : Prop := (∀ i : Int, 0 ≤ i → i < p → jSo g i = jSo f i) ∧ ∀ k : Int, 0 ≤ k → k < j → jB8 g (p + k) = jFv a b c d e k
theorem jVfd.start (f : Nat → Int32) (p a b c d e : Int) : jVfd f f p a b c d e 0 := ⟨fun _ _ _ => rfl, fun k h0 h1 => by omega⟩
theorem jVfd.step {f g g1 : Nat → Int32} {p j j1 q z s a b c d e v : Int} (h : jVfd f g p a b c d e j) (h0 : 0 ≤ p) (hj : 0 ≤ j) (hq : q = p + j) (h4 : q < 4000) (hz : jSo g1 q = z % 256) (hs : z % 256 = jVby v s) (es : s = 24 - 8 * (j % 4)) (ev : v = if j < 4 then a else if j < 8 then b else if j < 12 then c else if j < 16 then d else e) (ho : jOth 4000 g g1 q) (e1 : j1 = j + 1) : jVfd f g1 p a b c d e j1 := by
  subst e1
  refine ⟨fun i q0 q1 => (ho i q0 (by omega) (by omega)).trans (h.1 i q0 q1), fun k q0 q1 => ?_⟩
  by_cases w : k = j
  · subst w; rw [← hq]; unfold jB8 jFv; rw [hz, ← ev, ← es, ← hs]; omega
  · have h2 := h.2 k q0 (by omega)
    unfold jB8 at h2 ⊢
    rw [ho (p + k) (by omega) (by omega) (by omega)]; exact h2
/-- both tapes have the same n bytes -/
def jTe (f g : Nat → Int32) (n : Int) : Prop := ∀ j : Int, 0 ≤ j → j < n → jB8 f j = jB8 g j
theorem jTe.le {f g : Nat → Int32} {n m : Int} (h : jTe f g n) (e : m ≤ n) : jTe f g m := fun j h0 h1 => h j h0 (by omega)
/-- UTF-8: how many bytes follow; the bits of the first one; the bytes behind it; the char at a place, -1 when there is none; its bytes -/
def jUm (x : Int) : Int := if 194 ≤ x ∧ x ≤ 223 then 1 else if 224 ≤ x ∧ x ≤ 239 then 2 else if 240 ≤ x ∧ x ≤ 244 then 3 else 0
def jU0 (x m : Int) : Int := if m = 1 then x % 32 else if m = 2 then x % 16 else x % 8
def jUr (b : Int → Int) : Nat → Int → Int → Int
  | 0, _, v => v
  | k + 1, i, v => if 128 ≤ b i ∧ b i ≤ 191 then jUr b k (i + 1) (v * 64 + b i % 64) else -1
def jUk (m v : Int) : Int := if v < 0 ∨ (m = 2 ∧ v < 2048) ∨ (m = 3 ∧ v < 65536) ∨ (55296 ≤ v ∧ v ≤ 57343) ∨ 1114111 < v then -1 else v
def jUc (b : Int → Int) (i n : Int) : Int := if b i < 128 then b i else if jUm (b i) = 0 ∨ n ≤ i + jUm (b i) then -1 else jUk (jUm (b i)) (jUr b (jUm (b i)).toNat (i + 1) (jU0 (b i) (jUm (b i))))
def jUz (c : Int) : Int := if c < 128 then 1 else if c < 2048 then 2 else if c < 65536 then 3 else 4
def jUs (c : Int) : Int := if c < 0 then 1 else jUz c
theorem jUs.r (c : Int) : 1 ≤ jUs c ∧ jUs c ≤ 4 := by unfold jUs jUz; split; omega; split; omega; split; omega; split <;> omega
theorem jUr_cg {b d : Int → Int} : ∀ (k : Nat) (i v : Int), (∀ j : Int, i ≤ j → j < i + k → b j = d j) → jUr b k i v = jUr d k i v
  | 0, _, _, _ => rfl
  | k + 1, i, v, h => by
    show (if 128 ≤ b i ∧ b i ≤ 191 then jUr b k (i + 1) (v * 64 + b i % 64) else -1) = if 128 ≤ d i ∧ d i ≤ 191 then jUr d k (i + 1) (v * 64 + d i % 64) else -1
    rw [h i (by omega) (by omega), jUr_cg k (i + 1) _ (fun j q0 q1 => h j (by omega) (by omega))]
theorem jUm.r (x : Int) : 0 ≤ jUm x ∧ jUm x ≤ 3 := by unfold jUm; split; omega; split; omega; split <;> omega
theorem jUc_cg {b d : Int → Int} {i n : Int} (h : ∀ j : Int, i ≤ j → j < n → b j = d j) (hi : i < n) : jUc b i n = jUc d i n := by
  unfold jUc
  rw [h i (by omega) hi]
  by_cases w : d i < 128
  · rw [if_pos w, if_pos w]
  · rw [if_neg w, if_neg w]
    by_cases w2 : jUm (d i) = 0 ∨ n ≤ i + jUm (d i)
    · rw [if_pos w2, if_pos w2]
    · have h3 := jUm.r (d i)
      rw [if_neg w2, if_neg w2, jUr_cg _ (i + 1) _ (fun j q0 q1 => h j (by omega) (by omega))]
/-- the units of a char; of all bytes from a place on -/
def jUu (c : Int) : List Int := if c < 0 then [65533] else if c < 65536 then [c] else [55296 + (c - 65536) / 1024, 56320 + (c - 65536) % 1024]
def jUl (b : Int → Int) (n : Int) : Nat → Int → List Int
  | 0, _ => []
  | k + 1, i => if i < n then jUu (jUc b i n) ++ jUl b n k (i + jUs (jUc b i n)) else []
theorem jUl_s {b : Int → Int} {n i : Int} {k : Nat} (hk : 0 < k) (hi : i < n) : jUl b n k i = jUu (jUc b i n) ++ jUl b n (k - 1) (i + jUs (jUc b i n)) := by
  cases k with
  | zero => omega
  | succ k => exact if_pos hi
theorem jUl_o {b : Int → Int} {n i : Int} : ∀ (k : Nat), n ≤ i → jUl b n k i = []
  | 0, _ => rfl
  | k + 1, h => if_neg (show ¬ i < n by omega)
theorem jUl_cg {b d : Int → Int} {n : Int} (h : ∀ j : Int, 0 ≤ j → j < n → b j = d j) : ∀ (k : Nat) (i : Int), 0 ≤ i → jUl b n k i = jUl d n k i
  | 0, _, _ => rfl
  | k + 1, i, h0 => by
    by_cases w : i < n
    · have h1 := jUs.r (jUc d i n)
      rw [jUl_s (b := b) (k := k + 1) (by omega) w, jUl_s (b := d) (k := k + 1) (by omega) w, jUc_cg (fun j q0 q1 => h j (by omega) q1) w]
      show _ ++ jUl b n k _ = _ ++ jUl d n k _
      rw [jUl_cg h k _ (by omega)]
    · rw [jUl_o _ (by omega), jUl_o _ (by omega)]
def jTl (b : Int → Int) (n : Int) : List Int := jUl b n (n.toNat + 1) 0
theorem jTl_cg {b d : Int → Int} {n : Int} (h : ∀ j : Int, 0 ≤ j → j < n → b j = d j) : jTl b n = jTl d n := jUl_cg h _ 0 (by omega)
/-- g holds the units of P -/
def jVtx (g : Nat → Int32) (P : List Int) : Prop := ∀ j : Int, 0 ≤ j → j < P.length → jSo g j = P.getD j.toNat 0
theorem jVtx.app {g g1 : Nat → Int32} {P : List Int} {c w : Int} (h : jVtx g P) (hw : w = P.length) (ho : ∀ j : Int, 0 ≤ j → j < w → jSo g1 j = jSo g j) (hc : jSo g1 w = c) : jVtx g1 (P ++ [c]) := fun j q0 q1 => by
  have hl : (P ++ [c]).length = P.length + 1 := by simp
  rw [hl] at q1
  by_cases w1 : j < w
  · rw [ho j q0 w1, h j q0 (by omega), List.getD_eq_getElem?_getD, List.getD_eq_getElem?_getD, List.getElem?_append_left (by omega)]
  · have e : j = w := by omega
    subst e
    rw [hc, List.getD_eq_getElem?_getD, List.getElem?_append_right (by omega), show j.toNat - P.length = 0 by omega]
    rfl
/-- the bytes up to i are read, w units are written -/
def jDe (b : Int → Int) (n : Int) (g : Nat → Int32) (w i : Int) : Prop := ∃ (P : List Int) (k : Nat), n - i < k ∧ w = P.length ∧ jVtx g P ∧ P ++ jUl b n k i = jTl b n
theorem jDe.start (b : Int → Int) (n : Int) (g : Nat → Int32) {w i : Int} (hw : w = 0) (hi : i = 0) : jDe b n g w i := by
  subst hw hi
  exact ⟨[], n.toNat + 1, by omega, rfl, fun j h0 h1 => absurd h1 (by show ¬ j < ((0 : Nat) : Int); omega), rfl⟩
theorem jDe.le {b : Int → Int} {n w i : Int} {g : Nat → Int32} (h : jDe b n g w i) : w ≤ (jTl b n).length := by
  obtain ⟨P, k, hk, hw, hx, hP⟩ := h
  rw [← hP, List.length_append, hw]; omega
/-- what a batch of n bytes answers -/
def jBa (b : Int → Int) (n r : Int) : Prop := (1500 < ((jTl b n).length : Int) ∧ r = -2) ∨ (((jTl b n).length : Int) ≤ 1500 ∧ ∃ g : Nat → Int32, jVtx g (jTl b n) ∧ r = jPar g (jTl b n).length)
theorem jVtx.cg {g g1 : Nat → Int32} {P : List Int} {w : Int} (h : jVtx g P) (hw : w = P.length) (e : ∀ j : Int, 0 ≤ j → j < w → jSo g1 j = jSo g j) : jVtx g1 P := fun j q0 q1 => (e j q0 (by omega)).trans (h j q0 q1)
theorem jBa.uniq {b d : Int → Int} {n m r r1 : Int} (h : jBa b n r) (h1 : jBa d m r1) (em : m = n) (e : ∀ j : Int, 0 ≤ j → j < n → b j = d j) : r = r1 := by
  subst em
  rw [jBa, jTl_cg e] at h
  rcases h with ⟨a1, a2⟩ | ⟨a1, g, a2, a3⟩
  · rcases h1 with ⟨c1, c2⟩ | ⟨c1, g1, c2, c3⟩
    · rw [a2, c2]
    · omega
  · rcases h1 with ⟨c1, c2⟩ | ⟨c1, g1, c2, c3⟩
    · omega
    · rw [a3, c3]
      exact jPar_cg (by omega) (fun i q0 q1 => (a2 i q0 q1).trans (c2 i q0 q1).symm)
theorem jUm.of {x m : Int} (h : (240 ≤ x ∧ m = 3) ∨ (224 ≤ x ∧ x < 240 ∧ m = 2) ∨ (x < 224 ∧ m = 1)) (h1 : 194 ≤ x) (h2 : x ≤ 244) : m = jUm x := by
  unfold jUm
  rcases h with ⟨a, b⟩ | ⟨a, b, c⟩ | ⟨a, b⟩
  · rw [if_neg (by omega), if_neg (by omega), if_pos (by omega)]; exact b
  · rw [if_neg (by omega), if_pos (by omega)]; exact c
  · rw [if_pos (by omega)]; exact b
theorem jUm.ref {x n : Int} (h : (194 ≤ x ∧ x ≤ 223 ∧ n = 2) ∨ (224 ≤ x ∧ x ≤ 239 ∧ n = 3) ∨ (240 ≤ x ∧ x ≤ 244 ∧ n = 4)) : n - 1 = jUm x := by
  unfold jUm
  rcases h with ⟨a, b, c⟩ | ⟨a, b, c⟩ | ⟨a, b, c⟩
  · rw [if_pos (by omega)]; omega
  · rw [if_neg (by omega), if_pos (by omega)]; omega
  · rw [if_neg (by omega), if_neg (by omega), if_pos (by omega)]; omega
theorem jUm.none {x : Int} (h : x < 194 ∨ 244 < x) : jUm x = 0 := by
  unfold jUm
  rw [if_neg (by omega), if_neg (by omega), if_neg (by omega)]
theorem jU0.of {x y z s : Int32} {m : Int} (e : y = (63 : Int32) >>> (s &&& 31)) (e2 : z = x &&& y) (hs : s.toInt = m) (hm : m = 1 ∨ m = 2 ∨ m = 3) : z.toInt = jU0 x.toInt m := by
  unfold jU0
  rcases jb_s63 (k := 0) e (by omega) with ⟨a, b⟩ | ⟨a, b⟩ | ⟨a, b⟩
  · rw [if_pos (by omega)]; exact jb_a31 (by rw [e2, b])
  · rw [if_neg (by omega), if_pos (by omega), e2, b]; exact jb_and15 x
  · rw [if_neg (by omega), if_neg (by omega)]; exact jb_a7 (by rw [e2, b])
theorem jU0.r {x m : Int} (h : m = jUm x) (h1 : 194 ≤ x) (h2 : x ≤ 244) : 0 ≤ jU0 x m ∧ (m ≠ 1 ∨ (2 ≤ jU0 x m ∧ jU0 x m ≤ 31)) ∧ (m ≠ 2 ∨ jU0 x m ≤ 15) ∧ (m ≠ 3 ∨ jU0 x m ≤ 7) := by
  unfold jU0
  unfold jUm at h
  by_cases a : m = 1
  · rw [if_pos a]
    by_cases q : 194 ≤ x ∧ x ≤ 223
    · exact ⟨by omega, Or.inr ⟨by omega, by omega⟩, Or.inl (by omega), Or.inl (by omega)⟩
    · rw [if_neg q] at h
      by_cases q2 : 224 ≤ x ∧ x ≤ 239
      · rw [if_pos q2] at h; omega
      · rw [if_neg q2] at h
        by_cases q3 : 240 ≤ x ∧ x ≤ 244
        · rw [if_pos q3] at h; omega
        · rw [if_neg q3] at h; omega
  · rw [if_neg a]
    by_cases b : m = 2
    · rw [if_pos b]; exact ⟨by omega, Or.inl a, Or.inr (by omega), Or.inl (by omega)⟩
    · rw [if_neg b]; exact ⟨by omega, Or.inl a, Or.inl b, Or.inr (by omega)⟩
/-- how large what is read of n bytes is, k of them read -/
def jUb (n k v : Int) : Prop := 0 ≤ v ∧ ((n = 2 ∧ ((k = 1 ∧ 2 ≤ v ∧ v ≤ 31) ∨ (k = 2 ∧ 128 ≤ v ∧ v ≤ 2047))) ∨ (n = 3 ∧ ((k = 1 ∧ v ≤ 15) ∨ (k = 2 ∧ v ≤ 1023) ∨ (k = 3 ∧ v ≤ 65535))) ∨ (n = 4 ∧ ((k = 1 ∧ v ≤ 7) ∨ (k = 2 ∧ v ≤ 511) ∨ (k = 3 ∧ v ≤ 32767) ∨ (k = 4 ∧ v ≤ 2097151))))
theorem jUb.start {x m n k v : Int} (hm : m = jUm x) (h1 : 194 ≤ x) (h2 : x ≤ 244) (hn : n = m + 1) (h3 : n = 2 ∨ n = 3 ∨ n = 4) (hk : k = 1) (hv : v = jU0 x m) : jUb n k v := by
  obtain ⟨a, b, c, d⟩ := jU0.r hm h1 h2
  rw [← hv] at a b c d
  refine ⟨a, ?_⟩
  rcases h3 with h3 | h3 | h3
  · exact Or.inl ⟨h3, Or.inl ⟨hk, by omega, by omega⟩⟩
  · exact Or.inr (Or.inl ⟨h3, Or.inl ⟨hk, by omega⟩⟩)
  · exact Or.inr (Or.inr ⟨h3, Or.inl ⟨hk, by omega⟩⟩)
theorem jUb.step {n k v k1 v1 y : Int} (h : jUb n k v) (hk : k < n) (h0 : 0 ≤ y) (h1 : y < 64) (ek : k1 = k + 1) (ev : v1 = v * 64 + y) : jUb n k1 v1 := by
  unfold jUb at h ⊢
  omega
theorem jUb.r {n k v : Int} (h : jUb n k v) (hk : k < n) : 0 ≤ v ∧ v ≤ 32767 := by
  unfold jUb at h
  omega
theorem jUb.end {n k v : Int} (h : jUb n k v) (hk : k = n) : 0 ≤ v ∧ (n ≠ 2 ∨ (128 ≤ v ∧ v ≤ 2047)) ∧ (n ≠ 3 ∨ v ≤ 65535) ∧ (n ≠ 4 ∨ v ≤ 2097151) := by
  unfold jUb at h
  omega
def jUq (b : Int → Int) (i n r q : Int) : Prop := (r = 0 ∧ jUc b i n < 0) ∨ (1 ≤ r ∧ r ≤ 4 ∧ i + r ≤ n ∧ 0 ≤ q ∧ q = jUc b i n ∧ r = jUz q)
theorem jUq.no {b : Int → Int} {i n r q : Int} (hr : r = 0) (h : -1 = jUc b i n) : jUq b i n r q := Or.inl ⟨hr, by omega⟩
/-- what both make of utfLength's answer: the char, its bytes -/
theorem jUq.of {b : Int → Int} {i n r q : Int} (h : jUq b i n r q) : (r = 0 ∧ jUc b i n < 0 ∧ jUs (jUc b i n) = 1) ∨ (1 ≤ r ∧ 0 ≤ q ∧ q = jUc b i n ∧ jUs (jUc b i n) = r) := by
  rcases h with ⟨a, c⟩ | ⟨a, c, d, e, f, g⟩
  · exact Or.inl ⟨a, c, by unfold jUs; rw [if_pos c]⟩
  · exact Or.inr ⟨a, e, f, by unfold jUs; rw [← f, if_neg (by omega), ← g]⟩
/-- behind the comment that begins at a place, -1 when there is none -/
def jCe (f : Nat → Int32) (n i : Int) : Int := if jOpI f i n = 1 then jBcc f n i else -1
theorem jCe.op {f : Nat → Int32} {n i r : Int} (h : r = jCe f n i) (ho : jOpI f i n = 1) : r = jBcc f n i := by rw [h, jCe, if_pos ho]
theorem jCe.no {f : Nat → Int32} {n i r : Int} (h : r = jCe f n i) (h0 : r < 0) : jOpI f i n = 0 ∨ jBcc f n i < 0 := by
  have h1 := jOpI_le f i n
  by_cases q : jOpI f i n = 1
  · exact Or.inr (by rw [← jCe.op h q]; exact h0)
  · exact Or.inl (by omega)
/-- sentences counted -/
def jPz (f : Nat → Int32) (n : Int) (k : Nat) (i c : Int) : Prop := (c ≤ 39 ∧ jPn f n k i c = jPar f n) ∨ (c = 40 ∧ jPar f n = 40)
theorem jPz.step {f : Nat → Int32} {n i c i1 c1 : Int} {k : Nat} (h : jPz f n k i c) (hk : 0 < k) (hi : i < n) (hc : c < 40) (e : i1 = jGap f n (jEn f n i)) (ec : c1 = c + 1) : jPz f n (k - 1) i1 c1 := by
  rcases h with ⟨h1, h2⟩ | ⟨h1, h2⟩
  · by_cases q : c = 39
    · refine Or.inr ⟨by omega, ?_⟩
      rw [← h2, jPn_s hk, if_pos hi, if_pos q]
    · exact Or.inl ⟨by omega, (jPn_m hk hi q e ec).trans h2⟩
  · omega
theorem jPz.end {f : Nat → Int32} {n i c : Int} {k : Nat} (h : jPz f n k i c) (hk : 0 < k) (hc : c = 40 ∨ n ≤ i) : c = jPar f n := by
  rcases h with ⟨h1, h2⟩ | ⟨h1, h2⟩
  · rw [← h2]; exact jPn_o hk (by omega) rfl
  · omega
def jVdc (b : Int → Int) (n r w : Int) (g : Nat → Int32) : Prop := (r = 0 ∧ 1500 < ((jTl b n).length : Int)) ∨ (r = 1 ∧ w = ((jTl b n).length : Int) ∧ jVtx g (jTl b n))
theorem jVdc.no {b : Int → Int} {n r w : Int} {g : Nat → Int32} (h : jVdc b n r w g) (hr : r = 0) : 1500 < ((jTl b n).length : Int) := by
  rcases h with ⟨a, c⟩ | ⟨a, c, d⟩
  · exact c
  · omega
/-- a batch on one side -/
def jVba (b : Int → Int) (p n r : Int) : Prop := ((n < 0 ∨ p < n) ∧ r = -1) ∨ (0 ≤ n ∧ n ≤ p ∧ jBa b n r)
theorem jVba.eq {f g : Nat → Int32} {p q n m r s : Int} (h : jTe f g p) (hf : jVba (jB8 f) p n r) (hg : jVba (jB8 g) q m s) (ep : q = p) (en : m = n) : r = s := by
  subst ep en
  rcases hf with ⟨a, c⟩ | ⟨a, c, d⟩
  · rcases hg with ⟨a1, c1⟩ | ⟨a1, c1, d1⟩
    · rw [c, c1]
    · omega
  · rcases hg with ⟨a1, c1⟩ | ⟨a1, c1, d1⟩
    · omega
    · exact d.uniq d1 rfl (fun j q0 q1 => h j q0 (by omega))
theorem jUc.r {b : Int → Int} {i n : Int} (h0 : 0 ≤ b i) : -1 ≤ jUc b i n ∧ jUc b i n ≤ 1114111 := by
  unfold jUc
  by_cases w : b i < 128
  · rw [if_pos w]; omega
  · rw [if_neg w]
    by_cases w2 : jUm (b i) = 0 ∨ n ≤ i + jUm (b i)
    · rw [if_pos w2]; omega
    · rw [if_neg w2]
      generalize jUr b (jUm (b i)).toNat (i + 1) (jU0 (b i) (jUm (b i))) = v
      unfold jUk
      by_cases w3 : v < 0 ∨ (jUm (b i) = 2 ∧ v < 2048) ∨ (jUm (b i) = 3 ∧ v < 65536) ∨ (55296 ≤ v ∧ v ≤ 57343) ∨ 1114111 < v
      · rw [if_pos w3]; omega
      · rw [if_neg w3]; omega
section JP1
variable {p : Program} {l : Launch} {e : Env} {R : Room} {s : State} {m : MethodId} {args : Array Value} {below : List Frame} {meth : Method} {c : Code} {H : Heap} {locs : List Loc} {cells slots : Nat} {Q : State → Prop}
variable {cc : ByteArray} {pc : Nat} {ls : Array Slot} {rest : List Value} {D : va_G} {cl : List vw_C} {A : Nat → Prop} {a : Nat} {tys : List (ClassId × FieldType)}
end JP1
section JP2
variable {p : Program} {l : Launch} {e : Env} {R : Room} {s : State} {m : MethodId} {args : Array Value} {below : List Frame} {meth : Method} {c : Code} {H : Heap} {locs : List Loc} {cells slots : Nat} {Q : State → Prop}
variable {cc : ByteArray} {pc : Nat} {ls : Array Slot} {rest : List Value} {dC : Nat → ClassId} {dI : Nat → Nat → Nat} {ca : Nat → ClassId} {B : jF} {base : Nat} {G0 G : jT} {E : List (Nat × Nat)} {H0 : Heap} {zc zs : Nat} {L : List jPin} {M : List jCt} {I : List jIv} {a k n : Nat} {cA : ClassId} {tys : List (ClassId × FieldType)}
end JP2
end
section
-- where a sign stands in a text
def jIxR (f : Nat → Int32) (c : Int32) (a b r : Int) : Prop := (r = -1 ∧ ∀ j : Int, a ≤ j → j < b → jSo f j ≠ c.toInt) ∨ (a ≤ r ∧ r < b ∧ jSo f r = c.toInt ∧ ∀ j : Int, a ≤ j → j < r → jSo f j ≠ c.toInt)
theorem jIxR.cg {f : Nat → Int32} {c : Int32} {a b r a1 b1 : Int} (h : jIxR f c a b r) (ea : a1 = a) (eb : b1 = b) : jIxR f c a1 b1 r := by rw [ea, eb]; exact h
end
