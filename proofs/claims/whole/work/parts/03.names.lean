abbrev zT (cA : Nat → ClassId) : List (ClassId × FieldType) := [(cA 0, .byte), (cA 1, .int), (cA 2, .long), (cA 3, .boolean), (cA 4, .object "PolicyHouse$Query"), (cA 5, .object "PolicyHouse$Tree"), (cA 6, .object "PolicyHouseModel$Values")]
def RX0 : String := "PolicyHouse$Builtins"
def TX0 : u_T := fun k => match k with
  | 0 => ("PolicyHouse$Builtins", "heap", "LPolicyHouse$Heap;", true)
  | 1 => ("PolicyHouse$Builtins", "texts", "LPolicyHouse$Texts;", true)
  | 2 => ("PolicyHouse$Builtins", "strings", "LPolicyHouse$Strings;", true)
  | 3 => ("PolicyHouse$Builtins", "arg", "[I", true)
  | 4 => ("PolicyHouse$Builtins", "spent", "I", false)
  | 5 => ("PolicyHouse$Builtins", "path", "[I", true)
  | 6 => ("PolicyHouse$Builtins", "from", "[I", true)
  | 7 => ("PolicyHouse$Builtins", "member", "[I", true)
  | _ => ("PolicyHouse$Builtins", "heavy", "I", false)
def RX1 : String := "PolicyHouse$Bundle"
def TX1 : u_T := fun k => match k with
  | 0 => ("PolicyHouse$Bundle", "mods", "[LPolicyHouse$Tree;", true)
  | 1 => ("PolicyHouse$Bundle", "count", "I", true)
  | 2 => ("PolicyHouse$Bundle", "rules", "I", false)
  | 3 => ("PolicyHouse$Bundle", "parts", "I", false)
  | 4 => ("PolicyHouse$Bundle", "rule", "[I", true)
  | 5 => ("PolicyHouse$Bundle", "part", "[I", true)
  | 6 => ("PolicyHouse$Bundle", "nodeRule", "[I", true)
  | 7 => ("PolicyHouse$Bundle", "inner", "[I", true)
  | 8 => ("PolicyHouse$Bundle", "words", "I", false)
  | 9 => ("PolicyHouse$Bundle", "reads", "[I", false)
  | 10 => ("PolicyHouse$Bundle", "rank", "[I", false)
  | 11 => ("PolicyHouse$Bundle", "branch", "[I", false)
  | 12 => ("PolicyHouse$Bundle", "code", "[I", false)
  | 13 => ("PolicyHouse$Bundle", "kind", "I", false)
  | 14 => ("PolicyHouse$Bundle", "module", "I", false)
  | _ => ("PolicyHouse$Bundle", "place", "I", false)
def RX2 : String := "PolicyHouse$Checker"
def TX2 : u_T := fun k => match k with
  | 0 => ("PolicyHouse$Checker", "heap", "LPolicyHouse$Heap;", true)
  | 1 => ("PolicyHouse$Checker", "names", "LPolicyHouse$Names;", true)
  | 2 => ("PolicyHouse$Checker", "b", "LPolicyHouse$Bundle;", false)
  | 3 => ("PolicyHouse$Checker", "t", "LPolicyHouse$Tree;", false)
  | 4 => ("PolicyHouse$Checker", "module", "I", false)
  | 5 => ("PolicyHouse$Checker", "declared", "[I", true)
  | 6 => ("PolicyHouse$Checker", "scopeOf", "[I", true)
  | 7 => ("PolicyHouse$Checker", "placeOf", "[I", true)
  | 8 => ("PolicyHouse$Checker", "count", "I", false)
  | 9 => ("PolicyHouse$Checker", "around", "[I", true)
  | 10 => ("PolicyHouse$Checker", "scopes", "I", false)
  | 11 => ("PolicyHouse$Checker", "badKind", "I", false)
  | 12 => ("PolicyHouse$Checker", "badPlace", "I", false)
  | 13 => ("PolicyHouse$Checker", "bits", "[I", true)
  | 14 => ("PolicyHouse$Checker", "direct", "[I", true)
  | _ => ("PolicyHouse$Checker", "all", "[I", true)
def tyX2 : Nat → FieldType := fun k => match k with
  | 0 => .object "PolicyHouse$Heap"
  | 1 => .object "PolicyHouse$Names"
  | 2 => .object "PolicyHouse$Bundle"
  | 3 => .object "PolicyHouse$Tree"
  | 4 => .int
  | 5 => .array .int
  | 6 => .array .int
  | 7 => .array .int
  | 8 => .int
  | 9 => .array .int
  | 10 => .int
  | 11 => .int
  | 12 => .int
  | 13 => .array .int
  | 14 => .array .int
  | _ => .array .int
abbrev wsX20 : List Cond := u_ws RX2 TX2 16
theorem nmX2 : ∀ a, a < 16 → ∀ b, b < 16 → a ≠ b → (TX2 a).2.1 ≠ (TX2 b).2.1 := by decide +kernel
theorem tyX2_ok : ∀ k, k < 16 → parseFieldDescriptor (TX2 k).2.2.1 = some (tyX2 k) := by decide +kernel
abbrev cX2_init : ByteArray := prog_4_method_1_code
def yX2_init : MethodName := ⟨RX2, "<init>", "(LPolicyHouse$Heap;LPolicyHouse$Names;)V"⟩
def RX3 : String := "PolicyHouse$Coder"
def TX3 : u_T := fun k => match k with
  | 0 => ("PolicyHouse$Coder", "heap", "LPolicyHouse$Heap;", true)
  | 1 => ("PolicyHouse$Coder", "names", "LPolicyHouse$Names;", true)
  | 2 => ("PolicyHouse$Coder", "checker", "LPolicyHouse$Checker;", true)
  | 3 => ("PolicyHouse$Coder", "b", "LPolicyHouse$Bundle;", false)
  | 4 => ("PolicyHouse$Coder", "t", "LPolicyHouse$Tree;", false)
  | 5 => ("PolicyHouse$Coder", "code", "[I", true)
  | 6 => ("PolicyHouse$Coder", "size", "I", false)
  | 7 => ("PolicyHouse$Coder", "registers", "I", false)
  | 8 => ("PolicyHouse$Coder", "owner", "I", false)
  | 9 => ("PolicyHouse$Coder", "known", "I", false)
  | 10 => ("PolicyHouse$Coder", "scope", "I", false)
  | 11 => ("PolicyHouse$Coder", "badKind", "I", false)
  | 12 => ("PolicyHouse$Coder", "badPlace", "I", false)
  | 13 => ("PolicyHouse$Coder", "ops", "[I", true)
  | _ => ("PolicyHouse$Coder", "used", "I", false)
def tyX3 : Nat → FieldType := fun k => match k with
  | 0 => .object "PolicyHouse$Heap"
  | 1 => .object "PolicyHouse$Names"
  | 2 => .object "PolicyHouse$Checker"
  | 3 => .object "PolicyHouse$Bundle"
  | 4 => .object "PolicyHouse$Tree"
  | 5 => .array .int
  | 6 => .int
  | 7 => .int
  | 8 => .int
  | 9 => .int
  | 10 => .int
  | 11 => .int
  | 12 => .int
  | 13 => .array .int
  | _ => .int
abbrev wsX30 : List Cond := u_ws RX3 TX3 15
theorem nmX3 : ∀ a, a < 15 → ∀ b, b < 15 → a ≠ b → (TX3 a).2.1 ≠ (TX3 b).2.1 := by decide +kernel
theorem tyX3_ok : ∀ k, k < 15 → parseFieldDescriptor (TX3 k).2.2.1 = some (tyX3 k) := by decide +kernel
abbrev cX3_init : ByteArray := prog_5_method_1_code
def yX3_init : MethodName := ⟨RX3, "<init>", "(LPolicyHouse$Heap;LPolicyHouse$Names;LPolicyHouse$Checker;)V"⟩
def RX4 : String := "PolicyHouse$Heap"
def TX4 : u_T := fun k => match k with
  | 0 => ("PolicyHouse$Heap", "cell", "[I", true)
  | 1 => ("PolicyHouse$Heap", "acc", "[I", true)
  | 2 => ("PolicyHouse$Heap", "spare", "[I", true)
  | 3 => ("PolicyHouse$Heap", "used", "I", false)
  | 4 => ("PolicyHouse$Heap", "kept", "I", false)
  | 5 => ("PolicyHouse$Heap", "top", "I", false)
  | 6 => ("PolicyHouse$Heap", "end", "I", false)
  | _ => ("PolicyHouse$Heap", "full", "Z", false)
def tyX4 : Nat → FieldType := fun k => match k with
  | 0 => .array .int
  | 1 => .array .int
  | 2 => .array .int
  | 3 => .int
  | 4 => .int
  | 5 => .int
  | 6 => .int
  | _ => .boolean
abbrev wsX40 : List Cond := u_ws RX4 TX4 8
theorem nmX4 : ∀ a, a < 8 → ∀ b, b < 8 → a ≠ b → (TX4 a).2.1 ≠ (TX4 b).2.1 := by decide +kernel
theorem tyX4_ok : ∀ k, k < 8 → parseFieldDescriptor (TX4 k).2.2.1 = some (tyX4 k) := by decide +kernel
abbrev cX4_init : ByteArray := prog_6_method_1_code
def yX4_init : MethodName := ⟨RX4, "<init>", "()V"⟩
abbrev cX4_room : ByteArray := prog_6_method_2_code
def yX4_room : MethodName := ⟨RX4, "room", "(I)I"⟩
abbrev cX4_reset : ByteArray := prog_6_method_3_code
def yX4_reset : MethodName := ⟨RX4, "reset", "(I)V"⟩
def RX5 : String := "PolicyHouse$Machine"
def TX5 : u_T := fun k => match k with
  | 0 => ("PolicyHouse$Machine", "heap", "LPolicyHouse$Heap;", true)
  | 1 => ("PolicyHouse$Machine", "scopes", "LPolicyHouse$Scopes;", true)
  | 2 => ("PolicyHouse$Machine", "builtins", "LPolicyHouse$Builtins;", true)
  | 3 => ("PolicyHouse$Machine", "regs", "[I", true)
  | 4 => ("PolicyHouse$Machine", "cp", "[I", true)
  | 5 => ("PolicyHouse$Machine", "choices", "I", false)
  | 6 => ("PolicyHouse$Machine", "pc", "I", false)
  | 7 => ("PolicyHouse$Machine", "fp", "I", false)
  | 8 => ("PolicyHouse$Machine", "top", "I", false)
  | 9 => ("PolicyHouse$Machine", "failing", "Z", false)
  | 10 => ("PolicyHouse$Machine", "stopped", "Z", false)
  | 11 => ("PolicyHouse$Machine", "pending", "Z", false)
  | 12 => ("PolicyHouse$Machine", "bundle", "LPolicyHouse$Bundle;", false)
  | 13 => ("PolicyHouse$Machine", "own", "[I", false)
  | 14 => ("PolicyHouse$Machine", "c", "[I", false)
  | 15 => ("PolicyHouse$Machine", "p", "I", false)
  | 16 => ("PolicyHouse$Machine", "scope", "I", false)
  | _ => ("PolicyHouse$Machine", "results", "I", false)
def tyX5 : Nat → FieldType := fun k => match k with
  | 0 => .object "PolicyHouse$Heap"
  | 1 => .object "PolicyHouse$Scopes"
  | 2 => .object "PolicyHouse$Builtins"
  | 3 => .array .int
  | 4 => .array .int
  | 5 => .int
  | 6 => .int
  | 7 => .int
  | 8 => .int
  | 9 => .boolean
  | 10 => .boolean
  | 11 => .boolean
  | 12 => .object "PolicyHouse$Bundle"
  | 13 => .array .int
  | 14 => .array .int
  | 15 => .int
  | 16 => .int
  | _ => .int
abbrev wsX50 : List Cond := u_ws RX5 TX5 18
theorem nmX5 : ∀ a, a < 18 → ∀ b, b < 18 → a ≠ b → (TX5 a).2.1 ≠ (TX5 b).2.1 := by decide +kernel
theorem tyX5_ok : ∀ k, k < 18 → parseFieldDescriptor (TX5 k).2.2.1 = some (tyX5 k) := by decide +kernel
abbrev cX5_init : ByteArray := prog_7_method_1_code
def yX5_init : MethodName := ⟨RX5, "<init>", "(LPolicyHouse$Heap;LPolicyHouse$Scopes;LPolicyHouse$Builtins;)V"⟩
def RX6 : String := "PolicyHouse$Names"
def TX6 : u_T := fun k => match k with
  | 0 => ("PolicyHouse$Names", "heap", "LPolicyHouse$Heap;", true)
  | 1 => ("PolicyHouse$Names", "table", "[I", true)
  | 2 => ("PolicyHouse$Names", "parent", "[I", true)
  | 3 => ("PolicyHouse$Names", "name", "[I", true)
  | 4 => ("PolicyHouse$Names", "child", "[I", true)
  | 5 => ("PolicyHouse$Names", "sibling", "[I", true)
  | 6 => ("PolicyHouse$Names", "nodes", "I", false)
  | 7 => ("PolicyHouse$Names", "words", "[I", true)
  | 8 => ("PolicyHouse$Names", "builtin", "[I", true)
  | 9 => ("PolicyHouse$Names", "kinds", "[I", true)
  | 10 => ("PolicyHouse$Names", "arity", "[I", true)
  | 11 => ("PolicyHouse$Names", "letters", "[I", true)
  | 12 => ("PolicyHouse$Names", "input", "I", true)
  | 13 => ("PolicyHouse$Names", "data", "I", true)
  | 14 => ("PolicyHouse$Names", "set", "I", true)
  | _ => ("PolicyHouse$Names", "blank", "I", true)
def RX7 : String := "PolicyHouse$Query"
def TX7 : u_T := fun k => match k with
  | 0 => ("PolicyHouse$Query", "tree", "LPolicyHouse$Tree;", true)
  | 1 => ("PolicyHouse$Query", "bundle", "LPolicyHouse$Bundle;", false)
  | 2 => ("PolicyHouse$Query", "value", "I", false)
  | 3 => ("PolicyHouse$Query", "frame", "I", false)
  | 4 => ("PolicyHouse$Query", "code", "[I", false)
  | 5 => ("PolicyHouse$Query", "reads", "[I", false)
  | _ => ("PolicyHouse$Query", "order", "[I", false)
def RX8 : String := "PolicyHouse$Reader"
def TX8 : u_T := fun k => match k with
  | 0 => ("PolicyHouse$Reader", "heap", "LPolicyHouse$Heap;", true)
  | 1 => ("PolicyHouse$Reader", "texts", "LPolicyHouse$Texts;", true)
  | 2 => ("PolicyHouse$Reader", "names", "LPolicyHouse$Names;", true)
  | 3 => ("PolicyHouse$Reader", "sort", "[I", true)
  | 4 => ("PolicyHouse$Reader", "place", "[I", true)
  | 5 => ("PolicyHouse$Reader", "gap", "[I", true)
  | 6 => ("PolicyHouse$Reader", "worth", "[I", true)
  | 7 => ("PolicyHouse$Reader", "bad", "I", false)
  | 8 => ("PolicyHouse$Reader", "tokens", "I", false)
  | 9 => ("PolicyHouse$Reader", "now", "I", false)
  | 10 => ("PolicyHouse$Reader", "deep", "I", false)
  | 11 => ("PolicyHouse$Reader", "wrong", "I", false)
  | 12 => ("PolicyHouse$Reader", "skipped", "I", false)
  | 13 => ("PolicyHouse$Reader", "stop", "I", false)
  | _ => ("PolicyHouse$Reader", "tree", "LPolicyHouse$Tree;", false)
def tyX8 : Nat → FieldType := fun k => match k with
  | 0 => .object "PolicyHouse$Heap"
  | 1 => .object "PolicyHouse$Texts"
  | 2 => .object "PolicyHouse$Names"
  | 3 => .array .int
  | 4 => .array .int
  | 5 => .array .int
  | 6 => .array .int
  | 7 => .int
  | 8 => .int
  | 9 => .int
  | 10 => .int
  | 11 => .int
  | 12 => .int
  | 13 => .int
  | _ => .object "PolicyHouse$Tree"
abbrev wsX80 : List Cond := u_ws RX8 TX8 15
theorem nmX8 : ∀ a, a < 15 → ∀ b, b < 15 → a ≠ b → (TX8 a).2.1 ≠ (TX8 b).2.1 := by decide +kernel
theorem tyX8_ok : ∀ k, k < 15 → parseFieldDescriptor (TX8 k).2.2.1 = some (tyX8 k) := by decide +kernel
abbrev cX8_init : ByteArray := prog_10_method_1_code
def yX8_init : MethodName := ⟨RX8, "<init>", "(LPolicyHouse$Heap;LPolicyHouse$Texts;LPolicyHouse$Names;)V"⟩
def RX9 : String := "PolicyHouse$Scopes"
def TX9 : u_T := fun k => match k with
  | 0 => ("PolicyHouse$Scopes", "heap", "LPolicyHouse$Heap;", true)
  | 1 => ("PolicyHouse$Scopes", "names", "LPolicyHouse$Names;", true)
  | 2 => ("PolicyHouse$Scopes", "bundle", "LPolicyHouse$Bundle;", false)
  | 3 => ("PolicyHouse$Scopes", "now", "I", false)
  | 4 => ("PolicyHouse$Scopes", "outNode", "I", false)
  | 5 => ("PolicyHouse$Scopes", "outValue", "I", false)
  | 6 => ("PolicyHouse$Scopes", "path", "[I", true)
  | 7 => ("PolicyHouse$Scopes", "need", "[I", true)
  | 8 => ("PolicyHouse$Scopes", "fuel", "I", false)
  | 9 => ("PolicyHouse$Scopes", "free", "Z", false)
  | 10 => ("PolicyHouse$Scopes", "strict", "Z", false)
  | 11 => ("PolicyHouse$Scopes", "limit", "Z", false)
  | 12 => ("PolicyHouse$Scopes", "notes", "I", false)
  | 13 => ("PolicyHouse$Scopes", "leastRule", "I", false)
  | 14 => ("PolicyHouse$Scopes", "leastBuiltin", "I", false)
  | _ => ("PolicyHouse$Scopes", "tries", "[I", true)
def tyX9 : Nat → FieldType := fun k => match k with
  | 0 => .object "PolicyHouse$Heap"
  | 1 => .object "PolicyHouse$Names"
  | 2 => .object "PolicyHouse$Bundle"
  | 3 => .int
  | 4 => .int
  | 5 => .int
  | 6 => .array .int
  | 7 => .array .int
  | 8 => .int
  | 9 => .boolean
  | 10 => .boolean
  | 11 => .boolean
  | 12 => .int
  | 13 => .int
  | 14 => .int
  | _ => .array .int
abbrev wsX90 : List Cond := u_ws RX9 TX9 16
theorem nmX9 : ∀ a, a < 16 → ∀ b, b < 16 → a ≠ b → (TX9 a).2.1 ≠ (TX9 b).2.1 := by decide +kernel
theorem tyX9_ok : ∀ k, k < 16 → parseFieldDescriptor (TX9 k).2.2.1 = some (tyX9 k) := by decide +kernel
abbrev cX9_init : ByteArray := prog_11_method_1_code
def yX9_init : MethodName := ⟨RX9, "<init>", "(LPolicyHouse$Heap;LPolicyHouse$Names;)V"⟩
def RX10 : String := "PolicyHouse$Strings"
def TX10 : u_T := fun k => match k with
  | 0 => ("PolicyHouse$Strings", "heap", "LPolicyHouse$Heap;", true)
  | 1 => ("PolicyHouse$Strings", "texts", "LPolicyHouse$Texts;", true)
  | 2 => ("PolicyHouse$Strings", "names", "LPolicyHouse$Names;", true)
  | 3 => ("PolicyHouse$Strings", "buf", "[I", true)
  | 4 => ("PolicyHouse$Strings", "size", "I", false)
  | 5 => ("PolicyHouse$Strings", "over", "Z", false)
  | 6 => ("PolicyHouse$Strings", "code", "[I", true)
  | 7 => ("PolicyHouse$Strings", "jump", "[I", true)
  | 8 => ("PolicyHouse$Strings", "mark", "[I", true)
  | 9 => ("PolicyHouse$Strings", "here", "[I", true)
  | 10 => ("PolicyHouse$Strings", "there", "[I", true)
  | 11 => ("PolicyHouse$Strings", "stack", "[I", true)
  | 12 => ("PolicyHouse$Strings", "length", "I", false)
  | 13 => ("PolicyHouse$Strings", "sets", "[I", true)
  | 14 => ("PolicyHouse$Strings", "count", "I", false)
  | 15 => ("PolicyHouse$Strings", "pos", "I", false)
  | 16 => ("PolicyHouse$Strings", "end", "I", false)
  | 17 => ("PolicyHouse$Strings", "bad", "Z", false)
  | _ => ("PolicyHouse$Strings", "threads", "I", false)
def tyX10 : Nat → FieldType := fun k => match k with
  | 0 => .object "PolicyHouse$Heap"
  | 1 => .object "PolicyHouse$Texts"
  | 2 => .object "PolicyHouse$Names"
  | 3 => .array .int
  | 4 => .int
  | 5 => .boolean
  | 6 => .array .int
  | 7 => .array .int
  | 8 => .array .int
  | 9 => .array .int
  | 10 => .array .int
  | 11 => .array .int
  | 12 => .int
  | 13 => .array .int
  | 14 => .int
  | 15 => .int
  | 16 => .int
  | 17 => .boolean
  | _ => .int
abbrev wsX100 : List Cond := u_ws RX10 TX10 19
theorem nmX10 : ∀ a, a < 19 → ∀ b, b < 19 → a ≠ b → (TX10 a).2.1 ≠ (TX10 b).2.1 := by decide +kernel
theorem tyX10_ok : ∀ k, k < 19 → parseFieldDescriptor (TX10 k).2.2.1 = some (tyX10 k) := by decide +kernel
abbrev cX10_init : ByteArray := prog_12_method_1_code
def yX10_init : MethodName := ⟨RX10, "<init>", "(LPolicyHouse$Heap;LPolicyHouse$Texts;LPolicyHouse$Names;)V"⟩
def RX11 : String := "PolicyHouse$Texts"
def TX11 : u_T := fun k => match k with
  | 0 => ("PolicyHouse$Texts", "heap", "LPolicyHouse$Heap;", true)
  | 1 => ("PolicyHouse$Texts", "in", "[I", false)
  | 2 => ("PolicyHouse$Texts", "to", "I", false)
  | 3 => ("PolicyHouse$Texts", "pos", "I", false)
  | 4 => ("PolicyHouse$Texts", "wrong", "I", false)
  | 5 => ("PolicyHouse$Texts", "stop", "I", false)
  | 6 => ("PolicyHouse$Texts", "value", "J", false)
  | 7 => ("PolicyHouse$Texts", "buf", "[I", true)
  | 8 => ("PolicyHouse$Texts", "size", "I", false)
  | 9 => ("PolicyHouse$Texts", "out", "[I", true)
  | 10 => ("PolicyHouse$Texts", "length", "I", false)
  | 11 => ("PolicyHouse$Texts", "limit", "I", false)
  | _ => ("PolicyHouse$Texts", "over", "Z", false)
def tyX11 : Nat → FieldType := fun k => match k with
  | 0 => .object "PolicyHouse$Heap"
  | 1 => .array .int
  | 2 => .int
  | 3 => .int
  | 4 => .int
  | 5 => .int
  | 6 => .long
  | 7 => .array .int
  | 8 => .int
  | 9 => .array .int
  | 10 => .int
  | 11 => .int
  | _ => .boolean
abbrev wsX110 : List Cond := u_ws RX11 TX11 13
theorem nmX11 : ∀ a, a < 13 → ∀ b, b < 13 → a ≠ b → (TX11 a).2.1 ≠ (TX11 b).2.1 := by decide +kernel
theorem tyX11_ok : ∀ k, k < 13 → parseFieldDescriptor (TX11 k).2.2.1 = some (tyX11 k) := by decide +kernel
abbrev cX11_init : ByteArray := prog_13_method_1_code
def yX11_init : MethodName := ⟨RX11, "<init>", "(LPolicyHouse$Heap;)V"⟩
def RX12 : String := "PolicyHouse$Tree"
def TX12 : u_T := fun k => match k with
  | 0 => ("PolicyHouse$Tree", "kind", "[I", true)
  | 1 => ("PolicyHouse$Tree", "at", "[I", true)
  | 2 => ("PolicyHouse$Tree", "a", "[I", true)
  | 3 => ("PolicyHouse$Tree", "b", "[I", true)
  | 4 => ("PolicyHouse$Tree", "c", "[I", true)
  | 5 => ("PolicyHouse$Tree", "first", "[I", true)
  | 6 => ("PolicyHouse$Tree", "next", "[I", true)
  | 7 => ("PolicyHouse$Tree", "last", "[I", true)
  | 8 => ("PolicyHouse$Tree", "res", "[I", true)
  | 9 => ("PolicyHouse$Tree", "ref", "[I", true)
  | 10 => ("PolicyHouse$Tree", "size", "I", false)
  | 11 => ("PolicyHouse$Tree", "pack", "I", false)
  | 12 => ("PolicyHouse$Tree", "root", "I", false)
  | 13 => ("PolicyHouse$Tree", "imports", "I", false)
  | _ => ("PolicyHouse$Tree", "rules", "I", false)
def RX13 : String := "PolicyHouse"
def TX13 : u_T := fun k => match k with
  | 0 => ("PolicyHouse", "heap", "LPolicyHouse$Heap;", true)
  | 1 => ("PolicyHouse", "texts", "LPolicyHouse$Texts;", true)
  | 2 => ("PolicyHouse", "names", "LPolicyHouse$Names;", true)
  | 3 => ("PolicyHouse", "reader", "LPolicyHouse$Reader;", true)
  | 4 => ("PolicyHouse", "checker", "LPolicyHouse$Checker;", true)
  | 5 => ("PolicyHouse", "coder", "LPolicyHouse$Coder;", true)
  | 6 => ("PolicyHouse", "scopes", "LPolicyHouse$Scopes;", true)
  | 7 => ("PolicyHouse", "machine", "LPolicyHouse$Machine;", true)
  | 8 => ("PolicyHouse", "tape", "[I", true)
  | 9 => ("PolicyHouse", "taped", "I", false)
  | 10 => ("PolicyHouse", "feeds", "I", false)
  | 11 => ("PolicyHouse", "draft", "[LPolicyHouse$Tree;", true)
  | 12 => ("PolicyHouse", "drafts", "I", false)
  | 13 => ("PolicyHouse", "built", "LPolicyHouse$Bundle;", false)
  | 14 => ("PolicyHouse", "active", "LPolicyHouse$Bundle;", false)
  | 15 => ("PolicyHouse", "queries", "[LPolicyHouse$Query;", true)
  | 16 => ("PolicyHouse", "found", "[I", true)
  | 17 => ("PolicyHouse", "data", "I", false)
  | 18 => ("PolicyHouse", "input", "I", false)
  | 19 => ("PolicyHouse", "ranData", "I", false)
  | 20 => ("PolicyHouse", "ranInput", "I", false)
  | 21 => ("PolicyHouse", "shown", "[I", true)
  | _ => ("PolicyHouse", "bytes", "I", false)
def RX14 : String := "PolicyHouseModel$Limit"
def TX14 : u_T := fun k => match k with
  | 0 => ("java/lang/Throwable", "cause", "Ljava/lang/Throwable;", false)
  | 1 => ("java/lang/Throwable", "stackTrace", "[Ljava/lang/StackTraceElement;", false)
  | 2 => ("java/lang/Throwable", "suppressedExceptions", "Ljava/util/List;", false)
  | 3 => ("java/lang/Throwable", "detailMessage", "Ljava/lang/String;", false)
  | 4 => ("java/lang/Throwable", "backtrace", "Ljava/lang/Object;", false)
  | _ => ("java/lang/Throwable", "depth", "I", false)
def RX15 : String := "PolicyHouseModel$Values"
def TX15 : u_T := fun k => match k with
  | 0 => ("PolicyHouseModel$Values", "info", "[J", false)
  | 1 => ("PolicyHouseModel$Values", "pool", "[I", false)
  | 2 => ("PolicyHouseModel$Values", "bytes", "[B", false)
  | 3 => ("PolicyHouseModel$Values", "count", "I", false)
  | 4 => ("PolicyHouseModel$Values", "pooled", "I", false)
  | 5 => ("PolicyHouseModel$Values", "written", "I", false)
  | 6 => ("PolicyHouseModel$Values", "sorted", "[I", true)
  | _ => ("PolicyHouseModel$Values", "other", "[I", true)
def RX16 : String := "PolicyHouseModel"
def TX16 : u_T := fun k => match k with
  | 0 => ("PolicyHouseModel", "letters", "[B", true)
  | 1 => ("PolicyHouseModel", "letterCount", "I", false)
  | 2 => ("PolicyHouseModel", "textWrong", "I", false)
  | 3 => ("PolicyHouseModel", "numValue", "J", false)
  | 4 => ("PolicyHouseModel", "into", "LPolicyHouseModel$Values;", false)
  | 5 => ("PolicyHouseModel", "json", "[B", false)
  | 6 => ("PolicyHouseModel", "jsonAt", "I", false)
  | 7 => ("PolicyHouseModel", "jsonEnd", "I", false)
  | 8 => ("PolicyHouseModel", "stack", "[I", true)
  | 9 => ("PolicyHouseModel", "top", "I", false)
  | 10 => ("PolicyHouseModel", "out", "[B", false)
  | 11 => ("PolicyHouseModel", "work", "[B", true)
  | 12 => ("PolicyHouseModel", "sink", "[B", false)
  | 13 => ("PolicyHouseModel", "outSize", "I", false)
  | 14 => ("PolicyHouseModel", "outMost", "I", false)
  | 15 => ("PolicyHouseModel", "outputSize", "I", false)
  | 16 => ("PolicyHouseModel", "nameBytes", "[B", true)
  | 17 => ("PolicyHouseModel", "nameFrom", "[I", true)
  | 18 => ("PolicyHouseModel", "nameNext", "[I", true)
  | 19 => ("PolicyHouseModel", "bucket", "[I", true)
  | 20 => ("PolicyHouseModel", "names", "I", false)
  | 21 => ("PolicyHouseModel", "source", "[B", false)
  | 22 => ("PolicyHouseModel", "sourceEnd", "I", false)
  | 23 => ("PolicyHouseModel", "tokenKind", "I", false)
  | 24 => ("PolicyHouseModel", "token", "I", false)
  | 25 => ("PolicyHouseModel", "tokenAt", "I", false)
  | 26 => ("PolicyHouseModel", "tokenEnd", "I", false)
  | 27 => ("PolicyHouseModel", "tokenWrong", "I", false)
  | 28 => ("PolicyHouseModel", "wrong", "I", false)
  | 29 => ("PolicyHouseModel", "blankAhead", "Z", false)
  | 30 => ("PolicyHouseModel", "lineAhead", "Z", false)
  | 31 => ("PolicyHouseModel", "kind", "[I", true)
  | 32 => ("PolicyHouseModel", "place", "[I", true)
  | 33 => ("PolicyHouseModel", "a", "[I", true)
  | 34 => ("PolicyHouseModel", "b", "[I", true)
  | 35 => ("PolicyHouseModel", "c", "[I", true)
  | 36 => ("PolicyHouseModel", "next", "[I", true)
  | 37 => ("PolicyHouseModel", "nodes", "I", false)
  | 38 => ("PolicyHouseModel", "constKind", "[I", true)
  | 39 => ("PolicyHouseModel", "constFrom", "[I", true)
  | 40 => ("PolicyHouseModel", "constNum", "[J", true)
  | 41 => ("PolicyHouseModel", "constBytes", "[B", true)
  | 42 => ("PolicyHouseModel", "consts", "I", false)
  | 43 => ("PolicyHouseModel", "bodyFirst", "[I", true)
  | 44 => ("PolicyHouseModel", "bodyAround", "[I", true)
  | 45 => ("PolicyHouseModel", "bodyUnit", "[I", true)
  | 46 => ("PolicyHouseModel", "bodyPlace", "[I", true)
  | 47 => ("PolicyHouseModel", "bodyMany", "[I", true)
  | 48 => ("PolicyHouseModel", "bodies", "I", false)
  | 49 => ("PolicyHouseModel", "brackets", "I", false)
  | 50 => ("PolicyHouseModel", "unit", "I", false)
  | 51 => ("PolicyHouseModel", "constantly", "Z", false)
  | 52 => ("PolicyHouseModel", "underName", "I", false)
  | 53 => ("PolicyHouseModel", "setName", "I", false)
  | 54 => ("PolicyHouseModel", "inputName", "I", false)
  | 55 => ("PolicyHouseModel", "dataName", "I", false)
  | 56 => ("PolicyHouseModel", "modules", "I", false)
  | 57 => ("PolicyHouseModel", "packageOf", "[I", true)
  | 58 => ("PolicyHouseModel", "importModule", "[I", true)
  | 59 => ("PolicyHouseModel", "importPlace", "[I", true)
  | 60 => ("PolicyHouseModel", "importAlias", "[I", true)
  | 61 => ("PolicyHouseModel", "importRoot", "[I", true)
  | 62 => ("PolicyHouseModel", "importPath", "[I", true)
  | 63 => ("PolicyHouseModel", "imports", "I", false)
  | 64 => ("PolicyHouseModel", "partModule", "[I", true)
  | 65 => ("PolicyHouseModel", "partPlace", "[I", true)
  | 66 => ("PolicyHouseModel", "partSort", "[I", true)
  | 67 => ("PolicyHouseModel", "partName", "[I", true)
  | 68 => ("PolicyHouseModel", "partParameters", "[I", true)
  | 69 => ("PolicyHouseModel", "partMany", "[I", true)
  | 70 => ("PolicyHouseModel", "partKey", "[I", true)
  | 71 => ("PolicyHouseModel", "partBranch", "[I", true)
  | 72 => ("PolicyHouseModel", "parts", "I", false)
  | 73 => ("PolicyHouseModel", "ruleOfPart", "[I", true)
  | 74 => ("PolicyHouseModel", "ruleFirst", "[I", true)
  | 75 => ("PolicyHouseModel", "ruleSort", "[I", true)
  | 76 => ("PolicyHouseModel", "ruleParts", "[I", true)
  | 77 => ("PolicyHouseModel", "ruleMany", "[I", true)
  | 78 => ("PolicyHouseModel", "rules", "I", false)
  | 79 => ("PolicyHouseModel", "rulePath", "[I", true)
  | 80 => ("PolicyHouseModel", "ruleLength", "[I", true)
  | 81 => ("PolicyHouseModel", "packagePath", "[I", true)
  | 82 => ("PolicyHouseModel", "packageLength", "[I", true)
  | 83 => ("PolicyHouseModel", "faultKind", "I", false)
  | 84 => ("PolicyHouseModel", "faultModule", "I", false)
  | 85 => ("PolicyHouseModel", "faultPlace", "I", false)
  | 86 => ("PolicyHouseModel", "how", "[I", true)
  | 87 => ("PolicyHouseModel", "which", "[I", true)
  | 88 => ("PolicyHouseModel", "varCount", "[I", true)
  | 89 => ("PolicyHouseModel", "varBody", "[I", true)
  | 90 => ("PolicyHouseModel", "declName", "[I", true)
  | 91 => ("PolicyHouseModel", "declPlace", "[I", true)
  | 92 => ("PolicyHouseModel", "declBody", "[I", true)
  | 93 => ("PolicyHouseModel", "decls", "I", false)
  | 94 => ("PolicyHouseModel", "firstKind", "I", false)
  | 95 => ("PolicyHouseModel", "firstPlace", "I", false)
  | 96 => ("PolicyHouseModel", "callPath", "[I", true)
  | 97 => ("PolicyHouseModel", "readsAll", "[J", true)
  | 98 => ("PolicyHouseModel", "readsSo", "[J", true)
  | 99 => ("PolicyHouseModel", "depends", "[J", true)
  | 100 => ("PolicyHouseModel", "gathered", "[J", true)
  | 101 => ("PolicyHouseModel", "level", "[I", true)
  | 102 => ("PolicyHouseModel", "withDepth", "[I", true)
  | 103 => ("PolicyHouseModel", "readPath", "[I", true)
  | 104 => ("PolicyHouseModel", "gatherAll", "Z", false)
  | 105 => ("PolicyHouseModel", "rightFirst", "[Z", true)
  | 106 => ("PolicyHouseModel", "ordered", "[I", true)
  | 107 => ("PolicyHouseModel", "orderFrom", "[I", true)
  | 108 => ("PolicyHouseModel", "orders", "I", false)
  | 109 => ("PolicyHouseModel", "orderUnit", "I", false)
  | 110 => ("PolicyHouseModel", "isPlaced", "[Z", true)
  | 111 => ("PolicyHouseModel", "varName", "[I", true)
  | 112 => ("PolicyHouseModel", "run", "LPolicyHouseModel$Values;", true)
  | 113 => ("PolicyHouseModel", "constValue", "[I", true)
  | 114 => ("PolicyHouseModel", "nameValue", "[I", true)
  | 115 => ("PolicyHouseModel", "scope", "I", false)
  | 116 => ("PolicyHouseModel", "fuel", "I", false)
  | 117 => ("PolicyHouseModel", "notedRule", "I", false)
  | 118 => ("PolicyHouseModel", "notedBuiltIn", "I", false)
  | 119 => ("PolicyHouseModel", "owner", "I", false)
  | 120 => ("PolicyHouseModel", "width", "I", false)
  | 121 => ("PolicyHouseModel", "notedGreat", "Z", false)
  | 122 => ("PolicyHouseModel", "notedConflict", "Z", false)
  | 123 => ("PolicyHouseModel", "notedNone", "Z", false)
  | 124 => ("PolicyHouseModel", "isStrict", "Z", false)
  | 125 => ("PolicyHouseModel", "scopeInput", "[I", true)
  | 126 => ("PolicyHouseModel", "tries", "[I", true)
  | 127 => ("PolicyHouseModel", "replaced", "[I", true)
  | 128 => ("PolicyHouseModel", "replacedName", "[I", true)
  | 129 => ("PolicyHouseModel", "replacedValue", "[I", true)
  | 130 => ("PolicyHouseModel", "dataValue", "I", false)
  | 131 => ("PolicyHouseModel", "docState", "[I", true)
  | 132 => ("PolicyHouseModel", "docValue", "[I", true)
  | 133 => ("PolicyHouseModel", "firstDoc", "[I", true)
  | 134 => ("PolicyHouseModel", "isMade", "[Z", true)
  | 135 => ("PolicyHouseModel", "standardValue", "[I", true)
  | 136 => ("PolicyHouseModel", "isStandardMade", "[Z", true)
  | 137 => ("PolicyHouseModel", "rowEnv", "[I", true)
  | 138 => ("PolicyHouseModel", "rowValue", "[I", true)
  | 139 => ("PolicyHouseModel", "outEnv", "[I", true)
  | 140 => ("PolicyHouseModel", "outValue", "[I", true)
  | 141 => ("PolicyHouseModel", "env", "[J", true)
  | 142 => ("PolicyHouseModel", "rowTop", "I", false)
  | 143 => ("PolicyHouseModel", "outTop", "I", false)
  | 144 => ("PolicyHouseModel", "envTop", "I", false)
  | 145 => ("PolicyHouseModel", "stepFrom", "[I", true)
  | 146 => ("PolicyHouseModel", "stepEnd", "[I", true)
  | 147 => ("PolicyHouseModel", "stepAt", "[I", true)
  | 148 => ("PolicyHouseModel", "stepEnv", "[I", true)
  | 149 => ("PolicyHouseModel", "tuple", "[I", true)
  | 150 => ("PolicyHouseModel", "stepPart", "[I", true)
  | 151 => ("PolicyHouseModel", "stepSecond", "[Z", true)
  | 152 => ("PolicyHouseModel", "stepTop", "I", false)
  | 153 => ("PolicyHouseModel", "tupleTop", "I", false)
  | 154 => ("PolicyHouseModel", "trieName", "[I", true)
  | 155 => ("PolicyHouseModel", "trieFirst", "[I", true)
  | 156 => ("PolicyHouseModel", "trieNext", "[I", true)
  | 157 => ("PolicyHouseModel", "trieRule", "[I", true)
  | 158 => ("PolicyHouseModel", "trieCount", "I", false)
  | 159 => ("PolicyHouseModel", "trieBase", "[I", true)
  | 160 => ("PolicyHouseModel", "isTooGreat", "Z", false)
  | 161 => ("PolicyHouseModel", "keyBefore", "[I", true)
  | 162 => ("PolicyHouseModel", "keyPlace", "[I", true)
  | 163 => ("PolicyHouseModel", "keyTop", "I", false)
  | 164 => ("PolicyHouseModel", "needs", "[J", true)
  | 165 => ("PolicyHouseModel", "strFrom", "I", false)
  | 166 => ("PolicyHouseModel", "here", "LPolicyHouseModel$Values;", false)
  | 167 => ("PolicyHouseModel", "beside", "LPolicyHouseModel$Values;", false)
  | 168 => ("PolicyHouseModel", "texts", "LPolicyHouseModel$Values;", true)
  | 169 => ("PolicyHouseModel", "rootValue", "I", false)
  | 170 => ("PolicyHouseModel", "pointer", "[B", true)
  | 171 => ("PolicyHouseModel", "nameStart", "[I", true)
  | 172 => ("PolicyHouseModel", "pointerNames", "I", false)
  | 173 => ("PolicyHouseModel", "pOp", "[I", true)
  | 174 => ("PolicyHouseModel", "pOne", "[I", true)
  | 175 => ("PolicyHouseModel", "pTwo", "[I", true)
  | 176 => ("PolicyHouseModel", "pMark", "[I", true)
  | 177 => ("PolicyHouseModel", "pList", "[I", true)
  | 178 => ("PolicyHouseModel", "pNext", "[I", true)
  | 179 => ("PolicyHouseModel", "pPile", "[I", true)
  | 180 => ("PolicyHouseModel", "pSize", "I", false)
  | 181 => ("PolicyHouseModel", "pMarked", "I", false)
  | 182 => ("PolicyHouseModel", "classBits", "[J", true)
  | 183 => ("PolicyHouseModel", "classes", "I", false)
  | 184 => ("PolicyHouseModel", "xKind", "[I", true)
  | 185 => ("PolicyHouseModel", "xFirst", "[I", true)
  | 186 => ("PolicyHouseModel", "xLeast", "[I", true)
  | 187 => ("PolicyHouseModel", "xMost", "[I", true)
  | 188 => ("PolicyHouseModel", "xNext", "[I", true)
  | 189 => ("PolicyHouseModel", "xCount", "I", false)
  | 190 => ("PolicyHouseModel", "patternAt", "I", false)
  | 191 => ("PolicyHouseModel", "patternEnd", "I", false)
  | 192 => ("PolicyHouseModel", "patternOf", "I", false)
  | 193 => ("PolicyHouseModel", "noPattern", "Z", false)
  | 194 => ("PolicyHouseModel", "listed", "I", false)
  | 195 => ("PolicyHouseModel", "starClass", "I", false)
  | 196 => ("PolicyHouseModel", "anyClass", "I", false)
  | 197 => ("PolicyHouseModel", "readAt", "I", false)
  | 198 => ("PolicyHouseModel", "readEnd", "I", false)
  | 199 => ("PolicyHouseModel", "readOf", "I", false)
  | 200 => ("PolicyHouseModel", "isMisread", "Z", false)
  | 201 => ("PolicyHouseModel", "bitsOf", "I", false)
  | 202 => ("PolicyHouseModel", "versionAt", "[I", true)
  | 203 => ("PolicyHouseModel", "earlyEnd", "I", false)
  | 204 => ("PolicyHouseModel", "walkWeight", "I", false)
  | 205 => ("PolicyHouseModel", "walkPath", "[I", false)
  | 206 => ("PolicyHouseModel", "moduleText", "[J", true)
  | 207 => ("PolicyHouseModel", "queryText", "[B", true)
  | 208 => ("PolicyHouseModel", "piece", "[B", true)
  | 209 => ("PolicyHouseModel", "moduleLength", "[I", true)
  | 210 => ("PolicyHouseModel", "moduleMany", "[I", true)
  | 211 => ("PolicyHouseModel", "stamp", "[I", true)
  | 212 => ("PolicyHouseModel", "queryLength", "[I", true)
  | 213 => ("PolicyHouseModel", "isPrepared", "[Z", true)
  | 214 => ("PolicyHouseModel", "stamps", "I", false)
  | 215 => ("PolicyHouseModel", "loaded", "I", false)
  | 216 => ("PolicyHouseModel", "bundleKind", "I", false)
  | 217 => ("PolicyHouseModel", "bundleModule", "I", false)
  | 218 => ("PolicyHouseModel", "bundlePlace", "I", false)
  | 219 => ("PolicyHouseModel", "markNodes", "I", false)
  | 220 => ("PolicyHouseModel", "markConsts", "I", false)
  | 221 => ("PolicyHouseModel", "markBodies", "I", false)
  | 222 => ("PolicyHouseModel", "markOrders", "I", false)
  | 223 => ("PolicyHouseModel", "lastKind", "I", false)
  | 224 => ("PolicyHouseModel", "lastModule", "I", false)
  | 225 => ("PolicyHouseModel", "lastPlace", "I", false)
  | 226 => ("PolicyHouseModel", "queryBody", "I", false)
  | 227 => ("PolicyHouseModel", "thrown", "I", false)
  | 228 => ("PolicyHouseModel", "tape", "[B", true)
  | 229 => ("PolicyHouseModel", "tapeSize", "I", false)
  | 230 => ("PolicyHouseModel", "data", "LPolicyHouseModel$Values;", true)
  | 231 => ("PolicyHouseModel", "input", "LPolicyHouseModel$Values;", true)
  | 232 => ("PolicyHouseModel", "queryData", "[LPolicyHouseModel$Values;", true)
  | 233 => ("PolicyHouseModel", "queryRoot", "[I", true)
  | 234 => ("PolicyHouseModel", "results", "[I", true)
  | 235 => ("PolicyHouseModel", "dataRoot", "I", false)
  | 236 => ("PolicyHouseModel", "inputRoot", "I", false)
  | 237 => ("PolicyHouseModel", "resultCount", "I", false)
  | 238 => ("PolicyHouseModel", "runKind", "I", false)
  | 239 => ("PolicyHouseModel", "runDetail", "I", false)
  | 240 => ("PolicyHouseModel", "runFuel", "I", false)
  | 241 => ("PolicyHouseModel", "runRules", "I", false)
  | _ => ("PolicyHouseModel", "hasRun", "Z", false)
def wsX4_room : List Cond := .code yX4_room cX4_room 3 (some .int) :: ([.fieldLink RX4 29 "PolicyHouse$Heap" "top" "I", .fieldLink RX4 33 "PolicyHouse$Heap" "end" "I", .fieldLink RX4 36 "PolicyHouse$Heap" "full" "Z", .constant RX4 32 (820000), .constant RX4 9 (886000)] ++ wsX40)
def wsX2_init : List Cond := .code yX2_init cX2_init 3 none :: ([.methodLink RX2 1 objectInit, .instanceMethod objectInit, .code objectInit ⟨#[0xb1]⟩ 1 none, .fieldLink RX2 7 "PolicyHouse$Checker" "b" "LPolicyHouse$Bundle;", .fieldLink RX2 13 "PolicyHouse$Checker" "t" "LPolicyHouse$Tree;", .fieldLink RX2 17 "PolicyHouse$Checker" "module" "I", .arrayClass .int, .fieldLink RX2 21 "PolicyHouse$Checker" "declared" "[I", .fieldLink RX2 25 "PolicyHouse$Checker" "scopeOf" "[I", .fieldLink RX2 28 "PolicyHouse$Checker" "placeOf" "[I", .fieldLink RX2 31 "PolicyHouse$Checker" "count" "I", .fieldLink RX2 34 "PolicyHouse$Checker" "around" "[I", .fieldLink RX2 37 "PolicyHouse$Checker" "scopes" "I", .fieldLink RX2 40 "PolicyHouse$Checker" "badKind" "I", .fieldLink RX2 43 "PolicyHouse$Checker" "badPlace" "I", .fieldLink RX2 46 "PolicyHouse$Checker" "bits" "[I", .fieldLink RX2 49 "PolicyHouse$Checker" "direct" "[I", .fieldLink RX2 52 "PolicyHouse$Checker" "all" "[I", .fieldLink RX2 55 "PolicyHouse$Checker" "heap" "LPolicyHouse$Heap;", .fieldLink RX2 59 "PolicyHouse$Checker" "names" "LPolicyHouse$Names;"] ++ wsX20)
def wsX3_init : List Cond := .code yX3_init cX3_init 4 none :: ([.methodLink RX3 1 objectInit, .instanceMethod objectInit, .code objectInit ⟨#[0xb1]⟩ 1 none, .fieldLink RX3 7 "PolicyHouse$Coder" "b" "LPolicyHouse$Bundle;", .fieldLink RX3 13 "PolicyHouse$Coder" "t" "LPolicyHouse$Tree;", .constant RX3 17 (80000), .arrayClass .int, .fieldLink RX3 18 "PolicyHouse$Coder" "code" "[I", .fieldLink RX3 22 "PolicyHouse$Coder" "size" "I", .fieldLink RX3 26 "PolicyHouse$Coder" "registers" "I", .fieldLink RX3 29 "PolicyHouse$Coder" "owner" "I", .fieldLink RX3 32 "PolicyHouse$Coder" "known" "I", .fieldLink RX3 35 "PolicyHouse$Coder" "scope" "I", .fieldLink RX3 38 "PolicyHouse$Coder" "badKind" "I", .fieldLink RX3 41 "PolicyHouse$Coder" "badPlace" "I", .fieldLink RX3 44 "PolicyHouse$Coder" "ops" "[I", .fieldLink RX3 47 "PolicyHouse$Coder" "used" "I", .fieldLink RX3 50 "PolicyHouse$Coder" "heap" "LPolicyHouse$Heap;", .fieldLink RX3 54 "PolicyHouse$Coder" "names" "LPolicyHouse$Names;", .fieldLink RX3 58 "PolicyHouse$Coder" "checker" "LPolicyHouse$Checker;"] ++ wsX30)
def wsX4_init : List Cond := .code yX4_init cX4_init 1 none :: ([.methodLink RX4 1 objectInit, .instanceMethod objectInit, .code objectInit ⟨#[0xb1]⟩ 1 none, .constant RX4 9 (886000), .arrayClass .int, .fieldLink RX4 10 "PolicyHouse$Heap" "cell" "[I", .constant RX4 14 (90000), .fieldLink RX4 15 "PolicyHouse$Heap" "acc" "[I", .fieldLink RX4 18 "PolicyHouse$Heap" "spare" "[I", .fieldLink RX4 21 "PolicyHouse$Heap" "used" "I", .fieldLink RX4 25 "PolicyHouse$Heap" "kept" "I", .constant RX4 28 (258000), .fieldLink RX4 29 "PolicyHouse$Heap" "top" "I", .constant RX4 32 (820000), .fieldLink RX4 33 "PolicyHouse$Heap" "end" "I", .fieldLink RX4 36 "PolicyHouse$Heap" "full" "Z"] ++ wsX40)
def wsX4_reset : List Cond := .code yX4_reset cX4_reset 2 none :: ([.fieldLink RX4 29 "PolicyHouse$Heap" "top" "I", .constant RX4 32 (820000), .fieldLink RX4 33 "PolicyHouse$Heap" "end" "I", .fieldLink RX4 36 "PolicyHouse$Heap" "full" "Z", .fieldLink RX4 21 "PolicyHouse$Heap" "used" "I"] ++ wsX40)
def wsX5_init : List Cond := .code yX5_init cX5_init 4 none :: ([.methodLink RX5 1 objectInit, .instanceMethod objectInit, .code objectInit ⟨#[0xb1]⟩ 1 none, .arrayClass .int, .fieldLink RX5 7 "PolicyHouse$Machine" "regs" "[I", .constant RX5 13 (58500), .fieldLink RX5 14 "PolicyHouse$Machine" "cp" "[I", .fieldLink RX5 17 "PolicyHouse$Machine" "choices" "I", .fieldLink RX5 21 "PolicyHouse$Machine" "pc" "I", .fieldLink RX5 24 "PolicyHouse$Machine" "fp" "I", .fieldLink RX5 27 "PolicyHouse$Machine" "top" "I", .fieldLink RX5 30 "PolicyHouse$Machine" "failing" "Z", .fieldLink RX5 34 "PolicyHouse$Machine" "stopped" "Z", .fieldLink RX5 37 "PolicyHouse$Machine" "pending" "Z", .fieldLink RX5 40 "PolicyHouse$Machine" "bundle" "LPolicyHouse$Bundle;", .fieldLink RX5 44 "PolicyHouse$Machine" "own" "[I", .fieldLink RX5 47 "PolicyHouse$Machine" "c" "[I", .fieldLink RX5 50 "PolicyHouse$Machine" "p" "I", .fieldLink RX5 53 "PolicyHouse$Machine" "scope" "I", .fieldLink RX5 56 "PolicyHouse$Machine" "results" "I", .fieldLink RX5 59 "PolicyHouse$Machine" "heap" "LPolicyHouse$Heap;", .fieldLink RX5 63 "PolicyHouse$Machine" "scopes" "LPolicyHouse$Scopes;", .fieldLink RX5 67 "PolicyHouse$Machine" "builtins" "LPolicyHouse$Builtins;"] ++ wsX50)
def wsX8_init : List Cond := .code yX8_init cX8_init 4 none :: ([.methodLink RX8 1 objectInit, .instanceMethod objectInit, .code objectInit ⟨#[0xb1]⟩ 1 none, .arrayClass .int, .fieldLink RX8 9 "PolicyHouse$Reader" "sort" "[I", .fieldLink RX8 13 "PolicyHouse$Reader" "place" "[I", .fieldLink RX8 16 "PolicyHouse$Reader" "gap" "[I", .fieldLink RX8 19 "PolicyHouse$Reader" "worth" "[I", .fieldLink RX8 22 "PolicyHouse$Reader" "bad" "I", .fieldLink RX8 26 "PolicyHouse$Reader" "tokens" "I", .fieldLink RX8 29 "PolicyHouse$Reader" "now" "I", .fieldLink RX8 32 "PolicyHouse$Reader" "deep" "I", .fieldLink RX8 35 "PolicyHouse$Reader" "wrong" "I", .fieldLink RX8 38 "PolicyHouse$Reader" "skipped" "I", .fieldLink RX8 41 "PolicyHouse$Reader" "stop" "I", .fieldLink RX8 44 "PolicyHouse$Reader" "tree" "LPolicyHouse$Tree;", .fieldLink RX8 48 "PolicyHouse$Reader" "heap" "LPolicyHouse$Heap;", .fieldLink RX8 52 "PolicyHouse$Reader" "texts" "LPolicyHouse$Texts;", .fieldLink RX8 56 "PolicyHouse$Reader" "names" "LPolicyHouse$Names;"] ++ wsX80)
def wsX9_init : List Cond := .code yX9_init cX9_init 3 none :: ([.methodLink RX9 5 objectInit, .instanceMethod objectInit, .code objectInit ⟨#[0xb1]⟩ 1 none, .fieldLink RX9 11 "PolicyHouse$Scopes" "bundle" "LPolicyHouse$Bundle;", .fieldLink RX9 15 "PolicyHouse$Scopes" "now" "I", .fieldLink RX9 19 "PolicyHouse$Scopes" "outNode" "I", .fieldLink RX9 22 "PolicyHouse$Scopes" "outValue" "I", .arrayClass .int, .fieldLink RX9 25 "PolicyHouse$Scopes" "path" "[I", .fieldLink RX9 29 "PolicyHouse$Scopes" "need" "[I", .fieldLink RX9 32 "PolicyHouse$Scopes" "fuel" "I", .fieldLink RX9 35 "PolicyHouse$Scopes" "free" "Z", .fieldLink RX9 39 "PolicyHouse$Scopes" "strict" "Z", .fieldLink RX9 42 "PolicyHouse$Scopes" "limit" "Z", .fieldLink RX9 45 "PolicyHouse$Scopes" "notes" "I", .fieldLink RX9 48 "PolicyHouse$Scopes" "leastRule" "I", .fieldLink RX9 51 "PolicyHouse$Scopes" "leastBuiltin" "I", .fieldLink RX9 54 "PolicyHouse$Scopes" "tries" "[I", .fieldLink RX9 57 "PolicyHouse$Scopes" "heap" "LPolicyHouse$Heap;", .fieldLink RX9 61 "PolicyHouse$Scopes" "names" "LPolicyHouse$Names;"] ++ wsX90)
def wsX10_init : List Cond := .code yX10_init cX10_init 4 none :: ([.methodLink RX10 1 objectInit, .instanceMethod objectInit, .code objectInit ⟨#[0xb1]⟩ 1 none, .arrayClass .int, .fieldLink RX10 7 "PolicyHouse$Strings" "buf" "[I", .fieldLink RX10 13 "PolicyHouse$Strings" "size" "I", .fieldLink RX10 17 "PolicyHouse$Strings" "over" "Z", .fieldLink RX10 21 "PolicyHouse$Strings" "code" "[I", .fieldLink RX10 24 "PolicyHouse$Strings" "jump" "[I", .fieldLink RX10 27 "PolicyHouse$Strings" "mark" "[I", .fieldLink RX10 30 "PolicyHouse$Strings" "here" "[I", .fieldLink RX10 33 "PolicyHouse$Strings" "there" "[I", .fieldLink RX10 36 "PolicyHouse$Strings" "stack" "[I", .fieldLink RX10 39 "PolicyHouse$Strings" "length" "I", .fieldLink RX10 42 "PolicyHouse$Strings" "sets" "[I", .fieldLink RX10 45 "PolicyHouse$Strings" "count" "I", .fieldLink RX10 48 "PolicyHouse$Strings" "pos" "I", .fieldLink RX10 51 "PolicyHouse$Strings" "end" "I", .fieldLink RX10 54 "PolicyHouse$Strings" "bad" "Z", .fieldLink RX10 57 "PolicyHouse$Strings" "threads" "I", .fieldLink RX10 60 "PolicyHouse$Strings" "heap" "LPolicyHouse$Heap;", .fieldLink RX10 64 "PolicyHouse$Strings" "texts" "LPolicyHouse$Texts;", .fieldLink RX10 68 "PolicyHouse$Strings" "names" "LPolicyHouse$Names;"] ++ wsX100)
def wsX11_init : List Cond := .code yX11_init cX11_init 2 none :: ([.methodLink RX11 1 objectInit, .instanceMethod objectInit, .code objectInit ⟨#[0xb1]⟩ 1 none, .fieldLink RX11 7 "PolicyHouse$Texts" "in" "[I", .fieldLink RX11 13 "PolicyHouse$Texts" "to" "I", .fieldLink RX11 17 "PolicyHouse$Texts" "pos" "I", .fieldLink RX11 20 "PolicyHouse$Texts" "wrong" "I", .fieldLink RX11 23 "PolicyHouse$Texts" "stop" "I", .fieldLink RX11 26 "PolicyHouse$Texts" "value" "J", .arrayClass .int, .fieldLink RX11 30 "PolicyHouse$Texts" "buf" "[I", .fieldLink RX11 33 "PolicyHouse$Texts" "size" "I", .constant RX11 36 (100000), .fieldLink RX11 37 "PolicyHouse$Texts" "out" "[I", .fieldLink RX11 40 "PolicyHouse$Texts" "length" "I", .fieldLink RX11 43 "PolicyHouse$Texts" "limit" "I", .fieldLink RX11 46 "PolicyHouse$Texts" "over" "Z", .fieldLink RX11 50 "PolicyHouse$Texts" "heap" "LPolicyHouse$Heap;"] ++ wsX110)
theorem dX2_init_0 : decode cX2_init 0 = .ok (.aload_n 0, 1) := by decide +kernel
theorem dX2_init_1 : decode cX2_init 1 = .ok (.invokespecial 1, 3) := by decide +kernel
theorem dX2_init_4 : decode cX2_init 4 = .ok (.aload_n 0, 1) := by decide +kernel
theorem dX2_init_5 : decode cX2_init 5 = .ok (.aconst_null, 1) := by decide +kernel
theorem dX2_init_6 : decode cX2_init 6 = .ok (.putfield 7, 3) := by decide +kernel
theorem dX2_init_9 : decode cX2_init 9 = .ok (.aload_n 0, 1) := by decide +kernel
theorem dX2_init_10 : decode cX2_init 10 = .ok (.aconst_null, 1) := by decide +kernel
theorem dX2_init_11 : decode cX2_init 11 = .ok (.putfield 13, 3) := by decide +kernel
theorem dX2_init_14 : decode cX2_init 14 = .ok (.aload_n 0, 1) := by decide +kernel
theorem dX2_init_15 : decode cX2_init 15 = .ok (.iconst 0, 1) := by decide +kernel
theorem dX2_init_16 : decode cX2_init 16 = .ok (.putfield 17, 3) := by decide +kernel
theorem dX2_init_19 : decode cX2_init 19 = .ok (.aload_n 0, 1) := by decide +kernel
theorem dX2_init_20 : decode cX2_init 20 = .ok (.sipush 6100, 3) := by decide +kernel
theorem dX2_init_23 : decode cX2_init 23 = .ok (.newarray .int, 2) := by decide +kernel
theorem dX2_init_25 : decode cX2_init 25 = .ok (.putfield 21, 3) := by decide +kernel
theorem dX2_init_28 : decode cX2_init 28 = .ok (.aload_n 0, 1) := by decide +kernel
theorem dX2_init_29 : decode cX2_init 29 = .ok (.sipush 6100, 3) := by decide +kernel
theorem dX2_init_32 : decode cX2_init 32 = .ok (.newarray .int, 2) := by decide +kernel
theorem dX2_init_34 : decode cX2_init 34 = .ok (.putfield 25, 3) := by decide +kernel
theorem dX2_init_37 : decode cX2_init 37 = .ok (.aload_n 0, 1) := by decide +kernel
theorem dX2_init_38 : decode cX2_init 38 = .ok (.sipush 6100, 3) := by decide +kernel
theorem dX2_init_41 : decode cX2_init 41 = .ok (.newarray .int, 2) := by decide +kernel
theorem dX2_init_43 : decode cX2_init 43 = .ok (.putfield 28, 3) := by decide +kernel
theorem dX2_init_46 : decode cX2_init 46 = .ok (.aload_n 0, 1) := by decide +kernel
theorem dX2_init_47 : decode cX2_init 47 = .ok (.iconst 0, 1) := by decide +kernel
theorem dX2_init_48 : decode cX2_init 48 = .ok (.putfield 31, 3) := by decide +kernel
theorem dX2_init_51 : decode cX2_init 51 = .ok (.aload_n 0, 1) := by decide +kernel
theorem dX2_init_52 : decode cX2_init 52 = .ok (.sipush 6100, 3) := by decide +kernel
theorem dX2_init_55 : decode cX2_init 55 = .ok (.newarray .int, 2) := by decide +kernel
theorem dX2_init_57 : decode cX2_init 57 = .ok (.putfield 34, 3) := by decide +kernel
theorem dX2_init_60 : decode cX2_init 60 = .ok (.aload_n 0, 1) := by decide +kernel
theorem dX2_init_61 : decode cX2_init 61 = .ok (.iconst 0, 1) := by decide +kernel
theorem dX2_init_62 : decode cX2_init 62 = .ok (.putfield 37, 3) := by decide +kernel
theorem dX2_init_65 : decode cX2_init 65 = .ok (.aload_n 0, 1) := by decide +kernel
theorem dX2_init_66 : decode cX2_init 66 = .ok (.iconst 0, 1) := by decide +kernel
theorem dX2_init_67 : decode cX2_init 67 = .ok (.putfield 40, 3) := by decide +kernel
theorem dX2_init_70 : decode cX2_init 70 = .ok (.aload_n 0, 1) := by decide +kernel
theorem dX2_init_71 : decode cX2_init 71 = .ok (.iconst 0, 1) := by decide +kernel
theorem dX2_init_72 : decode cX2_init 72 = .ok (.putfield 43, 3) := by decide +kernel
theorem dX2_init_75 : decode cX2_init 75 = .ok (.aload_n 0, 1) := by decide +kernel
theorem dX2_init_76 : decode cX2_init 76 = .ok (.bipush 16, 2) := by decide +kernel
theorem dX2_init_78 : decode cX2_init 78 = .ok (.newarray .int, 2) := by decide +kernel
theorem dX2_init_80 : decode cX2_init 80 = .ok (.putfield 46, 3) := by decide +kernel
theorem dX2_init_83 : decode cX2_init 83 = .ok (.aload_n 0, 1) := by decide +kernel
theorem dX2_init_84 : decode cX2_init 84 = .ok (.sipush 6400, 3) := by decide +kernel
theorem dX2_init_87 : decode cX2_init 87 = .ok (.newarray .int, 2) := by decide +kernel
theorem dX2_init_89 : decode cX2_init 89 = .ok (.putfield 49, 3) := by decide +kernel
theorem dX2_init_92 : decode cX2_init 92 = .ok (.aload_n 0, 1) := by decide +kernel
theorem dX2_init_93 : decode cX2_init 93 = .ok (.sipush 6400, 3) := by decide +kernel
theorem dX2_init_96 : decode cX2_init 96 = .ok (.newarray .int, 2) := by decide +kernel
theorem dX2_init_98 : decode cX2_init 98 = .ok (.putfield 52, 3) := by decide +kernel
theorem dX2_init_101 : decode cX2_init 101 = .ok (.aload_n 0, 1) := by decide +kernel
theorem dX2_init_102 : decode cX2_init 102 = .ok (.aload_n 1, 1) := by decide +kernel
theorem dX2_init_103 : decode cX2_init 103 = .ok (.putfield 55, 3) := by decide +kernel
theorem dX2_init_106 : decode cX2_init 106 = .ok (.aload_n 0, 1) := by decide +kernel
theorem dX2_init_107 : decode cX2_init 107 = .ok (.aload_n 2, 1) := by decide +kernel
theorem dX2_init_108 : decode cX2_init 108 = .ok (.putfield 59, 3) := by decide +kernel
theorem dX2_init_111 : decode cX2_init 111 = .ok (.return_, 1) := by decide +kernel
theorem dX3_init_0 : decode cX3_init 0 = .ok (.aload_n 0, 1) := by decide +kernel
theorem dX3_init_1 : decode cX3_init 1 = .ok (.invokespecial 1, 3) := by decide +kernel
theorem dX3_init_4 : decode cX3_init 4 = .ok (.aload_n 0, 1) := by decide +kernel
theorem dX3_init_5 : decode cX3_init 5 = .ok (.aconst_null, 1) := by decide +kernel
theorem dX3_init_6 : decode cX3_init 6 = .ok (.putfield 7, 3) := by decide +kernel
theorem dX3_init_9 : decode cX3_init 9 = .ok (.aload_n 0, 1) := by decide +kernel
theorem dX3_init_10 : decode cX3_init 10 = .ok (.aconst_null, 1) := by decide +kernel
theorem dX3_init_11 : decode cX3_init 11 = .ok (.putfield 13, 3) := by decide +kernel
theorem dX3_init_14 : decode cX3_init 14 = .ok (.aload_n 0, 1) := by decide +kernel
theorem dX3_init_15 : decode cX3_init 15 = .ok (.ldc 17, 2) := by decide +kernel
theorem dX3_init_17 : decode cX3_init 17 = .ok (.newarray .int, 2) := by decide +kernel
theorem dX3_init_19 : decode cX3_init 19 = .ok (.putfield 18, 3) := by decide +kernel
theorem dX3_init_22 : decode cX3_init 22 = .ok (.aload_n 0, 1) := by decide +kernel
theorem dX3_init_23 : decode cX3_init 23 = .ok (.iconst 0, 1) := by decide +kernel
theorem dX3_init_24 : decode cX3_init 24 = .ok (.putfield 22, 3) := by decide +kernel
theorem dX3_init_27 : decode cX3_init 27 = .ok (.aload_n 0, 1) := by decide +kernel
theorem dX3_init_28 : decode cX3_init 28 = .ok (.iconst 0, 1) := by decide +kernel
theorem dX3_init_29 : decode cX3_init 29 = .ok (.putfield 26, 3) := by decide +kernel
theorem dX3_init_32 : decode cX3_init 32 = .ok (.aload_n 0, 1) := by decide +kernel
theorem dX3_init_33 : decode cX3_init 33 = .ok (.iconst 0, 1) := by decide +kernel
theorem dX3_init_34 : decode cX3_init 34 = .ok (.putfield 29, 3) := by decide +kernel
theorem dX3_init_37 : decode cX3_init 37 = .ok (.aload_n 0, 1) := by decide +kernel
theorem dX3_init_38 : decode cX3_init 38 = .ok (.iconst 0, 1) := by decide +kernel
theorem dX3_init_39 : decode cX3_init 39 = .ok (.putfield 32, 3) := by decide +kernel
theorem dX3_init_42 : decode cX3_init 42 = .ok (.aload_n 0, 1) := by decide +kernel
theorem dX3_init_43 : decode cX3_init 43 = .ok (.iconst 0, 1) := by decide +kernel
theorem dX3_init_44 : decode cX3_init 44 = .ok (.putfield 35, 3) := by decide +kernel
theorem dX3_init_47 : decode cX3_init 47 = .ok (.aload_n 0, 1) := by decide +kernel
theorem dX3_init_48 : decode cX3_init 48 = .ok (.iconst 0, 1) := by decide +kernel
theorem dX3_init_49 : decode cX3_init 49 = .ok (.putfield 38, 3) := by decide +kernel
theorem dX3_init_52 : decode cX3_init 52 = .ok (.aload_n 0, 1) := by decide +kernel
theorem dX3_init_53 : decode cX3_init 53 = .ok (.iconst 0, 1) := by decide +kernel
theorem dX3_init_54 : decode cX3_init 54 = .ok (.putfield 41, 3) := by decide +kernel
theorem dX3_init_57 : decode cX3_init 57 = .ok (.aload_n 0, 1) := by decide +kernel
theorem dX3_init_58 : decode cX3_init 58 = .ok (.sipush 6100, 3) := by decide +kernel
theorem dX3_init_61 : decode cX3_init 61 = .ok (.newarray .int, 2) := by decide +kernel
theorem dX3_init_63 : decode cX3_init 63 = .ok (.putfield 44, 3) := by decide +kernel
theorem dX3_init_66 : decode cX3_init 66 = .ok (.aload_n 0, 1) := by decide +kernel
theorem dX3_init_67 : decode cX3_init 67 = .ok (.iconst 0, 1) := by decide +kernel
theorem dX3_init_68 : decode cX3_init 68 = .ok (.putfield 47, 3) := by decide +kernel
theorem dX3_init_71 : decode cX3_init 71 = .ok (.aload_n 0, 1) := by decide +kernel
theorem dX3_init_72 : decode cX3_init 72 = .ok (.aload_n 1, 1) := by decide +kernel
theorem dX3_init_73 : decode cX3_init 73 = .ok (.putfield 50, 3) := by decide +kernel
theorem dX3_init_76 : decode cX3_init 76 = .ok (.aload_n 0, 1) := by decide +kernel
theorem dX3_init_77 : decode cX3_init 77 = .ok (.aload_n 2, 1) := by decide +kernel
theorem dX3_init_78 : decode cX3_init 78 = .ok (.putfield 54, 3) := by decide +kernel
theorem dX3_init_81 : decode cX3_init 81 = .ok (.aload_n 0, 1) := by decide +kernel
theorem dX3_init_82 : decode cX3_init 82 = .ok (.aload_n 3, 1) := by decide +kernel
theorem dX3_init_83 : decode cX3_init 83 = .ok (.putfield 58, 3) := by decide +kernel
theorem dX3_init_86 : decode cX3_init 86 = .ok (.return_, 1) := by decide +kernel
theorem dX4_init_0 : decode cX4_init 0 = .ok (.aload_n 0, 1) := by decide +kernel
theorem dX4_init_1 : decode cX4_init 1 = .ok (.invokespecial 1, 3) := by decide +kernel
theorem dX4_init_4 : decode cX4_init 4 = .ok (.aload_n 0, 1) := by decide +kernel
theorem dX4_init_5 : decode cX4_init 5 = .ok (.ldc 9, 2) := by decide +kernel
theorem dX4_init_7 : decode cX4_init 7 = .ok (.newarray .int, 2) := by decide +kernel
theorem dX4_init_9 : decode cX4_init 9 = .ok (.putfield 10, 3) := by decide +kernel
theorem dX4_init_12 : decode cX4_init 12 = .ok (.aload_n 0, 1) := by decide +kernel
theorem dX4_init_13 : decode cX4_init 13 = .ok (.ldc 14, 2) := by decide +kernel
theorem dX4_init_15 : decode cX4_init 15 = .ok (.newarray .int, 2) := by decide +kernel
theorem dX4_init_17 : decode cX4_init 17 = .ok (.putfield 15, 3) := by decide +kernel
theorem dX4_init_20 : decode cX4_init 20 = .ok (.aload_n 0, 1) := by decide +kernel
theorem dX4_init_21 : decode cX4_init 21 = .ok (.ldc 14, 2) := by decide +kernel
theorem dX4_init_23 : decode cX4_init 23 = .ok (.newarray .int, 2) := by decide +kernel
theorem dX4_init_25 : decode cX4_init 25 = .ok (.putfield 18, 3) := by decide +kernel
theorem dX4_init_28 : decode cX4_init 28 = .ok (.aload_n 0, 1) := by decide +kernel
theorem dX4_init_29 : decode cX4_init 29 = .ok (.iconst 0, 1) := by decide +kernel
theorem dX4_init_30 : decode cX4_init 30 = .ok (.putfield 21, 3) := by decide +kernel
theorem dX4_init_33 : decode cX4_init 33 = .ok (.aload_n 0, 1) := by decide +kernel
theorem dX4_init_34 : decode cX4_init 34 = .ok (.bipush 16, 2) := by decide +kernel
theorem dX4_init_36 : decode cX4_init 36 = .ok (.putfield 25, 3) := by decide +kernel
theorem dX4_init_39 : decode cX4_init 39 = .ok (.aload_n 0, 1) := by decide +kernel
theorem dX4_init_40 : decode cX4_init 40 = .ok (.ldc 28, 2) := by decide +kernel
theorem dX4_init_42 : decode cX4_init 42 = .ok (.putfield 29, 3) := by decide +kernel
theorem dX4_init_45 : decode cX4_init 45 = .ok (.aload_n 0, 1) := by decide +kernel
theorem dX4_init_46 : decode cX4_init 46 = .ok (.ldc 32, 2) := by decide +kernel
theorem dX4_init_48 : decode cX4_init 48 = .ok (.putfield 33, 3) := by decide +kernel
theorem dX4_init_51 : decode cX4_init 51 = .ok (.aload_n 0, 1) := by decide +kernel
theorem dX4_init_52 : decode cX4_init 52 = .ok (.iconst 0, 1) := by decide +kernel
theorem dX4_init_53 : decode cX4_init 53 = .ok (.putfield 36, 3) := by decide +kernel
theorem dX4_init_56 : decode cX4_init 56 = .ok (.aload_n 0, 1) := by decide +kernel
theorem dX4_init_57 : decode cX4_init 57 = .ok (.getfield 10, 3) := by decide +kernel
theorem dX4_init_60 : decode cX4_init 60 = .ok (.iconst 2, 1) := by decide +kernel
theorem dX4_init_61 : decode cX4_init 61 = .ok (.iconst 1, 1) := by decide +kernel
theorem dX4_init_62 : decode cX4_init 62 = .ok (.iastore, 1) := by decide +kernel
theorem dX4_init_63 : decode cX4_init 63 = .ok (.aload_n 0, 1) := by decide +kernel
theorem dX4_init_64 : decode cX4_init 64 = .ok (.getfield 10, 3) := by decide +kernel
theorem dX4_init_67 : decode cX4_init 67 = .ok (.iconst 3, 1) := by decide +kernel
theorem dX4_init_68 : decode cX4_init 68 = .ok (.iconst 2, 1) := by decide +kernel
theorem dX4_init_69 : decode cX4_init 69 = .ok (.iastore, 1) := by decide +kernel
theorem dX4_init_70 : decode cX4_init 70 = .ok (.return_, 1) := by decide +kernel
theorem dX4_room_0 : decode cX4_room 0 = .ok (.aload_n 0, 1) := by decide +kernel
theorem dX4_room_1 : decode cX4_room 1 = .ok (.getfield 29, 3) := by decide +kernel
theorem dX4_room_4 : decode cX4_room 4 = .ok (.iload_n 1, 1) := by decide +kernel
theorem dX4_room_5 : decode cX4_room 5 = .ok (.iadd, 1) := by decide +kernel
theorem dX4_room_6 : decode cX4_room 6 = .ok (.aload_n 0, 1) := by decide +kernel
theorem dX4_room_7 : decode cX4_room 7 = .ok (.getfield 33, 3) := by decide +kernel
theorem dX4_room_10 : decode cX4_room 10 = .ok (.if_icmp .le 20, 3) := by decide +kernel
theorem dX4_room_30 : decode cX4_room 30 = .ok (.aload_n 0, 1) := by decide +kernel
theorem dX4_room_31 : decode cX4_room 31 = .ok (.getfield 29, 3) := by decide +kernel
theorem dX4_room_34 : decode cX4_room 34 = .ok (.istore_n 2, 1) := by decide +kernel
theorem dX4_room_35 : decode cX4_room 35 = .ok (.aload_n 0, 1) := by decide +kernel
theorem dX4_room_36 : decode cX4_room 36 = .ok (.dup, 1) := by decide +kernel
theorem dX4_room_37 : decode cX4_room 37 = .ok (.getfield 29, 3) := by decide +kernel
theorem dX4_room_40 : decode cX4_room 40 = .ok (.iload_n 1, 1) := by decide +kernel
theorem dX4_room_41 : decode cX4_room 41 = .ok (.iadd, 1) := by decide +kernel
theorem dX4_room_42 : decode cX4_room 42 = .ok (.putfield 29, 3) := by decide +kernel
theorem dX4_room_45 : decode cX4_room 45 = .ok (.iload_n 2, 1) := by decide +kernel
theorem dX4_room_46 : decode cX4_room 46 = .ok (.ireturn, 1) := by decide +kernel
theorem dX4_reset_0 : decode cX4_reset 0 = .ok (.aload_n 0, 1) := by decide +kernel
theorem dX4_reset_1 : decode cX4_reset 1 = .ok (.iload_n 1, 1) := by decide +kernel
theorem dX4_reset_2 : decode cX4_reset 2 = .ok (.putfield 29, 3) := by decide +kernel
theorem dX4_reset_5 : decode cX4_reset 5 = .ok (.aload_n 0, 1) := by decide +kernel
theorem dX4_reset_6 : decode cX4_reset 6 = .ok (.ldc 32, 2) := by decide +kernel
theorem dX4_reset_8 : decode cX4_reset 8 = .ok (.putfield 33, 3) := by decide +kernel
theorem dX4_reset_11 : decode cX4_reset 11 = .ok (.aload_n 0, 1) := by decide +kernel
theorem dX4_reset_12 : decode cX4_reset 12 = .ok (.iconst 0, 1) := by decide +kernel
theorem dX4_reset_13 : decode cX4_reset 13 = .ok (.putfield 36, 3) := by decide +kernel
theorem dX4_reset_16 : decode cX4_reset 16 = .ok (.aload_n 0, 1) := by decide +kernel
theorem dX4_reset_17 : decode cX4_reset 17 = .ok (.iconst 0, 1) := by decide +kernel
theorem dX4_reset_18 : decode cX4_reset 18 = .ok (.putfield 21, 3) := by decide +kernel
theorem dX4_reset_21 : decode cX4_reset 21 = .ok (.return_, 1) := by decide +kernel
theorem dX5_init_0 : decode cX5_init 0 = .ok (.aload_n 0, 1) := by decide +kernel
theorem dX5_init_1 : decode cX5_init 1 = .ok (.invokespecial 1, 3) := by decide +kernel
theorem dX5_init_4 : decode cX5_init 4 = .ok (.aload_n 0, 1) := by decide +kernel
theorem dX5_init_5 : decode cX5_init 5 = .ok (.sipush 20000, 3) := by decide +kernel
theorem dX5_init_8 : decode cX5_init 8 = .ok (.newarray .int, 2) := by decide +kernel
theorem dX5_init_10 : decode cX5_init 10 = .ok (.putfield 7, 3) := by decide +kernel
theorem dX5_init_13 : decode cX5_init 13 = .ok (.aload_n 0, 1) := by decide +kernel
theorem dX5_init_14 : decode cX5_init 14 = .ok (.ldc 13, 2) := by decide +kernel
theorem dX5_init_16 : decode cX5_init 16 = .ok (.newarray .int, 2) := by decide +kernel
theorem dX5_init_18 : decode cX5_init 18 = .ok (.putfield 14, 3) := by decide +kernel
theorem dX5_init_21 : decode cX5_init 21 = .ok (.aload_n 0, 1) := by decide +kernel
theorem dX5_init_22 : decode cX5_init 22 = .ok (.iconst 0, 1) := by decide +kernel
theorem dX5_init_23 : decode cX5_init 23 = .ok (.putfield 17, 3) := by decide +kernel
theorem dX5_init_26 : decode cX5_init 26 = .ok (.aload_n 0, 1) := by decide +kernel
theorem dX5_init_27 : decode cX5_init 27 = .ok (.iconst 0, 1) := by decide +kernel
theorem dX5_init_28 : decode cX5_init 28 = .ok (.putfield 21, 3) := by decide +kernel
theorem dX5_init_31 : decode cX5_init 31 = .ok (.aload_n 0, 1) := by decide +kernel
theorem dX5_init_32 : decode cX5_init 32 = .ok (.iconst 0, 1) := by decide +kernel
theorem dX5_init_33 : decode cX5_init 33 = .ok (.putfield 24, 3) := by decide +kernel
theorem dX5_init_36 : decode cX5_init 36 = .ok (.aload_n 0, 1) := by decide +kernel
theorem dX5_init_37 : decode cX5_init 37 = .ok (.iconst 0, 1) := by decide +kernel
theorem dX5_init_38 : decode cX5_init 38 = .ok (.putfield 27, 3) := by decide +kernel
theorem dX5_init_41 : decode cX5_init 41 = .ok (.aload_n 0, 1) := by decide +kernel
theorem dX5_init_42 : decode cX5_init 42 = .ok (.iconst 0, 1) := by decide +kernel
theorem dX5_init_43 : decode cX5_init 43 = .ok (.putfield 30, 3) := by decide +kernel
theorem dX5_init_46 : decode cX5_init 46 = .ok (.aload_n 0, 1) := by decide +kernel
theorem dX5_init_47 : decode cX5_init 47 = .ok (.iconst 0, 1) := by decide +kernel
theorem dX5_init_48 : decode cX5_init 48 = .ok (.putfield 34, 3) := by decide +kernel
theorem dX5_init_51 : decode cX5_init 51 = .ok (.aload_n 0, 1) := by decide +kernel
theorem dX5_init_52 : decode cX5_init 52 = .ok (.iconst 0, 1) := by decide +kernel
theorem dX5_init_53 : decode cX5_init 53 = .ok (.putfield 37, 3) := by decide +kernel
theorem dX5_init_56 : decode cX5_init 56 = .ok (.aload_n 0, 1) := by decide +kernel
theorem dX5_init_57 : decode cX5_init 57 = .ok (.aconst_null, 1) := by decide +kernel
theorem dX5_init_58 : decode cX5_init 58 = .ok (.putfield 40, 3) := by decide +kernel
theorem dX5_init_61 : decode cX5_init 61 = .ok (.aload_n 0, 1) := by decide +kernel
theorem dX5_init_62 : decode cX5_init 62 = .ok (.aconst_null, 1) := by decide +kernel
theorem dX5_init_63 : decode cX5_init 63 = .ok (.putfield 44, 3) := by decide +kernel
theorem dX5_init_66 : decode cX5_init 66 = .ok (.aload_n 0, 1) := by decide +kernel
theorem dX5_init_67 : decode cX5_init 67 = .ok (.aconst_null, 1) := by decide +kernel
theorem dX5_init_68 : decode cX5_init 68 = .ok (.putfield 47, 3) := by decide +kernel
theorem dX5_init_71 : decode cX5_init 71 = .ok (.aload_n 0, 1) := by decide +kernel
theorem dX5_init_72 : decode cX5_init 72 = .ok (.iconst 0, 1) := by decide +kernel
theorem dX5_init_73 : decode cX5_init 73 = .ok (.putfield 50, 3) := by decide +kernel
theorem dX5_init_76 : decode cX5_init 76 = .ok (.aload_n 0, 1) := by decide +kernel
theorem dX5_init_77 : decode cX5_init 77 = .ok (.iconst 0, 1) := by decide +kernel
theorem dX5_init_78 : decode cX5_init 78 = .ok (.putfield 53, 3) := by decide +kernel
theorem dX5_init_81 : decode cX5_init 81 = .ok (.aload_n 0, 1) := by decide +kernel
theorem dX5_init_82 : decode cX5_init 82 = .ok (.iconst 0, 1) := by decide +kernel
theorem dX5_init_83 : decode cX5_init 83 = .ok (.putfield 56, 3) := by decide +kernel
theorem dX5_init_86 : decode cX5_init 86 = .ok (.aload_n 0, 1) := by decide +kernel
theorem dX5_init_87 : decode cX5_init 87 = .ok (.aload_n 1, 1) := by decide +kernel
theorem dX5_init_88 : decode cX5_init 88 = .ok (.putfield 59, 3) := by decide +kernel
theorem dX5_init_91 : decode cX5_init 91 = .ok (.aload_n 0, 1) := by decide +kernel
theorem dX5_init_92 : decode cX5_init 92 = .ok (.aload_n 2, 1) := by decide +kernel
theorem dX5_init_93 : decode cX5_init 93 = .ok (.putfield 63, 3) := by decide +kernel
theorem dX5_init_96 : decode cX5_init 96 = .ok (.aload_n 0, 1) := by decide +kernel
theorem dX5_init_97 : decode cX5_init 97 = .ok (.aload_n 3, 1) := by decide +kernel
theorem dX5_init_98 : decode cX5_init 98 = .ok (.putfield 67, 3) := by decide +kernel
theorem dX5_init_101 : decode cX5_init 101 = .ok (.return_, 1) := by decide +kernel
theorem dX8_init_0 : decode cX8_init 0 = .ok (.aload_n 0, 1) := by decide +kernel
theorem dX8_init_1 : decode cX8_init 1 = .ok (.invokespecial 1, 3) := by decide +kernel
theorem dX8_init_4 : decode cX8_init 4 = .ok (.aload_n 0, 1) := by decide +kernel
theorem dX8_init_5 : decode cX8_init 5 = .ok (.sipush 6002, 3) := by decide +kernel
theorem dX8_init_8 : decode cX8_init 8 = .ok (.newarray .int, 2) := by decide +kernel
theorem dX8_init_10 : decode cX8_init 10 = .ok (.putfield 9, 3) := by decide +kernel
theorem dX8_init_13 : decode cX8_init 13 = .ok (.aload_n 0, 1) := by decide +kernel
theorem dX8_init_14 : decode cX8_init 14 = .ok (.sipush 6002, 3) := by decide +kernel
theorem dX8_init_17 : decode cX8_init 17 = .ok (.newarray .int, 2) := by decide +kernel
theorem dX8_init_19 : decode cX8_init 19 = .ok (.putfield 13, 3) := by decide +kernel
theorem dX8_init_22 : decode cX8_init 22 = .ok (.aload_n 0, 1) := by decide +kernel
theorem dX8_init_23 : decode cX8_init 23 = .ok (.sipush 6002, 3) := by decide +kernel
theorem dX8_init_26 : decode cX8_init 26 = .ok (.newarray .int, 2) := by decide +kernel
theorem dX8_init_28 : decode cX8_init 28 = .ok (.putfield 16, 3) := by decide +kernel
theorem dX8_init_31 : decode cX8_init 31 = .ok (.aload_n 0, 1) := by decide +kernel
theorem dX8_init_32 : decode cX8_init 32 = .ok (.sipush 6002, 3) := by decide +kernel
theorem dX8_init_35 : decode cX8_init 35 = .ok (.newarray .int, 2) := by decide +kernel
theorem dX8_init_37 : decode cX8_init 37 = .ok (.putfield 19, 3) := by decide +kernel
theorem dX8_init_40 : decode cX8_init 40 = .ok (.aload_n 0, 1) := by decide +kernel
theorem dX8_init_41 : decode cX8_init 41 = .ok (.iconst (-1), 1) := by decide +kernel
theorem dX8_init_42 : decode cX8_init 42 = .ok (.putfield 22, 3) := by decide +kernel
theorem dX8_init_45 : decode cX8_init 45 = .ok (.aload_n 0, 1) := by decide +kernel
theorem dX8_init_46 : decode cX8_init 46 = .ok (.iconst 0, 1) := by decide +kernel
theorem dX8_init_47 : decode cX8_init 47 = .ok (.putfield 26, 3) := by decide +kernel
theorem dX8_init_50 : decode cX8_init 50 = .ok (.aload_n 0, 1) := by decide +kernel
theorem dX8_init_51 : decode cX8_init 51 = .ok (.iconst 0, 1) := by decide +kernel
theorem dX8_init_52 : decode cX8_init 52 = .ok (.putfield 29, 3) := by decide +kernel
theorem dX8_init_55 : decode cX8_init 55 = .ok (.aload_n 0, 1) := by decide +kernel
theorem dX8_init_56 : decode cX8_init 56 = .ok (.iconst 0, 1) := by decide +kernel
theorem dX8_init_57 : decode cX8_init 57 = .ok (.putfield 32, 3) := by decide +kernel
theorem dX8_init_60 : decode cX8_init 60 = .ok (.aload_n 0, 1) := by decide +kernel
theorem dX8_init_61 : decode cX8_init 61 = .ok (.iconst (-1), 1) := by decide +kernel
theorem dX8_init_62 : decode cX8_init 62 = .ok (.putfield 35, 3) := by decide +kernel
theorem dX8_init_65 : decode cX8_init 65 = .ok (.aload_n 0, 1) := by decide +kernel
theorem dX8_init_66 : decode cX8_init 66 = .ok (.iconst 0, 1) := by decide +kernel
theorem dX8_init_67 : decode cX8_init 67 = .ok (.putfield 38, 3) := by decide +kernel
theorem dX8_init_70 : decode cX8_init 70 = .ok (.aload_n 0, 1) := by decide +kernel
theorem dX8_init_71 : decode cX8_init 71 = .ok (.iconst 0, 1) := by decide +kernel
theorem dX8_init_72 : decode cX8_init 72 = .ok (.putfield 41, 3) := by decide +kernel
theorem dX8_init_75 : decode cX8_init 75 = .ok (.aload_n 0, 1) := by decide +kernel
theorem dX8_init_76 : decode cX8_init 76 = .ok (.aconst_null, 1) := by decide +kernel
theorem dX8_init_77 : decode cX8_init 77 = .ok (.putfield 44, 3) := by decide +kernel
theorem dX8_init_80 : decode cX8_init 80 = .ok (.aload_n 0, 1) := by decide +kernel
theorem dX8_init_81 : decode cX8_init 81 = .ok (.aload_n 1, 1) := by decide +kernel
theorem dX8_init_82 : decode cX8_init 82 = .ok (.putfield 48, 3) := by decide +kernel
theorem dX8_init_85 : decode cX8_init 85 = .ok (.aload_n 0, 1) := by decide +kernel
theorem dX8_init_86 : decode cX8_init 86 = .ok (.aload_n 2, 1) := by decide +kernel
theorem dX8_init_87 : decode cX8_init 87 = .ok (.putfield 52, 3) := by decide +kernel
theorem dX8_init_90 : decode cX8_init 90 = .ok (.aload_n 0, 1) := by decide +kernel
theorem dX8_init_91 : decode cX8_init 91 = .ok (.aload_n 3, 1) := by decide +kernel
theorem dX8_init_92 : decode cX8_init 92 = .ok (.putfield 56, 3) := by decide +kernel
theorem dX8_init_95 : decode cX8_init 95 = .ok (.return_, 1) := by decide +kernel
theorem dX9_init_0 : decode cX9_init 0 = .ok (.aload_n 0, 1) := by decide +kernel
theorem dX9_init_1 : decode cX9_init 1 = .ok (.invokespecial 5, 3) := by decide +kernel
theorem dX9_init_4 : decode cX9_init 4 = .ok (.aload_n 0, 1) := by decide +kernel
theorem dX9_init_5 : decode cX9_init 5 = .ok (.aconst_null, 1) := by decide +kernel
theorem dX9_init_6 : decode cX9_init 6 = .ok (.putfield 11, 3) := by decide +kernel
theorem dX9_init_9 : decode cX9_init 9 = .ok (.aload_n 0, 1) := by decide +kernel
theorem dX9_init_10 : decode cX9_init 10 = .ok (.iconst 0, 1) := by decide +kernel
theorem dX9_init_11 : decode cX9_init 11 = .ok (.putfield 15, 3) := by decide +kernel
theorem dX9_init_14 : decode cX9_init 14 = .ok (.aload_n 0, 1) := by decide +kernel
theorem dX9_init_15 : decode cX9_init 15 = .ok (.iconst (-1), 1) := by decide +kernel
theorem dX9_init_16 : decode cX9_init 16 = .ok (.putfield 19, 3) := by decide +kernel
theorem dX9_init_19 : decode cX9_init 19 = .ok (.aload_n 0, 1) := by decide +kernel
theorem dX9_init_20 : decode cX9_init 20 = .ok (.iconst 0, 1) := by decide +kernel
theorem dX9_init_21 : decode cX9_init 21 = .ok (.putfield 22, 3) := by decide +kernel
theorem dX9_init_24 : decode cX9_init 24 = .ok (.aload_n 0, 1) := by decide +kernel
theorem dX9_init_25 : decode cX9_init 25 = .ok (.bipush 10, 2) := by decide +kernel
theorem dX9_init_27 : decode cX9_init 27 = .ok (.newarray .int, 2) := by decide +kernel
theorem dX9_init_29 : decode cX9_init 29 = .ok (.putfield 25, 3) := by decide +kernel
theorem dX9_init_32 : decode cX9_init 32 = .ok (.aload_n 0, 1) := by decide +kernel
theorem dX9_init_33 : decode cX9_init 33 = .ok (.bipush 16, 2) := by decide +kernel
theorem dX9_init_35 : decode cX9_init 35 = .ok (.newarray .int, 2) := by decide +kernel
theorem dX9_init_37 : decode cX9_init 37 = .ok (.putfield 29, 3) := by decide +kernel
theorem dX9_init_40 : decode cX9_init 40 = .ok (.aload_n 0, 1) := by decide +kernel
theorem dX9_init_41 : decode cX9_init 41 = .ok (.iconst 0, 1) := by decide +kernel
theorem dX9_init_42 : decode cX9_init 42 = .ok (.putfield 32, 3) := by decide +kernel
theorem dX9_init_45 : decode cX9_init 45 = .ok (.aload_n 0, 1) := by decide +kernel
theorem dX9_init_46 : decode cX9_init 46 = .ok (.iconst 0, 1) := by decide +kernel
theorem dX9_init_47 : decode cX9_init 47 = .ok (.putfield 35, 3) := by decide +kernel
theorem dX9_init_50 : decode cX9_init 50 = .ok (.aload_n 0, 1) := by decide +kernel
theorem dX9_init_51 : decode cX9_init 51 = .ok (.iconst 0, 1) := by decide +kernel
theorem dX9_init_52 : decode cX9_init 52 = .ok (.putfield 39, 3) := by decide +kernel
theorem dX9_init_55 : decode cX9_init 55 = .ok (.aload_n 0, 1) := by decide +kernel
theorem dX9_init_56 : decode cX9_init 56 = .ok (.iconst 0, 1) := by decide +kernel
theorem dX9_init_57 : decode cX9_init 57 = .ok (.putfield 42, 3) := by decide +kernel
theorem dX9_init_60 : decode cX9_init 60 = .ok (.aload_n 0, 1) := by decide +kernel
theorem dX9_init_61 : decode cX9_init 61 = .ok (.iconst 0, 1) := by decide +kernel
theorem dX9_init_62 : decode cX9_init 62 = .ok (.putfield 45, 3) := by decide +kernel
theorem dX9_init_65 : decode cX9_init 65 = .ok (.aload_n 0, 1) := by decide +kernel
theorem dX9_init_66 : decode cX9_init 66 = .ok (.iconst (-1), 1) := by decide +kernel
theorem dX9_init_67 : decode cX9_init 67 = .ok (.putfield 48, 3) := by decide +kernel
theorem dX9_init_70 : decode cX9_init 70 = .ok (.aload_n 0, 1) := by decide +kernel
theorem dX9_init_71 : decode cX9_init 71 = .ok (.iconst (-1), 1) := by decide +kernel
theorem dX9_init_72 : decode cX9_init 72 = .ok (.putfield 51, 3) := by decide +kernel
theorem dX9_init_75 : decode cX9_init 75 = .ok (.aload_n 0, 1) := by decide +kernel
theorem dX9_init_76 : decode cX9_init 76 = .ok (.sipush 402, 3) := by decide +kernel
theorem dX9_init_79 : decode cX9_init 79 = .ok (.newarray .int, 2) := by decide +kernel
theorem dX9_init_81 : decode cX9_init 81 = .ok (.putfield 54, 3) := by decide +kernel
theorem dX9_init_84 : decode cX9_init 84 = .ok (.aload_n 0, 1) := by decide +kernel
theorem dX9_init_85 : decode cX9_init 85 = .ok (.aload_n 1, 1) := by decide +kernel
theorem dX9_init_86 : decode cX9_init 86 = .ok (.putfield 57, 3) := by decide +kernel
theorem dX9_init_89 : decode cX9_init 89 = .ok (.aload_n 0, 1) := by decide +kernel
theorem dX9_init_90 : decode cX9_init 90 = .ok (.aload_n 2, 1) := by decide +kernel
theorem dX9_init_91 : decode cX9_init 91 = .ok (.putfield 61, 3) := by decide +kernel
theorem dX9_init_94 : decode cX9_init 94 = .ok (.return_, 1) := by decide +kernel
theorem dX10_init_0 : decode cX10_init 0 = .ok (.aload_n 0, 1) := by decide +kernel
theorem dX10_init_1 : decode cX10_init 1 = .ok (.invokespecial 1, 3) := by decide +kernel
theorem dX10_init_4 : decode cX10_init 4 = .ok (.aload_n 0, 1) := by decide +kernel
theorem dX10_init_5 : decode cX10_init 5 = .ok (.sipush 4004, 3) := by decide +kernel
theorem dX10_init_8 : decode cX10_init 8 = .ok (.newarray .int, 2) := by decide +kernel
theorem dX10_init_10 : decode cX10_init 10 = .ok (.putfield 7, 3) := by decide +kernel
theorem dX10_init_13 : decode cX10_init 13 = .ok (.aload_n 0, 1) := by decide +kernel
theorem dX10_init_14 : decode cX10_init 14 = .ok (.iconst 0, 1) := by decide +kernel
theorem dX10_init_15 : decode cX10_init 15 = .ok (.putfield 13, 3) := by decide +kernel
theorem dX10_init_18 : decode cX10_init 18 = .ok (.aload_n 0, 1) := by decide +kernel
theorem dX10_init_19 : decode cX10_init 19 = .ok (.iconst 0, 1) := by decide +kernel
theorem dX10_init_20 : decode cX10_init 20 = .ok (.putfield 17, 3) := by decide +kernel
theorem dX10_init_23 : decode cX10_init 23 = .ok (.aload_n 0, 1) := by decide +kernel
theorem dX10_init_24 : decode cX10_init 24 = .ok (.sipush 16400, 3) := by decide +kernel
theorem dX10_init_27 : decode cX10_init 27 = .ok (.newarray .int, 2) := by decide +kernel
theorem dX10_init_29 : decode cX10_init 29 = .ok (.putfield 21, 3) := by decide +kernel
theorem dX10_init_32 : decode cX10_init 32 = .ok (.aload_n 0, 1) := by decide +kernel
theorem dX10_init_33 : decode cX10_init 33 = .ok (.sipush 16400, 3) := by decide +kernel
theorem dX10_init_36 : decode cX10_init 36 = .ok (.newarray .int, 2) := by decide +kernel
theorem dX10_init_38 : decode cX10_init 38 = .ok (.putfield 24, 3) := by decide +kernel
theorem dX10_init_41 : decode cX10_init 41 = .ok (.aload_n 0, 1) := by decide +kernel
theorem dX10_init_42 : decode cX10_init 42 = .ok (.sipush 16400, 3) := by decide +kernel
theorem dX10_init_45 : decode cX10_init 45 = .ok (.newarray .int, 2) := by decide +kernel
theorem dX10_init_47 : decode cX10_init 47 = .ok (.putfield 27, 3) := by decide +kernel
theorem dX10_init_50 : decode cX10_init 50 = .ok (.aload_n 0, 1) := by decide +kernel
theorem dX10_init_51 : decode cX10_init 51 = .ok (.sipush 16400, 3) := by decide +kernel
theorem dX10_init_54 : decode cX10_init 54 = .ok (.newarray .int, 2) := by decide +kernel
theorem dX10_init_56 : decode cX10_init 56 = .ok (.putfield 30, 3) := by decide +kernel
theorem dX10_init_59 : decode cX10_init 59 = .ok (.aload_n 0, 1) := by decide +kernel
theorem dX10_init_60 : decode cX10_init 60 = .ok (.sipush 16400, 3) := by decide +kernel
theorem dX10_init_63 : decode cX10_init 63 = .ok (.newarray .int, 2) := by decide +kernel
theorem dX10_init_65 : decode cX10_init 65 = .ok (.putfield 33, 3) := by decide +kernel
theorem dX10_init_68 : decode cX10_init 68 = .ok (.aload_n 0, 1) := by decide +kernel
theorem dX10_init_69 : decode cX10_init 69 = .ok (.sipush 16400, 3) := by decide +kernel
theorem dX10_init_72 : decode cX10_init 72 = .ok (.newarray .int, 2) := by decide +kernel
theorem dX10_init_74 : decode cX10_init 74 = .ok (.putfield 36, 3) := by decide +kernel
theorem dX10_init_77 : decode cX10_init 77 = .ok (.aload_n 0, 1) := by decide +kernel
theorem dX10_init_78 : decode cX10_init 78 = .ok (.iconst 0, 1) := by decide +kernel
theorem dX10_init_79 : decode cX10_init 79 = .ok (.putfield 39, 3) := by decide +kernel
theorem dX10_init_82 : decode cX10_init 82 = .ok (.aload_n 0, 1) := by decide +kernel
theorem dX10_init_83 : decode cX10_init 83 = .ok (.sipush 16800, 3) := by decide +kernel
theorem dX10_init_86 : decode cX10_init 86 = .ok (.newarray .int, 2) := by decide +kernel
theorem dX10_init_88 : decode cX10_init 88 = .ok (.putfield 42, 3) := by decide +kernel
theorem dX10_init_91 : decode cX10_init 91 = .ok (.aload_n 0, 1) := by decide +kernel
theorem dX10_init_92 : decode cX10_init 92 = .ok (.iconst 0, 1) := by decide +kernel
theorem dX10_init_93 : decode cX10_init 93 = .ok (.putfield 45, 3) := by decide +kernel
theorem dX10_init_96 : decode cX10_init 96 = .ok (.aload_n 0, 1) := by decide +kernel
theorem dX10_init_97 : decode cX10_init 97 = .ok (.iconst 0, 1) := by decide +kernel
theorem dX10_init_98 : decode cX10_init 98 = .ok (.putfield 48, 3) := by decide +kernel
theorem dX10_init_101 : decode cX10_init 101 = .ok (.aload_n 0, 1) := by decide +kernel
theorem dX10_init_102 : decode cX10_init 102 = .ok (.iconst 0, 1) := by decide +kernel
theorem dX10_init_103 : decode cX10_init 103 = .ok (.putfield 51, 3) := by decide +kernel
theorem dX10_init_106 : decode cX10_init 106 = .ok (.aload_n 0, 1) := by decide +kernel
theorem dX10_init_107 : decode cX10_init 107 = .ok (.iconst 0, 1) := by decide +kernel
theorem dX10_init_108 : decode cX10_init 108 = .ok (.putfield 54, 3) := by decide +kernel
theorem dX10_init_111 : decode cX10_init 111 = .ok (.aload_n 0, 1) := by decide +kernel
theorem dX10_init_112 : decode cX10_init 112 = .ok (.iconst 0, 1) := by decide +kernel
theorem dX10_init_113 : decode cX10_init 113 = .ok (.putfield 57, 3) := by decide +kernel
theorem dX10_init_116 : decode cX10_init 116 = .ok (.aload_n 0, 1) := by decide +kernel
theorem dX10_init_117 : decode cX10_init 117 = .ok (.aload_n 1, 1) := by decide +kernel
theorem dX10_init_118 : decode cX10_init 118 = .ok (.putfield 60, 3) := by decide +kernel
theorem dX10_init_121 : decode cX10_init 121 = .ok (.aload_n 0, 1) := by decide +kernel
theorem dX10_init_122 : decode cX10_init 122 = .ok (.aload_n 2, 1) := by decide +kernel
theorem dX10_init_123 : decode cX10_init 123 = .ok (.putfield 64, 3) := by decide +kernel
theorem dX10_init_126 : decode cX10_init 126 = .ok (.aload_n 0, 1) := by decide +kernel
theorem dX10_init_127 : decode cX10_init 127 = .ok (.aload_n 3, 1) := by decide +kernel
theorem dX10_init_128 : decode cX10_init 128 = .ok (.putfield 68, 3) := by decide +kernel
theorem dX10_init_131 : decode cX10_init 131 = .ok (.return_, 1) := by decide +kernel
theorem dX11_init_0 : decode cX11_init 0 = .ok (.aload_n 0, 1) := by decide +kernel
theorem dX11_init_1 : decode cX11_init 1 = .ok (.invokespecial 1, 3) := by decide +kernel
theorem dX11_init_4 : decode cX11_init 4 = .ok (.aload_n 0, 1) := by decide +kernel
theorem dX11_init_5 : decode cX11_init 5 = .ok (.aconst_null, 1) := by decide +kernel
theorem dX11_init_6 : decode cX11_init 6 = .ok (.putfield 7, 3) := by decide +kernel
theorem dX11_init_9 : decode cX11_init 9 = .ok (.aload_n 0, 1) := by decide +kernel
theorem dX11_init_10 : decode cX11_init 10 = .ok (.iconst 0, 1) := by decide +kernel
theorem dX11_init_11 : decode cX11_init 11 = .ok (.putfield 13, 3) := by decide +kernel
theorem dX11_init_14 : decode cX11_init 14 = .ok (.aload_n 0, 1) := by decide +kernel
theorem dX11_init_15 : decode cX11_init 15 = .ok (.iconst 0, 1) := by decide +kernel
theorem dX11_init_16 : decode cX11_init 16 = .ok (.putfield 17, 3) := by decide +kernel
theorem dX11_init_19 : decode cX11_init 19 = .ok (.aload_n 0, 1) := by decide +kernel
theorem dX11_init_20 : decode cX11_init 20 = .ok (.iconst (-1), 1) := by decide +kernel
theorem dX11_init_21 : decode cX11_init 21 = .ok (.putfield 20, 3) := by decide +kernel
theorem dX11_init_24 : decode cX11_init 24 = .ok (.aload_n 0, 1) := by decide +kernel
theorem dX11_init_25 : decode cX11_init 25 = .ok (.iconst 0, 1) := by decide +kernel
theorem dX11_init_26 : decode cX11_init 26 = .ok (.putfield 23, 3) := by decide +kernel
theorem dX11_init_29 : decode cX11_init 29 = .ok (.aload_n 0, 1) := by decide +kernel
theorem dX11_init_30 : decode cX11_init 30 = .ok (.lconst 0, 1) := by decide +kernel
theorem dX11_init_31 : decode cX11_init 31 = .ok (.putfield 26, 3) := by decide +kernel
theorem dX11_init_34 : decode cX11_init 34 = .ok (.aload_n 0, 1) := by decide +kernel
theorem dX11_init_35 : decode cX11_init 35 = .ok (.sipush 6004, 3) := by decide +kernel
theorem dX11_init_38 : decode cX11_init 38 = .ok (.newarray .int, 2) := by decide +kernel
theorem dX11_init_40 : decode cX11_init 40 = .ok (.putfield 30, 3) := by decide +kernel
theorem dX11_init_43 : decode cX11_init 43 = .ok (.aload_n 0, 1) := by decide +kernel
theorem dX11_init_44 : decode cX11_init 44 = .ok (.iconst 0, 1) := by decide +kernel
theorem dX11_init_45 : decode cX11_init 45 = .ok (.putfield 33, 3) := by decide +kernel
theorem dX11_init_48 : decode cX11_init 48 = .ok (.aload_n 0, 1) := by decide +kernel
theorem dX11_init_49 : decode cX11_init 49 = .ok (.ldc 36, 2) := by decide +kernel
theorem dX11_init_51 : decode cX11_init 51 = .ok (.newarray .int, 2) := by decide +kernel
theorem dX11_init_53 : decode cX11_init 53 = .ok (.putfield 37, 3) := by decide +kernel
theorem dX11_init_56 : decode cX11_init 56 = .ok (.aload_n 0, 1) := by decide +kernel
theorem dX11_init_57 : decode cX11_init 57 = .ok (.iconst 0, 1) := by decide +kernel
theorem dX11_init_58 : decode cX11_init 58 = .ok (.putfield 40, 3) := by decide +kernel
theorem dX11_init_61 : decode cX11_init 61 = .ok (.aload_n 0, 1) := by decide +kernel
theorem dX11_init_62 : decode cX11_init 62 = .ok (.iconst 0, 1) := by decide +kernel
theorem dX11_init_63 : decode cX11_init 63 = .ok (.putfield 43, 3) := by decide +kernel
theorem dX11_init_66 : decode cX11_init 66 = .ok (.aload_n 0, 1) := by decide +kernel
theorem dX11_init_67 : decode cX11_init 67 = .ok (.iconst 0, 1) := by decide +kernel
theorem dX11_init_68 : decode cX11_init 68 = .ok (.putfield 46, 3) := by decide +kernel
theorem dX11_init_71 : decode cX11_init 71 = .ok (.aload_n 0, 1) := by decide +kernel
theorem dX11_init_72 : decode cX11_init 72 = .ok (.aload_n 1, 1) := by decide +kernel
theorem dX11_init_73 : decode cX11_init 73 = .ok (.putfield 50, 3) := by decide +kernel
theorem dX11_init_76 : decode cX11_init 76 = .ok (.return_, 1) := by decide +kernel
abbrev vwCl : List vw_C := [(RX0, TX0, 9), (RX1, TX1, 16), (RX2, TX2, 16), (RX3, TX3, 15), (RX4, TX4, 8), (RX5, TX5, 18), (RX6, TX6, 16), (RX7, TX7, 7), (RX8, TX8, 15), (RX9, TX9, 16), (RX10, TX10, 19), (RX11, TX11, 13), (RX12, TX12, 15), (RX13, TX13, 23), (RX14, TX14, 6), (RX15, TX15, 8), (RX16, TX16, 243)]
theorem inX10_init_X10 : ∀ w ∈ wsX100, w ∈ wsX10_init := fun _ h => (List.mem_cons_of_mem _ (List.mem_append_right _ h))
theorem inX11_init_X11 : ∀ w ∈ wsX110, w ∈ wsX11_init := fun _ h => (List.mem_cons_of_mem _ (List.mem_append_right _ h))
theorem inX2_init_X2 : ∀ w ∈ wsX20, w ∈ wsX2_init := fun _ h => (List.mem_cons_of_mem _ (List.mem_append_right _ h))
theorem inX3_init_X3 : ∀ w ∈ wsX30, w ∈ wsX3_init := fun _ h => (List.mem_cons_of_mem _ (List.mem_append_right _ h))
theorem inX4_init_X4 : ∀ w ∈ wsX40, w ∈ wsX4_init := fun _ h => (List.mem_cons_of_mem _ (List.mem_append_right _ h))
theorem inX4_reset_X4 : ∀ w ∈ wsX40, w ∈ wsX4_reset := fun _ h => (List.mem_cons_of_mem _ (List.mem_append_right _ h))
theorem inX4_room_X4 : ∀ w ∈ wsX40, w ∈ wsX4_room := fun _ h => (List.mem_cons_of_mem _ (List.mem_append_right _ h))
theorem inX5_init_X5 : ∀ w ∈ wsX50, w ∈ wsX5_init := fun _ h => (List.mem_cons_of_mem _ (List.mem_append_right _ h))
theorem inX8_init_X8 : ∀ w ∈ wsX80, w ∈ wsX8_init := fun _ h => (List.mem_cons_of_mem _ (List.mem_append_right _ h))
theorem inX9_init_X9 : ∀ w ∈ wsX90, w ∈ wsX9_init := fun _ h => (List.mem_cons_of_mem _ (List.mem_append_right _ h))
