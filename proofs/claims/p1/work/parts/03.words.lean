theorem goodIn_r {big : List Cond} (ws : List Cond) (ps : List Nat) (hp : ws = ps.filterMap (fun i => big[i]?)) (h : ws.all goodWord = true) : GoodIn big ws := by
  intro w hw
  have h1 := List.all_eq_true.mp h w hw
  rw [hp] at hw
  obtain ⟨i, -, hi⟩ := List.mem_filterMap.mp hw
  have hm : w ∈ big := by first | exact List.mem_of_getElem? hi | exact List.getElem?_mem hi
  exact ⟨hm, good_of_word h1⟩
theorem goodIn_app {big a b : List Cond} (ha : GoodIn big a) (hb : GoodIn big b) : GoodIn big (a ++ b) := fun w h => (List.mem_append.mp h).elim (ha w) (hb w)
theorem goodIn_ca {big a b : List Cond} {c : Cond} (ha : GoodIn big (c :: a)) (hb : GoodIn big b) : GoodIn big (c :: (a ++ b)) := fun w h => (List.mem_cons.mp h).elim (fun e => ha w (List.mem_cons.mpr (Or.inl e))) (fun h => (List.mem_append.mp h).elim (fun h => ha w (List.mem_cons.mpr (Or.inr h))) (hb w))
theorem goodIn_sub {big ws : List Cond} (hm : ∀ w ∈ ws, w ∈ big) (h : ws.all goodWord = true) : GoodIn big ws := fun w hw => ⟨hm w hw, good_of_word (List.all_eq_true.mp h w hw)⟩
abbrev zT (cA : Nat → ClassId) : List (ClassId × FieldType) := [(cA 0, .byte), (cA 1, .int), (cA 2, .long), (cA 3, .boolean), (cA 4, .object "PolicyHouse$Query"), (cA 5, .object "PolicyHouse$Tree"), (cA 6, .object "PolicyHouseModel$Values")]
def RX0 : String := "PolicyHouse$Builtins"
def TX0 : u_T := fun k => match k with
  | 0 => ("PolicyHouse$Builtins", "heap", "LPolicyHouse$Heap;", true)
  | 1 => ("PolicyHouse$Builtins", "texts", "LPolicyHouse$Texts;", true)
  | 2 => ("PolicyHouse$Builtins", "strings", "LPolicyHouse$Strings;", true)
  | 3 => ("PolicyHouse$Builtins", "arg", "[I", true)
  | 4 => ("PolicyHouse$Builtins", "spent", "I", false)
  | 5 => ("PolicyHouse$Builtins", "path", "[I", true)
  | 6 => ("PolicyHouse$Builtins", "from", "[I", true)
  | 7 => ("PolicyHouse$Builtins", "member", "[I", true)
  | _ => ("PolicyHouse$Builtins", "heavy", "I", false)
abbrev wsX00 : List Cond := u_ws RX0 TX0 9
abbrev cX0_init : ByteArray := prog_2_method_1_code
def yX0_init : MethodName := ⟨RX0, "<init>", "(LPolicyHouse$Heap;LPolicyHouse$Texts;LPolicyHouse$Names;LPolicyHouse$Strings;)V"⟩
def RX1 : String := "PolicyHouse$Bundle"
def TX1 : u_T := fun k => match k with
  | 0 => ("PolicyHouse$Bundle", "mods", "[LPolicyHouse$Tree;", true)
  | 1 => ("PolicyHouse$Bundle", "count", "I", true)
  | 2 => ("PolicyHouse$Bundle", "rules", "I", false)
  | 3 => ("PolicyHouse$Bundle", "parts", "I", false)
  | 4 => ("PolicyHouse$Bundle", "rule", "[I", true)
  | 5 => ("PolicyHouse$Bundle", "part", "[I", true)
  | 6 => ("PolicyHouse$Bundle", "nodeRule", "[I", true)
  | 7 => ("PolicyHouse$Bundle", "inner", "[I", true)
  | 8 => ("PolicyHouse$Bundle", "words", "I", false)
  | 9 => ("PolicyHouse$Bundle", "reads", "[I", false)
  | 10 => ("PolicyHouse$Bundle", "rank", "[I", false)
  | 11 => ("PolicyHouse$Bundle", "branch", "[I", false)
  | 12 => ("PolicyHouse$Bundle", "code", "[I", false)
  | 13 => ("PolicyHouse$Bundle", "kind", "I", false)
  | 14 => ("PolicyHouse$Bundle", "module", "I", false)
  | _ => ("PolicyHouse$Bundle", "place", "I", false)
abbrev wsX10 : List Cond := u_ws RX1 TX1 16
abbrev cX1_init : ByteArray := prog_3_method_1_code
def yX1_init : MethodName := ⟨RX1, "<init>", "([LPolicyHouse$Tree;II)V"⟩
def RX2 : String := "PolicyHouse$Checker"
def TX2 : u_T := fun k => match k with
  | 0 => ("PolicyHouse$Checker", "heap", "LPolicyHouse$Heap;", true)
  | 1 => ("PolicyHouse$Checker", "names", "LPolicyHouse$Names;", true)
  | 2 => ("PolicyHouse$Checker", "b", "LPolicyHouse$Bundle;", false)
  | 3 => ("PolicyHouse$Checker", "t", "LPolicyHouse$Tree;", false)
  | 4 => ("PolicyHouse$Checker", "module", "I", false)
  | 5 => ("PolicyHouse$Checker", "declared", "[I", true)
  | 6 => ("PolicyHouse$Checker", "scopeOf", "[I", true)
  | 7 => ("PolicyHouse$Checker", "placeOf", "[I", true)
  | 8 => ("PolicyHouse$Checker", "count", "I", false)
  | 9 => ("PolicyHouse$Checker", "around", "[I", true)
  | 10 => ("PolicyHouse$Checker", "scopes", "I", false)
  | 11 => ("PolicyHouse$Checker", "badKind", "I", false)
  | 12 => ("PolicyHouse$Checker", "badPlace", "I", false)
  | 13 => ("PolicyHouse$Checker", "bits", "[I", true)
  | 14 => ("PolicyHouse$Checker", "direct", "[I", true)
  | _ => ("PolicyHouse$Checker", "all", "[I", true)
abbrev wsX20 : List Cond := u_ws RX2 TX2 16
abbrev cX2_init : ByteArray := prog_4_method_1_code
def yX2_init : MethodName := ⟨RX2, "<init>", "(LPolicyHouse$Heap;LPolicyHouse$Names;)V"⟩
abbrev cX2_bundle : ByteArray := prog_4_method_2_code
def yX2_bundle : MethodName := ⟨RX2, "bundle", "([LPolicyHouse$Tree;I)LPolicyHouse$Bundle;"⟩
abbrev cX2_gather : ByteArray := prog_4_method_3_code
def yX2_gather : MethodName := ⟨RX2, "gather", "()V"⟩
abbrev cX2_findClash : ByteArray := prog_4_method_5_code
def yX2_findClash : MethodName := ⟨RX2, "findClash", "()V"⟩
abbrev cX2_findReads : ByteArray := prog_4_method_38_code
def yX2_findReads : MethodName := ⟨RX2, "findReads", "()V"⟩
abbrev cX2_findDepth : ByteArray := prog_4_method_41_code
def yX2_findDepth : MethodName := ⟨RX2, "findDepth", "()V"⟩
def RX3 : String := "PolicyHouse$Coder"
def TX3 : u_T := fun k => match k with
  | 0 => ("PolicyHouse$Coder", "heap", "LPolicyHouse$Heap;", true)
  | 1 => ("PolicyHouse$Coder", "names", "LPolicyHouse$Names;", true)
  | 2 => ("PolicyHouse$Coder", "checker", "LPolicyHouse$Checker;", true)
  | 3 => ("PolicyHouse$Coder", "b", "LPolicyHouse$Bundle;", false)
  | 4 => ("PolicyHouse$Coder", "t", "LPolicyHouse$Tree;", false)
  | 5 => ("PolicyHouse$Coder", "code", "[I", true)
  | 6 => ("PolicyHouse$Coder", "size", "I", false)
  | 7 => ("PolicyHouse$Coder", "registers", "I", false)
  | 8 => ("PolicyHouse$Coder", "owner", "I", false)
  | 9 => ("PolicyHouse$Coder", "known", "I", false)
  | 10 => ("PolicyHouse$Coder", "scope", "I", false)
  | 11 => ("PolicyHouse$Coder", "badKind", "I", false)
  | 12 => ("PolicyHouse$Coder", "badPlace", "I", false)
  | 13 => ("PolicyHouse$Coder", "ops", "[I", true)
  | _ => ("PolicyHouse$Coder", "used", "I", false)
abbrev wsX30 : List Cond := u_ws RX3 TX3 15
abbrev cX3_init : ByteArray := prog_5_method_1_code
def yX3_init : MethodName := ⟨RX3, "<init>", "(LPolicyHouse$Heap;LPolicyHouse$Names;LPolicyHouse$Checker;)V"⟩
abbrev cX3_finish : ByteArray := prog_5_method_2_code
def yX3_finish : MethodName := ⟨RX3, "finish", "(LPolicyHouse$Bundle;)V"⟩
abbrev cX3_encode : ByteArray := prog_5_method_27_code
def yX3_encode : MethodName := ⟨RX3, "encode", "()V"⟩
def RX4 : String := "PolicyHouse$Heap"
def TX4 : u_T := fun k => match k with
  | 0 => ("PolicyHouse$Heap", "cell", "[I", true)
  | 1 => ("PolicyHouse$Heap", "acc", "[I", true)
  | 2 => ("PolicyHouse$Heap", "spare", "[I", true)
  | 3 => ("PolicyHouse$Heap", "used", "I", false)
  | 4 => ("PolicyHouse$Heap", "kept", "I", false)
  | 5 => ("PolicyHouse$Heap", "top", "I", false)
  | 6 => ("PolicyHouse$Heap", "end", "I", false)
  | _ => ("PolicyHouse$Heap", "full", "Z", false)
abbrev wsX40 : List Cond := u_ws RX4 TX4 8
abbrev cX4_init : ByteArray := prog_6_method_1_code
def yX4_init : MethodName := ⟨RX4, "<init>", "()V"⟩
abbrev cX4_empty : ByteArray := prog_6_method_2_code
def yX4_empty : MethodName := ⟨RX4, "empty", "(I)I"⟩
abbrev cX4_room : ByteArray := prog_6_method_3_code
def yX4_room : MethodName := ⟨RX4, "room", "(I)I"⟩
abbrev cX4_reset : ByteArray := prog_6_method_4_code
def yX4_reset : MethodName := ⟨RX4, "reset", "(I)V"⟩
abbrev cX4_kind : ByteArray := prog_6_method_6_code
def yX4_kind : MethodName := ⟨RX4, "kind", "(I)I"⟩
abbrev cX4_size : ByteArray := prog_6_method_7_code
def yX4_size : MethodName := ⟨RX4, "size", "(I)I"⟩
abbrev cX4_weight : ByteArray := prog_6_method_10_code
def yX4_weight : MethodName := ⟨RX4, "weight", "(I)I"⟩
abbrev cX4_keepString : ByteArray := prog_6_method_18_code
def yX4_keepString : MethodName := ⟨RX4, "keepString", "([III)I"⟩
abbrev cX4_made : ByteArray := prog_6_method_23_code
def yX4_made : MethodName := ⟨RX4, "made", "(IIZ)I"⟩
abbrev cX4_copy : ByteArray := prog_6_method_29_code
def yX4_copy : MethodName := ⟨RX4, "copy", "(I)I"⟩
abbrev cX4_copyTo : ByteArray := prog_6_method_30_code
def yX4_copyTo : MethodName := ⟨RX4, "copyTo", "(II)I"⟩
def RX5 : String := "PolicyHouse$Machine"
def TX5 : u_T := fun k => match k with
  | 0 => ("PolicyHouse$Machine", "heap", "LPolicyHouse$Heap;", true)
  | 1 => ("PolicyHouse$Machine", "scopes", "LPolicyHouse$Scopes;", true)
  | 2 => ("PolicyHouse$Machine", "builtins", "LPolicyHouse$Builtins;", true)
  | 3 => ("PolicyHouse$Machine", "regs", "[I", true)
  | 4 => ("PolicyHouse$Machine", "cp", "[I", true)
  | 5 => ("PolicyHouse$Machine", "choices", "I", false)
  | 6 => ("PolicyHouse$Machine", "pc", "I", false)
  | 7 => ("PolicyHouse$Machine", "fp", "I", false)
  | 8 => ("PolicyHouse$Machine", "top", "I", false)
  | 9 => ("PolicyHouse$Machine", "failing", "Z", false)
  | 10 => ("PolicyHouse$Machine", "stopped", "Z", false)
  | 11 => ("PolicyHouse$Machine", "pending", "Z", false)
  | 12 => ("PolicyHouse$Machine", "bundle", "LPolicyHouse$Bundle;", false)
  | 13 => ("PolicyHouse$Machine", "own", "[I", false)
  | 14 => ("PolicyHouse$Machine", "c", "[I", false)
  | 15 => ("PolicyHouse$Machine", "p", "I", false)
  | 16 => ("PolicyHouse$Machine", "scope", "I", false)
  | 17 => ("PolicyHouse$Machine", "results", "I", false)
  | _ => ("PolicyHouse$Machine", "fixed", "[I", true)
abbrev wsX50 : List Cond := u_ws RX5 TX5 19
abbrev cX5_init : ByteArray := prog_7_method_1_code
def yX5_init : MethodName := ⟨RX5, "<init>", "(LPolicyHouse$Heap;LPolicyHouse$Scopes;LPolicyHouse$Builtins;)V"⟩
def RX6 : String := "PolicyHouse$Names"
def TX6 : u_T := fun k => match k with
  | 0 => ("PolicyHouse$Names", "heap", "LPolicyHouse$Heap;", true)
  | 1 => ("PolicyHouse$Names", "table", "[I", true)
  | 2 => ("PolicyHouse$Names", "parent", "[I", true)
  | 3 => ("PolicyHouse$Names", "name", "[I", true)
  | 4 => ("PolicyHouse$Names", "child", "[I", true)
  | 5 => ("PolicyHouse$Names", "sibling", "[I", true)
  | 6 => ("PolicyHouse$Names", "nodes", "I", false)
  | 7 => ("PolicyHouse$Names", "words", "[I", true)
  | 8 => ("PolicyHouse$Names", "builtin", "[I", true)
  | 9 => ("PolicyHouse$Names", "kinds", "[I", true)
  | 10 => ("PolicyHouse$Names", "arity", "[I", true)
  | 11 => ("PolicyHouse$Names", "letters", "[I", true)
  | 12 => ("PolicyHouse$Names", "input", "I", true)
  | 13 => ("PolicyHouse$Names", "data", "I", true)
  | 14 => ("PolicyHouse$Names", "set", "I", true)
  | _ => ("PolicyHouse$Names", "blank", "I", true)
abbrev wsX60 : List Cond := u_ws RX6 TX6 16
abbrev cX6_init : ByteArray := prog_8_method_1_code
def yX6_init : MethodName := ⟨RX6, "<init>", "(LPolicyHouse$Heap;)V"⟩
abbrev cX6_stopOf : ByteArray := prog_8_method_2_code
def yX6_stopOf : MethodName := ⟨RX6, "stopOf", "(Ljava/lang/String;I)I"⟩
abbrev cX6_symOf : ByteArray := prog_8_method_3_code
def yX6_symOf : MethodName := ⟨RX6, "symOf", "(Ljava/lang/String;II)I"⟩
abbrev cX6_nodeOf : ByteArray := prog_8_method_4_code
def yX6_nodeOf : MethodName := ⟨RX6, "nodeOf", "(Ljava/lang/String;II)I"⟩
abbrev cX6_same : ByteArray := prog_8_method_5_code
def yX6_same : MethodName := ⟨RX6, "same", "(I[III)Z"⟩
abbrev cX6_sym : ByteArray := prog_8_method_6_code
def yX6_sym : MethodName := ⟨RX6, "sym", "([III)I"⟩
abbrev cX6_find : ByteArray := prog_8_method_7_code
def yX6_find : MethodName := ⟨RX6, "find", "(II)I"⟩
abbrev cX6_node : ByteArray := prog_8_method_9_code
def yX6_node : MethodName := ⟨RX6, "node", "(II)I"⟩
def RX7 : String := "PolicyHouse$Query"
def TX7 : u_T := fun k => match k with
  | 0 => ("PolicyHouse$Query", "tree", "LPolicyHouse$Tree;", true)
  | 1 => ("PolicyHouse$Query", "bundle", "LPolicyHouse$Bundle;", false)
  | 2 => ("PolicyHouse$Query", "value", "I", false)
  | 3 => ("PolicyHouse$Query", "frame", "I", false)
  | 4 => ("PolicyHouse$Query", "code", "[I", false)
  | 5 => ("PolicyHouse$Query", "reads", "[I", false)
  | _ => ("PolicyHouse$Query", "order", "[I", false)
abbrev wsX70 : List Cond := u_ws RX7 TX7 7
def RX8 : String := "PolicyHouse$Reader"
def TX8 : u_T := fun k => match k with
  | 0 => ("PolicyHouse$Reader", "heap", "LPolicyHouse$Heap;", true)
  | 1 => ("PolicyHouse$Reader", "texts", "LPolicyHouse$Texts;", true)
  | 2 => ("PolicyHouse$Reader", "names", "LPolicyHouse$Names;", true)
  | 3 => ("PolicyHouse$Reader", "sort", "[I", true)
  | 4 => ("PolicyHouse$Reader", "place", "[I", true)
  | 5 => ("PolicyHouse$Reader", "gap", "[I", true)
  | 6 => ("PolicyHouse$Reader", "worth", "[I", true)
  | 7 => ("PolicyHouse$Reader", "bad", "I", false)
  | 8 => ("PolicyHouse$Reader", "tokens", "I", false)
  | 9 => ("PolicyHouse$Reader", "now", "I", false)
  | 10 => ("PolicyHouse$Reader", "deep", "I", false)
  | 11 => ("PolicyHouse$Reader", "wrong", "I", false)
  | 12 => ("PolicyHouse$Reader", "skipped", "I", false)
  | 13 => ("PolicyHouse$Reader", "stop", "I", false)
  | _ => ("PolicyHouse$Reader", "tree", "LPolicyHouse$Tree;", false)
abbrev wsX80 : List Cond := u_ws RX8 TX8 15
abbrev cX8_init : ByteArray := prog_10_method_1_code
def yX8_init : MethodName := ⟨RX8, "<init>", "(LPolicyHouse$Heap;LPolicyHouse$Texts;LPolicyHouse$Names;)V"⟩
abbrev cX8_behindBlanks : ByteArray := prog_10_method_3_code
def yX8_behindBlanks : MethodName := ⟨RX8, "behindBlanks", "([III)I"⟩
abbrev cX8_split : ByteArray := prog_10_method_4_code
def yX8_split : MethodName := ⟨RX8, "split", "([II)V"⟩
abbrev cX8_is : ByteArray := prog_10_method_8_code
def yX8_is : MethodName := ⟨RX8, "is", "(I)Z"⟩
abbrev cX8_fail : ByteArray := prog_10_method_10_code
def yX8_fail : MethodName := ⟨RX8, "fail", "()V"⟩
abbrev cX8_take : ByteArray := prog_10_method_11_code
def yX8_take : MethodName := ⟨RX8, "take", "()V"⟩
abbrev cX8_takes : ByteArray := prog_10_method_12_code
def yX8_takes : MethodName := ⟨RX8, "takes", "(I)Z"⟩
abbrev cX8_need : ByteArray := prog_10_method_13_code
def yX8_need : MethodName := ⟨RX8, "need", "(I)V"⟩
abbrev cX8_plainName : ByteArray := prog_10_method_17_code
def yX8_plainName : MethodName := ⟨RX8, "plainName", "()I"⟩
abbrev cX8_node : ByteArray := prog_10_method_18_code
def yX8_node : MethodName := ⟨RX8, "node", "(I)I"⟩
abbrev cX8_path : ByteArray := prog_10_method_19_code
def yX8_path : MethodName := ⟨RX8, "path", "(II)I"⟩
abbrev cX8_readModule : ByteArray := prog_10_method_20_code
def yX8_readModule : MethodName := ⟨RX8, "readModule", "([II)LPolicyHouse$Tree;"⟩
abbrev cX8_readQuery : ByteArray := prog_10_method_21_code
def yX8_readQuery : MethodName := ⟨RX8, "readQuery", "([II)LPolicyHouse$Tree;"⟩
abbrev cX8_readLiterals : ByteArray := prog_10_method_28_code
def yX8_readLiterals : MethodName := ⟨RX8, "readLiterals", "(II)V"⟩
abbrev cX8_readLiteral : ByteArray := prog_10_method_29_code
def yX8_readLiteral : MethodName := ⟨RX8, "readLiteral", "()I"⟩
abbrev cX8_readWiths : ByteArray := prog_10_method_30_code
def yX8_readWiths : MethodName := ⟨RX8, "readWiths", "(I)V"⟩
abbrev cX8_readExpression : ByteArray := prog_10_method_34_code
def yX8_readExpression : MethodName := ⟨RX8, "readExpression", "(I)I"⟩
abbrev cX8_readLevel : ByteArray := prog_10_method_35_code
def yX8_readLevel : MethodName := ⟨RX8, "readLevel", "(II)V"⟩
abbrev cX8_readTerm : ByteArray := prog_10_method_37_code
def yX8_readTerm : MethodName := ⟨RX8, "readTerm", "()I"⟩
abbrev cX8_readScalar : ByteArray := prog_10_method_38_code
def yX8_readScalar : MethodName := ⟨RX8, "readScalar", "()I"⟩
def RX9 : String := "PolicyHouse$Scopes"
def TX9 : u_T := fun k => match k with
  | 0 => ("PolicyHouse$Scopes", "heap", "LPolicyHouse$Heap;", true)
  | 1 => ("PolicyHouse$Scopes", "names", "LPolicyHouse$Names;", true)
  | 2 => ("PolicyHouse$Scopes", "bundle", "LPolicyHouse$Bundle;", false)
  | 3 => ("PolicyHouse$Scopes", "now", "I", false)
  | 4 => ("PolicyHouse$Scopes", "outNode", "I", false)
  | 5 => ("PolicyHouse$Scopes", "outValue", "I", false)
  | 6 => ("PolicyHouse$Scopes", "path", "[I", true)
  | 7 => ("PolicyHouse$Scopes", "need", "[I", true)
  | 8 => ("PolicyHouse$Scopes", "fuel", "I", false)
  | 9 => ("PolicyHouse$Scopes", "free", "Z", false)
  | 10 => ("PolicyHouse$Scopes", "strict", "Z", false)
  | 11 => ("PolicyHouse$Scopes", "limit", "Z", false)
  | 12 => ("PolicyHouse$Scopes", "notes", "I", false)
  | 13 => ("PolicyHouse$Scopes", "leastRule", "I", false)
  | 14 => ("PolicyHouse$Scopes", "leastBuiltin", "I", false)
  | _ => ("PolicyHouse$Scopes", "tries", "[I", true)
abbrev wsX90 : List Cond := u_ws RX9 TX9 16
abbrev cX9_init : ByteArray := prog_11_method_1_code
def yX9_init : MethodName := ⟨RX9, "<init>", "(LPolicyHouse$Heap;LPolicyHouse$Names;)V"⟩
def RX10 : String := "PolicyHouse$Strings"
def TX10 : u_T := fun k => match k with
  | 0 => ("PolicyHouse$Strings", "heap", "LPolicyHouse$Heap;", true)
  | 1 => ("PolicyHouse$Strings", "texts", "LPolicyHouse$Texts;", true)
  | 2 => ("PolicyHouse$Strings", "names", "LPolicyHouse$Names;", true)
  | 3 => ("PolicyHouse$Strings", "buf", "[I", true)
  | 4 => ("PolicyHouse$Strings", "size", "I", false)
  | 5 => ("PolicyHouse$Strings", "over", "Z", false)
  | 6 => ("PolicyHouse$Strings", "code", "[I", true)
  | 7 => ("PolicyHouse$Strings", "jump", "[I", true)
  | 8 => ("PolicyHouse$Strings", "mark", "[I", true)
  | 9 => ("PolicyHouse$Strings", "here", "[I", true)
  | 10 => ("PolicyHouse$Strings", "there", "[I", true)
  | 11 => ("PolicyHouse$Strings", "stack", "[I", true)
  | 12 => ("PolicyHouse$Strings", "length", "I", false)
  | 13 => ("PolicyHouse$Strings", "sets", "[I", true)
  | 14 => ("PolicyHouse$Strings", "count", "I", false)
  | 15 => ("PolicyHouse$Strings", "pos", "I", false)
  | 16 => ("PolicyHouse$Strings", "end", "I", false)
  | 17 => ("PolicyHouse$Strings", "bad", "Z", false)
  | _ => ("PolicyHouse$Strings", "threads", "I", false)
abbrev wsX100 : List Cond := u_ws RX10 TX10 19
abbrev cX10_init : ByteArray := prog_12_method_1_code
def yX10_init : MethodName := ⟨RX10, "<init>", "(LPolicyHouse$Heap;LPolicyHouse$Texts;LPolicyHouse$Names;)V"⟩
def RX11 : String := "PolicyHouse$Texts"
def TX11 : u_T := fun k => match k with
  | 0 => ("PolicyHouse$Texts", "heap", "LPolicyHouse$Heap;", true)
  | 1 => ("PolicyHouse$Texts", "in", "[I", false)
  | 2 => ("PolicyHouse$Texts", "to", "I", false)
  | 3 => ("PolicyHouse$Texts", "pos", "I", false)
  | 4 => ("PolicyHouse$Texts", "wrong", "I", false)
  | 5 => ("PolicyHouse$Texts", "stop", "I", false)
  | 6 => ("PolicyHouse$Texts", "value", "J", false)
  | 7 => ("PolicyHouse$Texts", "buf", "[I", true)
  | 8 => ("PolicyHouse$Texts", "size", "I", false)
  | 9 => ("PolicyHouse$Texts", "out", "[I", true)
  | 10 => ("PolicyHouse$Texts", "stored", "Z", false)
  | 11 => ("PolicyHouse$Texts", "packed", "[J", false)
  | 12 => ("PolicyHouse$Texts", "length", "I", false)
  | 13 => ("PolicyHouse$Texts", "limit", "I", false)
  | _ => ("PolicyHouse$Texts", "over", "Z", false)
abbrev wsX110 : List Cond := u_ws RX11 TX11 15
abbrev cX11_init : ByteArray := prog_13_method_1_code
def yX11_init : MethodName := ⟨RX11, "<init>", "(LPolicyHouse$Heap;)V"⟩
abbrev cX11_readJson : ByteArray := prog_13_method_10_code
def yX11_readJson : MethodName := ⟨RX11, "readJson", "([III)I"⟩
abbrev cX11_skip : ByteArray := prog_13_method_11_code
def yX11_skip : MethodName := ⟨RX11, "skip", "()V"⟩
abbrev cX11_fail : ByteArray := prog_13_method_12_code
def yX11_fail : MethodName := ⟨RX11, "fail", "(I)V"⟩
abbrev cX11_readValue : ByteArray := prog_13_method_16_code
def yX11_readValue : MethodName := ⟨RX11, "readValue", "(I)I"⟩
def RX12 : String := "PolicyHouse$Tree"
def TX12 : u_T := fun k => match k with
  | 0 => ("PolicyHouse$Tree", "kind", "[I", true)
  | 1 => ("PolicyHouse$Tree", "at", "[I", true)
  | 2 => ("PolicyHouse$Tree", "a", "[I", true)
  | 3 => ("PolicyHouse$Tree", "b", "[I", true)
  | 4 => ("PolicyHouse$Tree", "c", "[I", true)
  | 5 => ("PolicyHouse$Tree", "first", "[I", true)
  | 6 => ("PolicyHouse$Tree", "next", "[I", true)
  | 7 => ("PolicyHouse$Tree", "last", "[I", true)
  | 8 => ("PolicyHouse$Tree", "res", "[I", true)
  | 9 => ("PolicyHouse$Tree", "ref", "[I", true)
  | 10 => ("PolicyHouse$Tree", "size", "I", false)
  | 11 => ("PolicyHouse$Tree", "pack", "I", false)
  | 12 => ("PolicyHouse$Tree", "root", "I", false)
  | 13 => ("PolicyHouse$Tree", "imports", "I", false)
  | _ => ("PolicyHouse$Tree", "rules", "I", false)
abbrev wsX120 : List Cond := u_ws RX12 TX12 15
abbrev cX12_init : ByteArray := prog_14_method_1_code
def yX12_init : MethodName := ⟨RX12, "<init>", "(I)V"⟩
abbrev cX12_add : ByteArray := prog_14_method_2_code
def yX12_add : MethodName := ⟨RX12, "add", "(II)I"⟩
abbrev cX12_append : ByteArray := prog_14_method_3_code
def yX12_append : MethodName := ⟨RX12, "append", "(II)V"⟩
def RX13 : String := "PolicyHouse"
def TX13 : u_T := fun k => match k with
  | 0 => ("PolicyHouse", "heap", "LPolicyHouse$Heap;", true)
  | 1 => ("PolicyHouse", "texts", "LPolicyHouse$Texts;", true)
  | 2 => ("PolicyHouse", "names", "LPolicyHouse$Names;", true)
  | 3 => ("PolicyHouse", "reader", "LPolicyHouse$Reader;", true)
  | 4 => ("PolicyHouse", "checker", "LPolicyHouse$Checker;", true)
  | 5 => ("PolicyHouse", "coder", "LPolicyHouse$Coder;", true)
  | 6 => ("PolicyHouse", "scopes", "LPolicyHouse$Scopes;", true)
  | 7 => ("PolicyHouse", "machine", "LPolicyHouse$Machine;", true)
  | 8 => ("PolicyHouse", "tape", "[I", true)
  | 9 => ("PolicyHouse", "taped", "I", false)
  | 10 => ("PolicyHouse", "feeds", "I", false)
  | 11 => ("PolicyHouse", "draft", "[LPolicyHouse$Tree;", true)
  | 12 => ("PolicyHouse", "drafts", "I", false)
  | 13 => ("PolicyHouse", "built", "LPolicyHouse$Bundle;", false)
  | 14 => ("PolicyHouse", "active", "LPolicyHouse$Bundle;", false)
  | 15 => ("PolicyHouse", "queries", "[LPolicyHouse$Query;", true)
  | 16 => ("PolicyHouse", "found", "[I", true)
  | 17 => ("PolicyHouse", "data", "I", false)
  | 18 => ("PolicyHouse", "input", "I", false)
  | 19 => ("PolicyHouse", "ranData", "I", false)
  | 20 => ("PolicyHouse", "ranInput", "I", false)
  | 21 => ("PolicyHouse", "shown", "[J", false)
  | _ => ("PolicyHouse", "bytes", "I", false)
abbrev wsX130 : List Cond := u_ws RX13 TX13 23
abbrev cX13_init : ByteArray := prog_1_method_1_code
def yX13_init : MethodName := ⟨RX13, "<init>", "()V"⟩
abbrev cX13_feed : ByteArray := prog_1_method_2_code
def yX13_feed : MethodName := ⟨RX13, "feed", "(IIIII)Z"⟩
abbrev cX13_put : ByteArray := prog_1_method_3_code
def yX13_put : MethodName := ⟨RX13, "put", "(I)V"⟩
abbrev cX13_end : ByteArray := prog_1_method_4_code
def yX13_end : MethodName := ⟨RX13, "end", "(I)Z"⟩
abbrev cX13_emptied : ByteArray := prog_1_method_5_code
def yX13_emptied : MethodName := ⟨RX13, "emptied", "()I"⟩
abbrev cX13_module : ByteArray := prog_1_method_6_code
def yX13_module : MethodName := ⟨RX13, "module", "()I"⟩
abbrev cX13_drop : ByteArray := prog_1_method_7_code
def yX13_drop : MethodName := ⟨RX13, "drop", "()I"⟩
abbrev cX13_bundleOfDraft : ByteArray := prog_1_method_8_code
def yX13_bundleOfDraft : MethodName := ⟨RX13, "bundleOfDraft", "()LPolicyHouse$Bundle;"⟩
abbrev cX13_find : ByteArray := prog_1_method_9_code
def yX13_find : MethodName := ⟨RX13, "find", "(III)I"⟩
abbrev cX13_check : ByteArray := prog_1_method_10_code
def yX13_check : MethodName := ⟨RX13, "check", "()I"⟩
abbrev cX13_activate : ByteArray := prog_1_method_11_code
def yX13_activate : MethodName := ⟨RX13, "activate", "()I"⟩
abbrev cX13_fault : ByteArray := prog_1_method_12_code
def yX13_fault : MethodName := ⟨RX13, "fault", "(I)I"⟩
abbrev cX13_data : ByteArray := prog_1_method_15_code
def yX13_data : MethodName := ⟨RX13, "data", "()I"⟩
abbrev cX13_patch : ByteArray := prog_1_method_17_code
def yX13_patch : MethodName := ⟨RX13, "patch", "()I"⟩
abbrev cX13_input : ByteArray := prog_1_method_18_code
def yX13_input : MethodName := ⟨RX13, "input", "()I"⟩
abbrev cX13_prepare : ByteArray := prog_1_method_20_code
def yX13_prepare : MethodName := ⟨RX13, "prepare", "()I"⟩
abbrev cX13_query : ByteArray := prog_1_method_22_code
def yX13_query : MethodName := ⟨RX13, "query", "(I)LPolicyHouse$Query;"⟩
abbrev cX13_renew : ByteArray := prog_1_method_23_code
def yX13_renew : MethodName := ⟨RX13, "renew", "(I)I"⟩
abbrev cX13_release : ByteArray := prog_1_method_24_code
def yX13_release : MethodName := ⟨RX13, "release", "(I)Z"⟩
abbrev cX13_run : ByteArray := prog_1_method_25_code
def yX13_run : MethodName := ⟨RX13, "run", "(IZ)I"⟩
abbrev cX13_hasRun : ByteArray := prog_1_method_26_code
def yX13_hasRun : MethodName := ⟨RX13, "hasRun", "()Z"⟩
abbrev cX13_hasRunOut : ByteArray := prog_1_method_27_code
def yX13_hasRunOut : MethodName := ⟨RX13, "hasRunOut", "()Z"⟩
abbrev cX13_about : ByteArray := prog_1_method_28_code
def yX13_about : MethodName := ⟨RX13, "about", "(I)I"⟩
abbrev cX13_covered : ByteArray := prog_1_method_29_code
def yX13_covered : MethodName := ⟨RX13, "covered", "(I)I"⟩
abbrev cX13_result : ByteArray := prog_1_method_31_code
def yX13_result : MethodName := ⟨RX13, "result", "(II)I"⟩
abbrev cX13_document : ByteArray := prog_1_method_32_code
def yX13_document : MethodName := ⟨RX13, "document", "(I)I"⟩
abbrev cX13_output : ByteArray := prog_1_method_33_code
def yX13_output : MethodName := ⟨RX13, "output", "(I)I"⟩
abbrev cX13_rule : ByteArray := prog_1_method_34_code
def yX13_rule : MethodName := ⟨RX13, "rule", "(II)I"⟩
abbrev cX13_order : ByteArray := prog_1_method_35_code
def yX13_order : MethodName := ⟨RX13, "order", "(II)I"⟩
abbrev cX13_count : ByteArray := prog_1_method_36_code
def yX13_count : MethodName := ⟨RX13, "count", "(I)I"⟩
def RX14 : String := "PolicyHouseModel$Limit"
def TX14 : u_T := fun k => match k with
  | 0 => ("java/lang/Throwable", "cause", "Ljava/lang/Throwable;", false)
  | 1 => ("java/lang/Throwable", "stackTrace", "[Ljava/lang/StackTraceElement;", false)
  | 2 => ("java/lang/Throwable", "suppressedExceptions", "Ljava/util/List;", false)
  | 3 => ("java/lang/Throwable", "detailMessage", "Ljava/lang/String;", false)
  | 4 => ("java/lang/Throwable", "backtrace", "Ljava/lang/Object;", false)
  | _ => ("java/lang/Throwable", "depth", "I", false)
abbrev wsX140 : List Cond := u_ws RX14 TX14 6
def RX15 : String := "PolicyHouseModel$Values"
def TX15 : u_T := fun k => match k with
  | 0 => ("PolicyHouseModel$Values", "info", "[J", false)
  | 1 => ("PolicyHouseModel$Values", "pool", "[I", false)
  | 2 => ("PolicyHouseModel$Values", "bytes", "[B", false)
  | 3 => ("PolicyHouseModel$Values", "count", "I", false)
  | 4 => ("PolicyHouseModel$Values", "pooled", "I", false)
  | 5 => ("PolicyHouseModel$Values", "written", "I", false)
  | 6 => ("PolicyHouseModel$Values", "sorted", "[I", true)
  | _ => ("PolicyHouseModel$Values", "other", "[I", true)
abbrev wsX150 : List Cond := u_ws RX15 TX15 8
abbrev cX15_init : ByteArray := prog_18_method_1_code
def yX15_init : MethodName := ⟨RX15, "<init>", "(IIII)V"⟩
abbrev cX15_clear : ByteArray := prog_18_method_2_code
def yX15_clear : MethodName := ⟨RX15, "clear", "()V"⟩
abbrev cX15_node : ByteArray := prog_18_method_3_code
def yX15_node : MethodName := ⟨RX15, "node", "(IIIII)I"⟩
abbrev cX15_kind : ByteArray := prog_18_method_7_code
def yX15_kind : MethodName := ⟨RX15, "kind", "(I)I"⟩
abbrev cX15_weight : ByteArray := prog_18_method_11_code
def yX15_weight : MethodName := ⟨RX15, "weight", "(I)I"⟩
abbrev cX15_parted : ByteArray := prog_18_method_25_code
def yX15_parted : MethodName := ⟨RX15, "parted", "(I[IIII)I"⟩
abbrev cX15_sort : ByteArray := prog_18_method_34_code
def yX15_sort : MethodName := ⟨RX15, "sort", "([IIII)V"⟩
abbrev cX15_object : ByteArray := prog_18_method_38_code
def yX15_object : MethodName := ⟨RX15, "object", "([III)I"⟩
def RX16 : String := "PolicyHouseModel"
def TX16 : u_T := fun k => match k with
  | 0 => ("PolicyHouseModel", "letters", "[B", true)
  | 1 => ("PolicyHouseModel", "letterCount", "I", false)
  | 2 => ("PolicyHouseModel", "textWrong", "I", false)
  | 3 => ("PolicyHouseModel", "numValue", "J", false)
  | 4 => ("PolicyHouseModel", "into", "LPolicyHouseModel$Values;", false)
  | 5 => ("PolicyHouseModel", "json", "[B", false)
  | 6 => ("PolicyHouseModel", "jsonAt", "I", false)
  | 7 => ("PolicyHouseModel", "jsonEnd", "I", false)
  | 8 => ("PolicyHouseModel", "stack", "[I", true)
  | 9 => ("PolicyHouseModel", "top", "I", false)
  | 10 => ("PolicyHouseModel", "out", "[B", false)
  | 11 => ("PolicyHouseModel", "work", "[B", true)
  | 12 => ("PolicyHouseModel", "sink", "[B", false)
  | 13 => ("PolicyHouseModel", "outSize", "I", false)
  | 14 => ("PolicyHouseModel", "outMost", "I", false)
  | 15 => ("PolicyHouseModel", "outputSize", "I", false)
  | 16 => ("PolicyHouseModel", "nameBytes", "[B", true)
  | 17 => ("PolicyHouseModel", "nameFrom", "[I", true)
  | 18 => ("PolicyHouseModel", "nameNext", "[I", true)
  | 19 => ("PolicyHouseModel", "bucket", "[I", true)
  | 20 => ("PolicyHouseModel", "names", "I", false)
  | 21 => ("PolicyHouseModel", "source", "[B", false)
  | 22 => ("PolicyHouseModel", "sourceEnd", "I", false)
  | 23 => ("PolicyHouseModel", "tokenKind", "I", false)
  | 24 => ("PolicyHouseModel", "token", "I", false)
  | 25 => ("PolicyHouseModel", "tokenAt", "I", false)
  | 26 => ("PolicyHouseModel", "tokenEnd", "I", false)
  | 27 => ("PolicyHouseModel", "tokenWrong", "I", false)
  | 28 => ("PolicyHouseModel", "wrong", "I", false)
  | 29 => ("PolicyHouseModel", "blankAhead", "Z", false)
  | 30 => ("PolicyHouseModel", "lineAhead", "Z", false)
  | 31 => ("PolicyHouseModel", "kind", "[I", true)
  | 32 => ("PolicyHouseModel", "place", "[I", true)
  | 33 => ("PolicyHouseModel", "a", "[I", true)
  | 34 => ("PolicyHouseModel", "b", "[I", true)
  | 35 => ("PolicyHouseModel", "c", "[I", true)
  | 36 => ("PolicyHouseModel", "next", "[I", true)
  | 37 => ("PolicyHouseModel", "nodes", "I", false)
  | 38 => ("PolicyHouseModel", "constKind", "[I", true)
  | 39 => ("PolicyHouseModel", "constFrom", "[I", true)
  | 40 => ("PolicyHouseModel", "constNum", "[J", true)
  | 41 => ("PolicyHouseModel", "constBytes", "[B", true)
  | 42 => ("PolicyHouseModel", "consts", "I", false)
  | 43 => ("PolicyHouseModel", "bodyFirst", "[I", true)
  | 44 => ("PolicyHouseModel", "bodyAround", "[I", true)
  | 45 => ("PolicyHouseModel", "bodyUnit", "[I", true)
  | 46 => ("PolicyHouseModel", "bodyPlace", "[I", true)
  | 47 => ("PolicyHouseModel", "bodyMany", "[I", true)
  | 48 => ("PolicyHouseModel", "bodies", "I", false)
  | 49 => ("PolicyHouseModel", "brackets", "I", false)
  | 50 => ("PolicyHouseModel", "unit", "I", false)
  | 51 => ("PolicyHouseModel", "constantly", "Z", false)
  | 52 => ("PolicyHouseModel", "underName", "I", false)
  | 53 => ("PolicyHouseModel", "setName", "I", false)
  | 54 => ("PolicyHouseModel", "inputName", "I", false)
  | 55 => ("PolicyHouseModel", "dataName", "I", false)
  | 56 => ("PolicyHouseModel", "modules", "I", false)
  | 57 => ("PolicyHouseModel", "packageOf", "[I", true)
  | 58 => ("PolicyHouseModel", "importModule", "[I", true)
  | 59 => ("PolicyHouseModel", "importPlace", "[I", true)
  | 60 => ("PolicyHouseModel", "importAlias", "[I", true)
  | 61 => ("PolicyHouseModel", "importRoot", "[I", true)
  | 62 => ("PolicyHouseModel", "importPath", "[I", true)
  | 63 => ("PolicyHouseModel", "imports", "I", false)
  | 64 => ("PolicyHouseModel", "partModule", "[I", true)
  | 65 => ("PolicyHouseModel", "partPlace", "[I", true)
  | 66 => ("PolicyHouseModel", "partSort", "[I", true)
  | 67 => ("PolicyHouseModel", "partName", "[I", true)
  | 68 => ("PolicyHouseModel", "partParameters", "[I", true)
  | 69 => ("PolicyHouseModel", "partMany", "[I", true)
  | 70 => ("PolicyHouseModel", "partKey", "[I", true)
  | 71 => ("PolicyHouseModel", "partBranch", "[I", true)
  | 72 => ("PolicyHouseModel", "parts", "I", false)
  | 73 => ("PolicyHouseModel", "ruleOfPart", "[I", true)
  | 74 => ("PolicyHouseModel", "ruleFirst", "[I", true)
  | 75 => ("PolicyHouseModel", "ruleSort", "[I", true)
  | 76 => ("PolicyHouseModel", "ruleParts", "[I", true)
  | 77 => ("PolicyHouseModel", "ruleMany", "[I", true)
  | 78 => ("PolicyHouseModel", "rules", "I", false)
  | 79 => ("PolicyHouseModel", "rulePath", "[I", true)
  | 80 => ("PolicyHouseModel", "ruleLength", "[I", true)
  | 81 => ("PolicyHouseModel", "packagePath", "[I", true)
  | 82 => ("PolicyHouseModel", "packageLength", "[I", true)
  | 83 => ("PolicyHouseModel", "faultKind", "I", false)
  | 84 => ("PolicyHouseModel", "faultModule", "I", false)
  | 85 => ("PolicyHouseModel", "faultPlace", "I", false)
  | 86 => ("PolicyHouseModel", "how", "[I", true)
  | 87 => ("PolicyHouseModel", "which", "[I", true)
  | 88 => ("PolicyHouseModel", "varCount", "[I", true)
  | 89 => ("PolicyHouseModel", "varBody", "[I", true)
  | 90 => ("PolicyHouseModel", "declName", "[I", true)
  | 91 => ("PolicyHouseModel", "declPlace", "[I", true)
  | 92 => ("PolicyHouseModel", "declBody", "[I", true)
  | 93 => ("PolicyHouseModel", "decls", "I", false)
  | 94 => ("PolicyHouseModel", "firstKind", "I", false)
  | 95 => ("PolicyHouseModel", "firstPlace", "I", false)
  | 96 => ("PolicyHouseModel", "callPath", "[I", true)
  | 97 => ("PolicyHouseModel", "readsAll", "[J", true)
  | 98 => ("PolicyHouseModel", "readsSo", "[J", true)
  | 99 => ("PolicyHouseModel", "depends", "[J", true)
  | 100 => ("PolicyHouseModel", "gathered", "[J", true)
  | 101 => ("PolicyHouseModel", "level", "[I", true)
  | 102 => ("PolicyHouseModel", "withDepth", "[I", true)
  | 103 => ("PolicyHouseModel", "readPath", "[I", true)
  | 104 => ("PolicyHouseModel", "gatherAll", "Z", false)
  | 105 => ("PolicyHouseModel", "rightFirst", "[Z", true)
  | 106 => ("PolicyHouseModel", "ordered", "[I", true)
  | 107 => ("PolicyHouseModel", "orderFrom", "[I", true)
  | 108 => ("PolicyHouseModel", "orders", "I", false)
  | 109 => ("PolicyHouseModel", "orderUnit", "I", false)
  | 110 => ("PolicyHouseModel", "isPlaced", "[Z", true)
  | 111 => ("PolicyHouseModel", "varName", "[I", true)
  | 112 => ("PolicyHouseModel", "run", "LPolicyHouseModel$Values;", true)
  | 113 => ("PolicyHouseModel", "constValue", "[I", true)
  | 114 => ("PolicyHouseModel", "nameValue", "[I", true)
  | 115 => ("PolicyHouseModel", "scope", "I", false)
  | 116 => ("PolicyHouseModel", "fuel", "I", false)
  | 117 => ("PolicyHouseModel", "notedRule", "I", false)
  | 118 => ("PolicyHouseModel", "notedBuiltIn", "I", false)
  | 119 => ("PolicyHouseModel", "owner", "I", false)
  | 120 => ("PolicyHouseModel", "width", "I", false)
  | 121 => ("PolicyHouseModel", "notedGreat", "Z", false)
  | 122 => ("PolicyHouseModel", "notedConflict", "Z", false)
  | 123 => ("PolicyHouseModel", "notedNone", "Z", false)
  | 124 => ("PolicyHouseModel", "isStrict", "Z", false)
  | 125 => ("PolicyHouseModel", "scopeInput", "[I", true)
  | 126 => ("PolicyHouseModel", "tries", "[I", true)
  | 127 => ("PolicyHouseModel", "replaced", "[I", true)
  | 128 => ("PolicyHouseModel", "replacedName", "[I", true)
  | 129 => ("PolicyHouseModel", "replacedValue", "[I", true)
  | 130 => ("PolicyHouseModel", "dataValue", "I", false)
  | 131 => ("PolicyHouseModel", "docState", "[I", true)
  | 132 => ("PolicyHouseModel", "docValue", "[I", true)
  | 133 => ("PolicyHouseModel", "firstDoc", "[I", true)
  | 134 => ("PolicyHouseModel", "isMade", "[Z", true)
  | 135 => ("PolicyHouseModel", "standardValue", "[I", true)
  | 136 => ("PolicyHouseModel", "isStandardMade", "[Z", true)
  | 137 => ("PolicyHouseModel", "rowEnv", "[I", true)
  | 138 => ("PolicyHouseModel", "rowValue", "[I", true)
  | 139 => ("PolicyHouseModel", "outEnv", "[I", true)
  | 140 => ("PolicyHouseModel", "outValue", "[I", true)
  | 141 => ("PolicyHouseModel", "env", "[J", true)
  | 142 => ("PolicyHouseModel", "rowTop", "I", false)
  | 143 => ("PolicyHouseModel", "outTop", "I", false)
  | 144 => ("PolicyHouseModel", "envTop", "I", false)
  | 145 => ("PolicyHouseModel", "stepFrom", "[I", true)
  | 146 => ("PolicyHouseModel", "stepEnd", "[I", true)
  | 147 => ("PolicyHouseModel", "stepAt", "[I", true)
  | 148 => ("PolicyHouseModel", "stepEnv", "[I", true)
  | 149 => ("PolicyHouseModel", "tuple", "[I", true)
  | 150 => ("PolicyHouseModel", "stepPart", "[I", true)
  | 151 => ("PolicyHouseModel", "stepSecond", "[Z", true)
  | 152 => ("PolicyHouseModel", "stepTop", "I", false)
  | 153 => ("PolicyHouseModel", "tupleTop", "I", false)
  | 154 => ("PolicyHouseModel", "trieName", "[I", true)
  | 155 => ("PolicyHouseModel", "trieFirst", "[I", true)
  | 156 => ("PolicyHouseModel", "trieNext", "[I", true)
  | 157 => ("PolicyHouseModel", "trieRule", "[I", true)
  | 158 => ("PolicyHouseModel", "trieCount", "I", false)
  | 159 => ("PolicyHouseModel", "trieBase", "[I", true)
  | 160 => ("PolicyHouseModel", "isTooGreat", "Z", false)
  | 161 => ("PolicyHouseModel", "keyBefore", "[I", true)
  | 162 => ("PolicyHouseModel", "keyPlace", "[I", true)
  | 163 => ("PolicyHouseModel", "keyTop", "I", false)
  | 164 => ("PolicyHouseModel", "needs", "[J", true)
  | 165 => ("PolicyHouseModel", "strFrom", "I", false)
  | 166 => ("PolicyHouseModel", "here", "LPolicyHouseModel$Values;", false)
  | 167 => ("PolicyHouseModel", "beside", "LPolicyHouseModel$Values;", false)
  | 168 => ("PolicyHouseModel", "texts", "LPolicyHouseModel$Values;", true)
  | 169 => ("PolicyHouseModel", "rootValue", "I", false)
  | 170 => ("PolicyHouseModel", "pointer", "[B", true)
  | 171 => ("PolicyHouseModel", "nameStart", "[I", true)
  | 172 => ("PolicyHouseModel", "pointerNames", "I", false)
  | 173 => ("PolicyHouseModel", "pOp", "[I", true)
  | 174 => ("PolicyHouseModel", "pOne", "[I", true)
  | 175 => ("PolicyHouseModel", "pTwo", "[I", true)
  | 176 => ("PolicyHouseModel", "pMark", "[I", true)
  | 177 => ("PolicyHouseModel", "pList", "[I", true)
  | 178 => ("PolicyHouseModel", "pNext", "[I", true)
  | 179 => ("PolicyHouseModel", "pPile", "[I", true)
  | 180 => ("PolicyHouseModel", "pSize", "I", false)
  | 181 => ("PolicyHouseModel", "pMarked", "I", false)
  | 182 => ("PolicyHouseModel", "classBits", "[J", true)
  | 183 => ("PolicyHouseModel", "classes", "I", false)
  | 184 => ("PolicyHouseModel", "xKind", "[I", true)
  | 185 => ("PolicyHouseModel", "xFirst", "[I", true)
  | 186 => ("PolicyHouseModel", "xLeast", "[I", true)
  | 187 => ("PolicyHouseModel", "xMost", "[I", true)
  | 188 => ("PolicyHouseModel", "xNext", "[I", true)
  | 189 => ("PolicyHouseModel", "xCount", "I", false)
  | 190 => ("PolicyHouseModel", "patternAt", "I", false)
  | 191 => ("PolicyHouseModel", "patternEnd", "I", false)
  | 192 => ("PolicyHouseModel", "patternOf", "I", false)
  | 193 => ("PolicyHouseModel", "noPattern", "Z", false)
  | 194 => ("PolicyHouseModel", "listed", "I", false)
  | 195 => ("PolicyHouseModel", "starClass", "I", false)
  | 196 => ("PolicyHouseModel", "anyClass", "I", false)
  | 197 => ("PolicyHouseModel", "readAt", "I", false)
  | 198 => ("PolicyHouseModel", "readEnd", "I", false)
  | 199 => ("PolicyHouseModel", "readOf", "I", false)
  | 200 => ("PolicyHouseModel", "isMisread", "Z", false)
  | 201 => ("PolicyHouseModel", "bitsOf", "I", false)
  | 202 => ("PolicyHouseModel", "versionAt", "[I", true)
  | 203 => ("PolicyHouseModel", "earlyEnd", "I", false)
  | 204 => ("PolicyHouseModel", "walkWeight", "I", false)
  | 205 => ("PolicyHouseModel", "walkPath", "[I", false)
  | 206 => ("PolicyHouseModel", "moduleText", "[J", true)
  | 207 => ("PolicyHouseModel", "queryText", "[B", true)
  | 208 => ("PolicyHouseModel", "piece", "[B", true)
  | 209 => ("PolicyHouseModel", "moduleLength", "[I", true)
  | 210 => ("PolicyHouseModel", "moduleMany", "[I", true)
  | 211 => ("PolicyHouseModel", "stamp", "[I", true)
  | 212 => ("PolicyHouseModel", "queryLength", "[I", true)
  | 213 => ("PolicyHouseModel", "isPrepared", "[Z", true)
  | 214 => ("PolicyHouseModel", "stamps", "I", false)
  | 215 => ("PolicyHouseModel", "loaded", "I", false)
  | 216 => ("PolicyHouseModel", "bundleKind", "I", false)
  | 217 => ("PolicyHouseModel", "bundleModule", "I", false)
  | 218 => ("PolicyHouseModel", "bundlePlace", "I", false)
  | 219 => ("PolicyHouseModel", "markNodes", "I", false)
  | 220 => ("PolicyHouseModel", "markConsts", "I", false)
  | 221 => ("PolicyHouseModel", "markBodies", "I", false)
  | 222 => ("PolicyHouseModel", "markOrders", "I", false)
  | 223 => ("PolicyHouseModel", "lastKind", "I", false)
  | 224 => ("PolicyHouseModel", "lastModule", "I", false)
  | 225 => ("PolicyHouseModel", "lastPlace", "I", false)
  | 226 => ("PolicyHouseModel", "queryBody", "I", false)
  | 227 => ("PolicyHouseModel", "thrown", "I", false)
  | 228 => ("PolicyHouseModel", "tape", "[B", true)
  | 229 => ("PolicyHouseModel", "tapeSize", "I", false)
  | 230 => ("PolicyHouseModel", "data", "LPolicyHouseModel$Values;", true)
  | 231 => ("PolicyHouseModel", "input", "LPolicyHouseModel$Values;", true)
  | 232 => ("PolicyHouseModel", "queryData", "[LPolicyHouseModel$Values;", true)
  | 233 => ("PolicyHouseModel", "queryRoot", "[I", true)
  | 234 => ("PolicyHouseModel", "results", "[I", true)
  | 235 => ("PolicyHouseModel", "dataRoot", "I", false)
  | 236 => ("PolicyHouseModel", "inputRoot", "I", false)
  | 237 => ("PolicyHouseModel", "resultCount", "I", false)
  | 238 => ("PolicyHouseModel", "runKind", "I", false)
  | 239 => ("PolicyHouseModel", "runDetail", "I", false)
  | 240 => ("PolicyHouseModel", "runFuel", "I", false)
  | 241 => ("PolicyHouseModel", "runRules", "I", false)
  | _ => ("PolicyHouseModel", "hasRun", "Z", false)
abbrev wsX160 : List Cond := u_ws RX16 TX16 243
abbrev cX16_isDigit : ByteArray := prog_16_method_4_code
def yX16_isDigit : MethodName := ⟨RX16, "isDigit", "(I)Z"⟩
abbrev cX16_see : ByteArray := prog_16_method_5_code
def yX16_see : MethodName := ⟨RX16, "see", "([BII)I"⟩
abbrev cX16_wrongAt : ByteArray := prog_16_method_6_code
def yX16_wrongAt : MethodName := ⟨RX16, "wrongAt", "(I)V"⟩
abbrev cX16_readJson : ByteArray := prog_16_method_14_code
def yX16_readJson : MethodName := ⟨RX16, "readJson", "(LPolicyHouseModel$Values;[BII)I"⟩
abbrev cX16_jsonNext : ByteArray := prog_16_method_15_code
def yX16_jsonNext : MethodName := ⟨RX16, "jsonNext", "()I"⟩
abbrev cX16_jsonBlanks : ByteArray := prog_16_method_16_code
def yX16_jsonBlanks : MethodName := ⟨RX16, "jsonBlanks", "()V"⟩
abbrev cX16_jsonValue : ByteArray := prog_16_method_18_code
def yX16_jsonValue : MethodName := ⟨RX16, "jsonValue", "(I)I"⟩
abbrev cX16_name : ByteArray := prog_16_method_35_code
def yX16_name : MethodName := ⟨RX16, "name", "([BII)I"⟩
abbrev cX16_nameOf : ByteArray := prog_16_method_36_code
def yX16_nameOf : MethodName := ⟨RX16, "nameOf", "(Ljava/lang/String;)I"⟩
abbrev cX16_fail : ByteArray := prog_16_method_39_code
def yX16_fail : MethodName := ⟨RX16, "fail", "(I)V"⟩
abbrev cX16_bad : ByteArray := prog_16_method_40_code
def yX16_bad : MethodName := ⟨RX16, "bad", "()Z"⟩
abbrev cX16_begin : ByteArray := prog_16_method_41_code
def yX16_begin : MethodName := ⟨RX16, "begin", "([BI)V"⟩
abbrev cX16_lex : ByteArray := prog_16_method_43_code
def yX16_lex : MethodName := ⟨RX16, "lex", "()V"⟩
abbrev cX16_isSign : ByteArray := prog_16_method_47_code
def yX16_isSign : MethodName := ⟨RX16, "isSign", "(I)Z"⟩
abbrev cX16_isKey : ByteArray := prog_16_method_49_code
def yX16_isKey : MethodName := ⟨RX16, "isKey", "(I)Z"⟩
abbrev cX16_isName : ByteArray := prog_16_method_50_code
def yX16_isName : MethodName := ⟨RX16, "isName", "()Z"⟩
abbrev cX16_needKey : ByteArray := prog_16_method_52_code
def yX16_needKey : MethodName := ⟨RX16, "needKey", "(I)V"⟩
abbrev cX16_node : ByteArray := prog_16_method_53_code
def yX16_node : MethodName := ⟨RX16, "node", "(IIIII)I"⟩
abbrev cX16_hang : ByteArray := prog_16_method_55_code
def yX16_hang : MethodName := ⟨RX16, "hang", "(II)I"⟩
abbrev cX16_path : ByteArray := prog_16_method_59_code
def yX16_path : MethodName := ⟨RX16, "path", "()I"⟩
abbrev cX16_term : ByteArray := prog_16_method_60_code
def yX16_term : MethodName := ⟨RX16, "term", "()I"⟩
abbrev cX16_isOf : ByteArray := prog_16_method_70_code
def yX16_isOf : MethodName := ⟨RX16, "isOf", "(I)Z"⟩
abbrev cX16_chain : ByteArray := prog_16_method_71_code
def yX16_chain : MethodName := ⟨RX16, "chain", "(I)I"⟩
abbrev cX16_isComparison : ByteArray := prog_16_method_72_code
def yX16_isComparison : MethodName := ⟨RX16, "isComparison", "()Z"⟩
abbrev cX16_expression : ByteArray := prog_16_method_73_code
def yX16_expression : MethodName := ⟨RX16, "expression", "()I"⟩
abbrev cX16_newBody : ByteArray := prog_16_method_74_code
def yX16_newBody : MethodName := ⟨RX16, "newBody", "(I)I"⟩
abbrev cX16_literals : ByteArray := prog_16_method_75_code
def yX16_literals : MethodName := ⟨RX16, "literals", "(II)I"⟩
abbrev cX16_literal : ByteArray := prog_16_method_79_code
def yX16_literal : MethodName := ⟨RX16, "literal", "()I"⟩
abbrev cX16_withs : ByteArray := prog_16_method_80_code
def yX16_withs : MethodName := ⟨RX16, "withs", "(I)V"⟩
abbrev cX16_clearTrees : ByteArray := prog_16_method_85_code
def yX16_clearTrees : MethodName := ⟨RX16, "clearTrees", "()V"⟩
abbrev cX16_readModule : ByteArray := prog_16_method_86_code
def yX16_readModule : MethodName := ⟨RX16, "readModule", "([BI)I"⟩
abbrev cX16_gatherRules : ByteArray := prog_16_method_100_code
def yX16_gatherRules : MethodName := ⟨RX16, "gatherRules", "()V"⟩
abbrev cX16_isFaulty : ByteArray := prog_16_method_103_code
def yX16_isFaulty : MethodName := ⟨RX16, "isFaulty", "()Z"⟩
abbrev cX16_findClash : ByteArray := prog_16_method_105_code
def yX16_findClash : MethodName := ⟨RX16, "findClash", "()V"⟩
abbrev cX16_findReads : ByteArray := prog_16_method_148_code
def yX16_findReads : MethodName := ⟨RX16, "findReads", "()V"⟩
abbrev cX16_checkReads : ByteArray := prog_16_method_149_code
def yX16_checkReads : MethodName := ⟨RX16, "checkReads", "()V"⟩
abbrev cX16_loadBundle : ByteArray := prog_16_method_379_code
def yX16_loadBundle : MethodName := ⟨RX16, "loadBundle", "(I)V"⟩
abbrev cX16_checkBundle : ByteArray := prog_16_method_380_code
def yX16_checkBundle : MethodName := ⟨RX16, "checkBundle", "()V"⟩
abbrev cX16_findDepths : ByteArray := prog_16_method_381_code
def yX16_findDepths : MethodName := ⟨RX16, "findDepths", "()V"⟩
abbrev cX16_readQuery : ByteArray := prog_16_method_386_code
def yX16_readQuery : MethodName := ⟨RX16, "readQuery", "([BI)V"⟩
abbrev cX16_keepFault : ByteArray := prog_16_method_389_code
def yX16_keepFault : MethodName := ⟨RX16, "keepFault", "()V"⟩
abbrev cX16_copyBundle : ByteArray := prog_16_method_390_code
def yX16_copyBundle : MethodName := ⟨RX16, "copyBundle", "(II)V"⟩
abbrev cX16_init : ByteArray := prog_16_method_391_code
def yX16_init : MethodName := ⟨RX16, "<init>", "()V"⟩
abbrev cX16_thrown : ByteArray := prog_16_method_392_code
def yX16_thrown : MethodName := ⟨RX16, "thrown", "()I"⟩
abbrev cX16_feed : ByteArray := prog_16_method_393_code
def yX16_feed : MethodName := ⟨RX16, "feed", "(IIIII)Z"⟩
abbrev cX16_end : ByteArray := prog_16_method_394_code
def yX16_end : MethodName := ⟨RX16, "end", "(I)Z"⟩
abbrev cX16_take : ByteArray := prog_16_method_395_code
def yX16_take : MethodName := ⟨RX16, "take", "()I"⟩
abbrev cX16_module : ByteArray := prog_16_method_396_code
def yX16_module : MethodName := ⟨RX16, "module", "()I"⟩
abbrev cX16_drop : ByteArray := prog_16_method_397_code
def yX16_drop : MethodName := ⟨RX16, "drop", "()I"⟩
abbrev cX16_check : ByteArray := prog_16_method_398_code
def yX16_check : MethodName := ⟨RX16, "check", "()I"⟩
abbrev cX16_activate : ByteArray := prog_16_method_399_code
def yX16_activate : MethodName := ⟨RX16, "activate", "()I"⟩
abbrev cX16_fault : ByteArray := prog_16_method_400_code
def yX16_fault : MethodName := ⟨RX16, "fault", "(I)I"⟩
abbrev cX16_data : ByteArray := prog_16_method_401_code
def yX16_data : MethodName := ⟨RX16, "data", "()I"⟩
abbrev cX16_patch : ByteArray := prog_16_method_402_code
def yX16_patch : MethodName := ⟨RX16, "patch", "()I"⟩
abbrev cX16_input : ByteArray := prog_16_method_403_code
def yX16_input : MethodName := ⟨RX16, "input", "()I"⟩
abbrev cX16_prepare : ByteArray := prog_16_method_404_code
def yX16_prepare : MethodName := ⟨RX16, "prepare", "()I"⟩
abbrev cX16_isQuery : ByteArray := prog_16_method_406_code
def yX16_isQuery : MethodName := ⟨RX16, "isQuery", "(I)Z"⟩
abbrev cX16_renew : ByteArray := prog_16_method_407_code
def yX16_renew : MethodName := ⟨RX16, "renew", "(I)I"⟩
abbrev cX16_release : ByteArray := prog_16_method_408_code
def yX16_release : MethodName := ⟨RX16, "release", "(I)Z"⟩
abbrev cX16_run : ByteArray := prog_16_method_410_code
def yX16_run : MethodName := ⟨RX16, "run", "(IZ)I"⟩
abbrev cX16_about : ByteArray := prog_16_method_411_code
def yX16_about : MethodName := ⟨RX16, "about", "(I)I"⟩
abbrev cX16_covered : ByteArray := prog_16_method_412_code
def yX16_covered : MethodName := ⟨RX16, "covered", "(I)I"⟩
abbrev cX16_result : ByteArray := prog_16_method_413_code
def yX16_result : MethodName := ⟨RX16, "result", "(II)I"⟩
abbrev cX16_document : ByteArray := prog_16_method_414_code
def yX16_document : MethodName := ⟨RX16, "document", "(I)I"⟩
abbrev cX16_output : ByteArray := prog_16_method_415_code
def yX16_output : MethodName := ⟨RX16, "output", "(I)I"⟩
abbrev cX16_rule : ByteArray := prog_16_method_416_code
def yX16_rule : MethodName := ⟨RX16, "rule", "(II)I"⟩
abbrev cX16_order : ByteArray := prog_16_method_417_code
def yX16_order : MethodName := ⟨RX16, "order", "(II)I"⟩
abbrev cX16_count : ByteArray := prog_16_method_418_code
def yX16_count : MethodName := ⟨RX16, "count", "(I)I"⟩
def RJ0 : String := "java/lang/String"
abbrev cJ0_length_8abf5 : ByteArray := prog_29_method_54_code
def yJ0_length_8abf5 : MethodName := ⟨RJ0, "length", "()I"⟩
abbrev cJ0_charAt_5068e : ByteArray := prog_29_method_56_code
def yJ0_charAt_5068e : MethodName := ⟨RJ0, "charAt", "(I)C"⟩
abbrev cJ0_coder_7d493 : ByteArray := prog_29_method_152_code
def yJ0_coder_7d493 : MethodName := ⟨RJ0, "coder", "()B"⟩
abbrev cJ0_isLatin1_aae02 : ByteArray := prog_29_method_154_code
def yJ0_isLatin1_aae02 : MethodName := ⟨RJ0, "isLatin1", "()Z"⟩
abbrev cJ0_checkIndex_df160 : ByteArray := prog_29_method_155_code
def yJ0_checkIndex_df160 : MethodName := ⟨RJ0, "checkIndex", "(II)V"⟩
def RJ1 : String := "java/lang/StringLatin1"
abbrev cJ1_charAt_3b067 : ByteArray := prog_30_method_2_code
def yJ1_charAt_3b067 : MethodName := ⟨RJ1, "charAt", "([BI)C"⟩
def RJ7 : String := "java/util/Arrays"
abbrev cJ7_copyOf_59c91 : ByteArray := prog_36_method_123_code
def yJ7_copyOf_59c91 : MethodName := ⟨RJ7, "copyOf", "([II)[I"⟩
def RJ3 : String := "jdk/internal/util/Preconditions"
abbrev cJ3_checkIndex_8e157 : ByteArray := prog_38_method_11_code
def yJ3_checkIndex_8e157 : MethodName := ⟨RJ3, "checkIndex", "(IILjava/util/function/BiFunction;)I"⟩
def RL : String := "PolicyHouseLaw"
abbrev cL_rule : ByteArray := method_3_code
def yL_rule : MethodName := ⟨RL, "rule", "(LPolicyHouse;II[J)I"⟩
abbrev vwCl : List vw_C := [(RX0, TX0, 9), (RX1, TX1, 16), (RX2, TX2, 16), (RX3, TX3, 15), (RX4, TX4, 8), (RX5, TX5, 19), (RX6, TX6, 16), (RX7, TX7, 7), (RX8, TX8, 15), (RX9, TX9, 16), (RX10, TX10, 19), (RX11, TX11, 15), (RX12, TX12, 15), (RX13, TX13, 23), (RX14, TX14, 6), (RX15, TX15, 8), (RX16, TX16, 243)]
def zW0 : List Cond := [.methodLink RX11 1 objectInit, .instanceMethod objectInit, .code objectInit ⟨#[0xb1]⟩ 1 none, .fieldLink RX11 7 "PolicyHouse$Texts" "in" "[I", .fieldLink RX11 13 "PolicyHouse$Texts" "to" "I", .fieldLink RX11 17 "PolicyHouse$Texts" "pos" "I", .fieldLink RX11 20 "PolicyHouse$Texts" "wrong" "I", .fieldLink RX11 23 "PolicyHouse$Texts" "stop" "I", .fieldLink RX11 26 "PolicyHouse$Texts" "value" "J", .arrayClass .int, .fieldLink RX11 30 "PolicyHouse$Texts" "buf" "[I", .fieldLink RX11 33 "PolicyHouse$Texts" "size" "I", .fieldLink RX11 38 "PolicyHouse$Texts" "out" "[I", .fieldLink RX11 41 "PolicyHouse$Texts" "stored" "Z", .fieldLink RX11 45 "PolicyHouse$Texts" "packed" "[J", .fieldLink RX11 49 "PolicyHouse$Texts" "length" "I", .fieldLink RX11 52 "PolicyHouse$Texts" "limit" "I", .fieldLink RX11 55 "PolicyHouse$Texts" "over" "Z", .fieldLink RX11 58 "PolicyHouse$Texts" "heap" "LPolicyHouse$Heap;", .methodLink RX8 1 objectInit, .fieldLink RX8 9 "PolicyHouse$Reader" "sort" "[I", .fieldLink RX8 13 "PolicyHouse$Reader" "place" "[I", .fieldLink RX8 16 "PolicyHouse$Reader" "gap" "[I", .fieldLink RX8 19 "PolicyHouse$Reader" "worth" "[I", .fieldLink RX8 22 "PolicyHouse$Reader" "bad" "I", .fieldLink RX8 26 "PolicyHouse$Reader" "tokens" "I", .fieldLink RX8 29 "PolicyHouse$Reader" "now" "I", .fieldLink RX8 32 "PolicyHouse$Reader" "deep" "I", .fieldLink RX8 35 "PolicyHouse$Reader" "wrong" "I", .fieldLink RX8 38 "PolicyHouse$Reader" "skipped" "I", .fieldLink RX8 41 "PolicyHouse$Reader" "stop" "I", .fieldLink RX8 44 "PolicyHouse$Reader" "tree" "LPolicyHouse$Tree;", .fieldLink RX8 48 "PolicyHouse$Reader" "heap" "LPolicyHouse$Heap;", .fieldLink RX8 52 "PolicyHouse$Reader" "texts" "LPolicyHouse$Texts;", .fieldLink RX8 56 "PolicyHouse$Reader" "names" "LPolicyHouse$Names;", .methodLink RX2 1 objectInit, .fieldLink RX2 7 "PolicyHouse$Checker" "b" "LPolicyHouse$Bundle;", .fieldLink RX2 13 "PolicyHouse$Checker" "t" "LPolicyHouse$Tree;", .fieldLink RX2 17 "PolicyHouse$Checker" "module" "I", .fieldLink RX2 21 "PolicyHouse$Checker" "declared" "[I"]
def zW1 : List Cond := [.fieldLink RX2 25 "PolicyHouse$Checker" "scopeOf" "[I", .fieldLink RX2 28 "PolicyHouse$Checker" "placeOf" "[I", .fieldLink RX2 31 "PolicyHouse$Checker" "count" "I", .fieldLink RX2 34 "PolicyHouse$Checker" "around" "[I", .fieldLink RX2 37 "PolicyHouse$Checker" "scopes" "I", .fieldLink RX2 40 "PolicyHouse$Checker" "badKind" "I", .fieldLink RX2 43 "PolicyHouse$Checker" "badPlace" "I", .fieldLink RX2 46 "PolicyHouse$Checker" "bits" "[I", .fieldLink RX2 49 "PolicyHouse$Checker" "direct" "[I", .fieldLink RX2 52 "PolicyHouse$Checker" "all" "[I", .fieldLink RX2 55 "PolicyHouse$Checker" "heap" "LPolicyHouse$Heap;", .fieldLink RX2 59 "PolicyHouse$Checker" "names" "LPolicyHouse$Names;", .methodLink RX3 1 objectInit, .fieldLink RX3 7 "PolicyHouse$Coder" "b" "LPolicyHouse$Bundle;", .fieldLink RX3 13 "PolicyHouse$Coder" "t" "LPolicyHouse$Tree;", .constant RX3 17 (80000), .fieldLink RX3 18 "PolicyHouse$Coder" "code" "[I", .fieldLink RX3 22 "PolicyHouse$Coder" "size" "I", .fieldLink RX3 26 "PolicyHouse$Coder" "registers" "I", .fieldLink RX3 29 "PolicyHouse$Coder" "owner" "I", .fieldLink RX3 32 "PolicyHouse$Coder" "known" "I", .fieldLink RX3 35 "PolicyHouse$Coder" "scope" "I", .fieldLink RX3 38 "PolicyHouse$Coder" "badKind" "I", .fieldLink RX3 41 "PolicyHouse$Coder" "badPlace" "I", .fieldLink RX3 44 "PolicyHouse$Coder" "ops" "[I", .fieldLink RX3 47 "PolicyHouse$Coder" "used" "I", .fieldLink RX3 50 "PolicyHouse$Coder" "heap" "LPolicyHouse$Heap;", .fieldLink RX3 54 "PolicyHouse$Coder" "names" "LPolicyHouse$Names;", .fieldLink RX3 58 "PolicyHouse$Coder" "checker" "LPolicyHouse$Checker;", .methodLink RX9 5 objectInit, .fieldLink RX9 11 "PolicyHouse$Scopes" "bundle" "LPolicyHouse$Bundle;", .fieldLink RX9 15 "PolicyHouse$Scopes" "now" "I", .fieldLink RX9 19 "PolicyHouse$Scopes" "outNode" "I", .fieldLink RX9 22 "PolicyHouse$Scopes" "outValue" "I", .fieldLink RX9 25 "PolicyHouse$Scopes" "path" "[I", .fieldLink RX9 29 "PolicyHouse$Scopes" "need" "[I", .fieldLink RX9 32 "PolicyHouse$Scopes" "fuel" "I", .fieldLink RX9 35 "PolicyHouse$Scopes" "free" "Z", .fieldLink RX9 39 "PolicyHouse$Scopes" "strict" "Z", .fieldLink RX9 42 "PolicyHouse$Scopes" "limit" "Z"]
def zW2 : List Cond := [.fieldLink RX9 45 "PolicyHouse$Scopes" "notes" "I", .fieldLink RX9 48 "PolicyHouse$Scopes" "leastRule" "I", .fieldLink RX9 51 "PolicyHouse$Scopes" "leastBuiltin" "I", .fieldLink RX9 54 "PolicyHouse$Scopes" "tries" "[I", .fieldLink RX9 57 "PolicyHouse$Scopes" "heap" "LPolicyHouse$Heap;", .fieldLink RX9 61 "PolicyHouse$Scopes" "names" "LPolicyHouse$Names;", .methodLink RX10 1 objectInit, .fieldLink RX10 7 "PolicyHouse$Strings" "buf" "[I", .fieldLink RX10 13 "PolicyHouse$Strings" "size" "I", .fieldLink RX10 17 "PolicyHouse$Strings" "over" "Z", .fieldLink RX10 21 "PolicyHouse$Strings" "code" "[I", .fieldLink RX10 24 "PolicyHouse$Strings" "jump" "[I", .fieldLink RX10 27 "PolicyHouse$Strings" "mark" "[I", .fieldLink RX10 30 "PolicyHouse$Strings" "here" "[I", .fieldLink RX10 33 "PolicyHouse$Strings" "there" "[I", .fieldLink RX10 36 "PolicyHouse$Strings" "stack" "[I", .fieldLink RX10 39 "PolicyHouse$Strings" "length" "I", .fieldLink RX10 42 "PolicyHouse$Strings" "sets" "[I", .fieldLink RX10 45 "PolicyHouse$Strings" "count" "I", .fieldLink RX10 48 "PolicyHouse$Strings" "pos" "I", .fieldLink RX10 51 "PolicyHouse$Strings" "end" "I", .fieldLink RX10 54 "PolicyHouse$Strings" "bad" "Z", .fieldLink RX10 57 "PolicyHouse$Strings" "threads" "I", .fieldLink RX10 60 "PolicyHouse$Strings" "heap" "LPolicyHouse$Heap;", .fieldLink RX10 64 "PolicyHouse$Strings" "texts" "LPolicyHouse$Texts;", .fieldLink RX10 68 "PolicyHouse$Strings" "names" "LPolicyHouse$Names;", .methodLink RX5 1 objectInit, .fieldLink RX5 7 "PolicyHouse$Machine" "regs" "[I", .constant RX5 13 (58500), .fieldLink RX5 14 "PolicyHouse$Machine" "cp" "[I", .fieldLink RX5 17 "PolicyHouse$Machine" "choices" "I", .fieldLink RX5 21 "PolicyHouse$Machine" "pc" "I", .fieldLink RX5 24 "PolicyHouse$Machine" "fp" "I", .fieldLink RX5 27 "PolicyHouse$Machine" "top" "I", .fieldLink RX5 30 "PolicyHouse$Machine" "failing" "Z", .fieldLink RX5 34 "PolicyHouse$Machine" "stopped" "Z", .fieldLink RX5 37 "PolicyHouse$Machine" "pending" "Z", .fieldLink RX5 40 "PolicyHouse$Machine" "bundle" "LPolicyHouse$Bundle;", .fieldLink RX5 44 "PolicyHouse$Machine" "own" "[I", .fieldLink RX5 47 "PolicyHouse$Machine" "c" "[I"]
def zW3 : List Cond := [.fieldLink RX5 50 "PolicyHouse$Machine" "p" "I", .fieldLink RX5 53 "PolicyHouse$Machine" "scope" "I", .fieldLink RX5 56 "PolicyHouse$Machine" "results" "I", .fieldLink RX5 59 "PolicyHouse$Machine" "fixed" "[I", .fieldLink RX5 62 "PolicyHouse$Machine" "heap" "LPolicyHouse$Heap;", .fieldLink RX5 66 "PolicyHouse$Machine" "scopes" "LPolicyHouse$Scopes;", .fieldLink RX5 70 "PolicyHouse$Machine" "builtins" "LPolicyHouse$Builtins;", .methodLink RX0 3 objectInit, .fieldLink RX0 9 "PolicyHouse$Builtins" "arg" "[I", .fieldLink RX0 15 "PolicyHouse$Builtins" "spent" "I", .fieldLink RX0 19 "PolicyHouse$Builtins" "path" "[I", .fieldLink RX0 22 "PolicyHouse$Builtins" "from" "[I", .fieldLink RX0 25 "PolicyHouse$Builtins" "member" "[I", .fieldLink RX0 28 "PolicyHouse$Builtins" "heavy" "I", .fieldLink RX0 31 "PolicyHouse$Builtins" "heap" "LPolicyHouse$Heap;", .fieldLink RX0 35 "PolicyHouse$Builtins" "texts" "LPolicyHouse$Texts;", .fieldLink RX0 39 "PolicyHouse$Builtins" "strings" "LPolicyHouse$Strings;", .code yJ0_charAt_5068e cJ0_charAt_5068e 2 (some .char), .methodLink RX0 45 yJ0_charAt_5068e, .instanceMethod yJ0_charAt_5068e, .selects RJ0 yJ0_charAt_5068e yJ0_charAt_5068e, .initialized RJ0, .code yJ0_isLatin1_aae02 cJ0_isLatin1_aae02 1 (some .boolean), .methodLink RJ0 492 yJ0_isLatin1_aae02, .instanceMethod yJ0_isLatin1_aae02, .selects RJ0 yJ0_isLatin1_aae02 yJ0_isLatin1_aae02, .fieldLink RJ0 38 "java/lang/String" "COMPACT_STRINGS" "Z", .fieldLink RJ0 15 "java/lang/String" "coder" "B", .fieldLink RJ0 9 "java/lang/String" "value" "[B", .code yJ1_charAt_3b067 cJ1_charAt_3b067 2 (some .char), .methodLink RJ0 495 yJ1_charAt_3b067, .static yJ1_charAt_3b067, .initialized RJ1, .code yJ0_checkIndex_df160 cJ0_checkIndex_df160 2 none, .methodLink RJ1 9 yJ0_checkIndex_df160, .static yJ0_checkIndex_df160, .fieldLink RJ0 1053 "jdk/internal/util/Preconditions" "SIOOBE_FORMATTER" "Ljava/util/function/BiFunction;", .code yJ3_checkIndex_8e157 cJ3_checkIndex_8e157 3 (some .int), .methodLink RJ0 1059 yJ3_checkIndex_8e157, .static yJ3_checkIndex_8e157]
def zW4 : List Cond := [.initialized RJ3, .code yX6_sym cX6_sym 8 (some .int), .methodLink RX0 51 yX6_sym, .instanceMethod yX6_sym, .selects RX6 yX6_sym yX6_sym, .initialized RX6, .fieldLink RX6 67 "PolicyHouse$Names" "blank" "I", .fieldLink RX6 9 "PolicyHouse$Names" "table" "[I", .code yX6_same cX6_same 6 (some .boolean), .methodLink RX6 106 yX6_same, .instanceMethod yX6_same, .selects RX6 yX6_same yX6_same, .fieldLink RX6 44 "PolicyHouse$Names" "heap" "LPolicyHouse$Heap;", .fieldLink RX6 98 "PolicyHouse$Heap" "cell" "[I", .code yX4_keepString cX4_keepString 5 (some .int), .methodLink RX6 103 yX4_keepString, .instanceMethod yX4_keepString, .selects RX4 yX4_keepString yX4_keepString, .initialized RX4, .fieldLink RX4 25 "PolicyHouse$Heap" "kept" "I", .constant RX4 82 (60000), .fieldLink RX4 10 "PolicyHouse$Heap" "cell" "[I", .methodLink RX4 76 arraycopyName, .native arraycopyName, .static arraycopyName, .initialized "java/lang/System", .initialized RX13, .instantiable RX13 23, .classLink RL 8 RX13, .methodLink RX13 1 objectInit, .instantiable RX4 8, .classLink RX13 7 RX4, .methodLink RX4 1 objectInit, .constant RX4 9 (886000), .constant RX4 14 (90000), .fieldLink RX4 15 "PolicyHouse$Heap" "acc" "[I", .fieldLink RX4 18 "PolicyHouse$Heap" "spare" "[I", .fieldLink RX4 21 "PolicyHouse$Heap" "used" "I", .constant RX4 28 (258000), .fieldLink RX4 29 "PolicyHouse$Heap" "top" "I"]
def zW5 : List Cond := [.constant RX4 32 (820000), .fieldLink RX4 33 "PolicyHouse$Heap" "end" "I", .fieldLink RX4 36 "PolicyHouse$Heap" "full" "Z", .code yX4_empty cX4_empty 1 (some .int), .methodLink RX4 40 yX4_empty, .static yX4_empty, .code yX4_init cX4_init 2 none, .methodLink RX13 9 yX4_init, .instanceMethod yX4_init, .fieldLink RX13 10 "PolicyHouse" "heap" "LPolicyHouse$Heap;", .initialized RX11, .instantiable RX11 15, .classLink RX13 16 RX11, .code yX11_init cX11_init 2 none, .methodLink RX13 18 yX11_init, .instanceMethod yX11_init, .fieldLink RX13 21 "PolicyHouse" "texts" "LPolicyHouse$Texts;", .instantiable RX6 16, .classLink RX13 25 RX6, .code yX6_init cX6_init 6 none, .methodLink RX13 27 yX6_init, .instanceMethod yX6_init, .methodLink RX6 1 objectInit, .fieldLink RX6 13 "PolicyHouse$Names" "parent" "[I", .fieldLink RX6 16 "PolicyHouse$Names" "name" "[I", .fieldLink RX6 19 "PolicyHouse$Names" "child" "[I", .fieldLink RX6 22 "PolicyHouse$Names" "sibling" "[I", .fieldLink RX6 25 "PolicyHouse$Names" "nodes" "I", .fieldLink RX6 29 "PolicyHouse$Names" "words" "[I", .fieldLink RX6 32 "PolicyHouse$Names" "builtin" "[I", .fieldLink RX6 35 "PolicyHouse$Names" "kinds" "[I", .fieldLink RX6 38 "PolicyHouse$Names" "arity" "[I", .fieldLink RX6 41 "PolicyHouse$Names" "letters" "[I", .fieldLink RX6 58 "PolicyHouse$Names" "input" "I", .fieldLink RX6 61 "PolicyHouse$Names" "data" "I", .fieldLink RX6 64 "PolicyHouse$Names" "set" "I", .code yX6_stopOf cX6_stopOf 3 (some .int), .methodLink RX6 50 yX6_stopOf, .static yX6_stopOf, .code yJ0_length_8abf5 cJ0_length_8abf5 1 (some .int)]
def zW6 : List Cond := [.methodLink RX6 75 yJ0_length_8abf5, .instanceMethod yJ0_length_8abf5, .selects RJ0 yJ0_length_8abf5 yJ0_length_8abf5, .code yJ0_coder_7d493 cJ0_coder_7d493 1 (some .byte), .methodLink RJ0 335 yJ0_coder_7d493, .instanceMethod yJ0_coder_7d493, .selects RJ0 yJ0_coder_7d493 yJ0_coder_7d493, .methodLink RX6 81 yJ0_charAt_5068e, .code yX6_nodeOf cX6_nodeOf 7 (some .int), .methodLink RX6 72 yX6_nodeOf, .instanceMethod yX6_nodeOf, .selects RX6 yX6_nodeOf yX6_nodeOf, .code yX6_symOf cX6_symOf 6 (some .int), .methodLink RX6 54 yX6_symOf, .instanceMethod yX6_symOf, .selects RX6 yX6_symOf yX6_symOf, .methodLink RX6 85 Lib.Math.min.name, .static Lib.Math.min.name, .initialized "java/lang/Math", .code Lib.Math.min.name Lib.Math.min.code 2 (some .int), .methodLink RX6 91 yX6_sym, .code yX6_node cX6_node 4 (some .int), .methodLink RX6 95 yX6_node, .instanceMethod yX6_node, .selects RX6 yX6_node yX6_node, .code yX6_find cX6_find 4 (some .int), .methodLink RX6 118 yX6_find, .instanceMethod yX6_find, .selects RX6 yX6_find yX6_find, .methodLink RX6 121 Lib.Math.max.name, .static Lib.Math.max.name, .code Lib.Math.max.name Lib.Math.max.code 2 (some .int), .fieldLink RX13 28 "PolicyHouse" "names" "LPolicyHouse$Names;", .initialized RX8, .instantiable RX8 15, .classLink RX13 32 RX8, .code yX8_init cX8_init 4 none, .methodLink RX13 34 yX8_init, .instanceMethod yX8_init, .fieldLink RX13 37 "PolicyHouse" "reader" "LPolicyHouse$Reader;"]
def zW7 : List Cond := [.initialized RX2, .instantiable RX2 16, .classLink RX13 41 RX2, .code yX2_init cX2_init 3 none, .methodLink RX13 43 yX2_init, .instanceMethod yX2_init, .fieldLink RX13 46 "PolicyHouse" "checker" "LPolicyHouse$Checker;", .initialized RX3, .instantiable RX3 15, .classLink RX13 50 RX3, .code yX3_init cX3_init 4 none, .methodLink RX13 52 yX3_init, .instanceMethod yX3_init, .fieldLink RX13 55 "PolicyHouse" "coder" "LPolicyHouse$Coder;", .initialized RX9, .instantiable RX9 16, .classLink RX13 59 RX9, .code yX9_init cX9_init 3 none, .methodLink RX13 61 yX9_init, .instanceMethod yX9_init, .fieldLink RX13 62 "PolicyHouse" "scopes" "LPolicyHouse$Scopes;", .fieldLink RX13 66 "PolicyHouse" "tape" "[I", .fieldLink RX13 70 "PolicyHouse" "taped" "I", .fieldLink RX13 74 "PolicyHouse" "feeds" "I", .classLink RX13 77 RX12, .fieldLink RX13 79 "PolicyHouse" "draft" "[LPolicyHouse$Tree;", .fieldLink RX13 83 "PolicyHouse" "drafts" "I", .fieldLink RX13 86 "PolicyHouse" "built" "LPolicyHouse$Bundle;", .classLink RX13 90 RX7, .fieldLink RX13 92 "PolicyHouse" "queries" "[LPolicyHouse$Query;", .fieldLink RX13 96 "PolicyHouse" "found" "[I", .fieldLink RX13 99 "PolicyHouse" "input" "I", .fieldLink RX13 102 "PolicyHouse" "ranData" "I", .fieldLink RX13 105 "PolicyHouse" "ranInput" "I", .arrayClass .long, .fieldLink RX13 108 "PolicyHouse" "shown" "[J", .fieldLink RX13 112 "PolicyHouse" "bytes" "I", .initialized RX10, .instantiable RX10 19, .classLink RX13 115 RX10]
def zW8 : List Cond := [.code yX10_init cX10_init 4 none, .methodLink RX13 117 yX10_init, .instanceMethod yX10_init, .initialized RX5, .instantiable RX5 19, .classLink RX13 118 RX5, .initialized RX0, .instantiable RX0 9, .classLink RX13 120 RX0, .code yX0_init cX0_init 9 none, .methodLink RX13 122 yX0_init, .instanceMethod yX0_init, .code yX5_init cX5_init 4 none, .methodLink RX13 125 yX5_init, .instanceMethod yX5_init, .fieldLink RX13 128 "PolicyHouse" "machine" "LPolicyHouse$Machine;", .code yX4_made cX4_made 11 (some .int), .methodLink RX13 132 yX4_made, .instanceMethod yX4_made, .selects RX4 yX4_made yX4_made, .code yX4_kind cX4_kind 2 (some .int), .methodLink RX4 46 yX4_kind, .instanceMethod yX4_kind, .selects RX4 yX4_kind yX4_kind, .code yX4_size cX4_size 2 (some .int), .methodLink RX4 110 yX4_size, .instanceMethod yX4_size, .selects RX4 yX4_size yX4_size, .code yX4_room cX4_room 3 (some .int), .methodLink RX4 65 yX4_room, .instanceMethod yX4_room, .selects RX4 yX4_room yX4_room, .code yX4_copy cX4_copy 7 (some .int), .methodLink RX4 116 yX4_copy, .instanceMethod yX4_copy, .selects RX4 yX4_copy yX4_copy, .code yX4_copyTo cX4_copyTo 5 (some .int), .methodLink RX13 136 yX4_copyTo, .instanceMethod yX4_copyTo, .selects RX4 yX4_copyTo yX4_copyTo]
def zW9 : List Cond := [.fieldLink RX13 140 "PolicyHouse" "data" "I", .constant RX13 143 (258000), .code yX4_reset cX4_reset 2 none, .methodLink RX13 144 yX4_reset, .instanceMethod yX4_reset, .selects RX4 yX4_reset yX4_reset, .initialized RX1, .instantiable RX1 16, .classLink RX2 63 RX1, .fieldLink RX2 65 "PolicyHouse$Names" "nodes" "I", .methodLink RX1 3 objectInit, .fieldLink RX1 9 "PolicyHouse$Bundle" "rules" "I", .fieldLink RX1 15 "PolicyHouse$Bundle" "parts" "I", .fieldLink RX1 18 "PolicyHouse$Bundle" "words" "I", .fieldLink RX1 21 "PolicyHouse$Bundle" "reads" "[I", .fieldLink RX1 25 "PolicyHouse$Bundle" "rank" "[I", .fieldLink RX1 28 "PolicyHouse$Bundle" "branch" "[I", .fieldLink RX1 31 "PolicyHouse$Bundle" "code" "[I", .fieldLink RX1 34 "PolicyHouse$Bundle" "kind" "I", .fieldLink RX1 37 "PolicyHouse$Bundle" "module" "I", .fieldLink RX1 40 "PolicyHouse$Bundle" "place" "I", .classLink RX1 43 RX12, .fieldLink RX1 45 "PolicyHouse$Bundle" "mods" "[LPolicyHouse$Tree;", .fieldLink RX1 50 "PolicyHouse$Bundle" "count" "I", .fieldLink RX1 53 "PolicyHouse$Bundle" "rule" "[I", .fieldLink RX1 56 "PolicyHouse$Bundle" "part" "[I", .fieldLink RX1 59 "PolicyHouse$Bundle" "nodeRule" "[I", .fieldLink RX1 62 "PolicyHouse$Bundle" "inner" "[I", .code yX1_init cX1_init 6 none, .methodLink RX2 70 yX1_init, .instanceMethod yX1_init, .fieldLink RX2 99 "PolicyHouse$Bundle" "count" "I", .fieldLink RX2 128 "PolicyHouse$Bundle" "rules" "I", .fieldLink RX2 131 "PolicyHouse$Bundle" "words" "I", .code yX2_gather cX2_gather 4 none, .methodLink RX2 73 yX2_gather, .instanceMethod yX2_gather, .selects RX2 yX2_gather yX2_gather, .code yX2_findClash cX2_findClash 5 none, .methodLink RX2 76 yX2_findClash]
def zW10 : List Cond := [.instanceMethod yX2_findClash, .selects RX2 yX2_findClash yX2_findClash, .fieldLink RX2 79 "PolicyHouse$Bundle" "parts" "I", .fieldLink RX2 82 "PolicyHouse$Bundle" "kind" "I", .fieldLink RX2 306 "PolicyHouse$Bundle" "reads" "[I", .code yX2_findReads cX2_findReads 4 none, .methodLink RX2 93 yX2_findReads, .instanceMethod yX2_findReads, .selects RX2 yX2_findReads yX2_findReads, .fieldLink RX2 327 "PolicyHouse$Bundle" "rank" "[I", .code yX2_findDepth cX2_findDepth 5 none, .methodLink RX2 96 yX2_findDepth, .instanceMethod yX2_findDepth, .selects RX2 yX2_findDepth yX2_findDepth, .code yX2_bundle cX2_bundle 4 (some (.object "PolicyHouse$Bundle")), .methodLink RX13 172 yX2_bundle, .instanceMethod yX2_bundle, .selects RX2 yX2_bundle yX2_bundle, .fieldLink RX13 176 "PolicyHouse$Bundle" "kind" "I", .fieldLink RX3 62 "PolicyHouse$Bundle" "rules" "I", .code yX3_finish cX3_finish 6 none, .methodLink RX13 181 yX3_finish, .instanceMethod yX3_finish, .selects RX3 yX3_finish yX3_finish, .fieldLink RX3 238 "PolicyHouse$Bundle" "parts" "I", .methodLink RJ7 316 ⟨"[I", "clone", "()Ljava/lang/Object;"⟩, .sameMethod "[I" "java/lang/Object" "clone" "()Ljava/lang/Object;", .native ⟨"java/lang/Object", "clone", "()Ljava/lang/Object;"⟩, .instanceMethod ⟨"java/lang/Object", "clone", "()Ljava/lang/Object;"⟩, .selects "[I" ⟨"[I", "clone", "()Ljava/lang/Object;"⟩ ⟨"java/lang/Object", "clone", "()Ljava/lang/Object;"⟩, .classLink RJ7 317 "[I", .code yJ7_copyOf_59c91 cJ7_copyOf_59c91 3 (some (.array .int)), .methodLink RX3 251 yJ7_copyOf_59c91, .static yJ7_copyOf_59c91, .initialized RJ7, .fieldLink RX3 257 "PolicyHouse$Bundle" "branch" "[I", .methodLink RJ7 304 Lib.Math.min.name, .methodLink RJ7 150 arraycopyName, .fieldLink RX3 259 "PolicyHouse$Bundle" "code" "[I", .code yX3_encode cX3_encode 9 none]
def zW11 : List Cond := [.methodLink RX13 185 yX3_encode, .instanceMethod yX3_encode, .selects RX3 yX3_encode yX3_encode, .code yX13_bundleOfDraft cX13_bundleOfDraft 2 (some (.object "PolicyHouse$Bundle")), .methodLink RX13 148 yX13_bundleOfDraft, .instanceMethod yX13_bundleOfDraft, .selects RX13 yX13_bundleOfDraft yX13_bundleOfDraft, .fieldLink RX13 152 "PolicyHouse" "active" "LPolicyHouse$Bundle;", .code yX13_init cX13_init 2 none, .methodLink RL 15 yX13_init, .instanceMethod yX13_init, .initialized RX16, .instantiable RX16 243, .classLink RL 16 RX16, .methodLink RX16 2179 objectInit, .arrayClass .byte, .fieldLink RX16 53 "PolicyHouseModel" "letters" "[B", .constant RX16 2182 (140000), .fieldLink RX16 73 "PolicyHouseModel" "stack" "[I", .constant RX16 2183 (100001), .fieldLink RX16 2184 "PolicyHouseModel" "out" "[B", .fieldLink RX16 1548 "PolicyHouseModel" "work" "[B", .constant RX16 961 (40000), .fieldLink RX16 246 "PolicyHouseModel" "nameBytes" "[B", .fieldLink RX16 240 "PolicyHouseModel" "nameFrom" "[I", .fieldLink RX16 256 "PolicyHouseModel" "nameNext" "[I", .fieldLink RX16 249 "PolicyHouseModel" "bucket" "[I", .constant RX16 2187 (46000), .fieldLink RX16 336 "PolicyHouseModel" "kind" "[I", .fieldLink RX16 341 "PolicyHouseModel" "place" "[I", .fieldLink RX16 344 "PolicyHouseModel" "a" "[I", .fieldLink RX16 347 "PolicyHouseModel" "b" "[I", .fieldLink RX16 350 "PolicyHouseModel" "c" "[I", .fieldLink RX16 353 "PolicyHouseModel" "next" "[I", .fieldLink RX16 356 "PolicyHouseModel" "constKind" "[I", .fieldLink RX16 366 "PolicyHouseModel" "constFrom" "[I", .fieldLink RX16 362 "PolicyHouseModel" "constNum" "[J", .fieldLink RX16 369 "PolicyHouseModel" "constBytes" "[B", .fieldLink RX16 461 "PolicyHouseModel" "bodyFirst" "[I", .fieldLink RX16 464 "PolicyHouseModel" "bodyAround" "[I"]
def zW12 : List Cond := [.fieldLink RX16 467 "PolicyHouseModel" "bodyUnit" "[I", .fieldLink RX16 473 "PolicyHouseModel" "bodyPlace" "[I", .fieldLink RX16 476 "PolicyHouseModel" "bodyMany" "[I", .fieldLink RX16 544 "PolicyHouseModel" "packageOf" "[I", .fieldLink RX16 553 "PolicyHouseModel" "importModule" "[I", .fieldLink RX16 556 "PolicyHouseModel" "importPlace" "[I", .fieldLink RX16 559 "PolicyHouseModel" "importAlias" "[I", .fieldLink RX16 562 "PolicyHouseModel" "importRoot" "[I", .fieldLink RX16 565 "PolicyHouseModel" "importPath" "[I", .fieldLink RX16 568 "PolicyHouseModel" "partModule" "[I", .fieldLink RX16 571 "PolicyHouseModel" "partPlace" "[I", .fieldLink RX16 577 "PolicyHouseModel" "partSort" "[I", .fieldLink RX16 574 "PolicyHouseModel" "partName" "[I", .fieldLink RX16 580 "PolicyHouseModel" "partParameters" "[I", .fieldLink RX16 583 "PolicyHouseModel" "partMany" "[I", .fieldLink RX16 586 "PolicyHouseModel" "partKey" "[I", .fieldLink RX16 589 "PolicyHouseModel" "partBranch" "[I", .fieldLink RX16 654 "PolicyHouseModel" "ruleOfPart" "[I", .fieldLink RX16 639 "PolicyHouseModel" "ruleFirst" "[I", .fieldLink RX16 645 "PolicyHouseModel" "ruleSort" "[I", .fieldLink RX16 642 "PolicyHouseModel" "ruleParts" "[I", .fieldLink RX16 657 "PolicyHouseModel" "ruleMany" "[I", .fieldLink RX16 648 "PolicyHouseModel" "rulePath" "[I", .fieldLink RX16 651 "PolicyHouseModel" "ruleLength" "[I", .fieldLink RX16 629 "PolicyHouseModel" "packagePath" "[I", .fieldLink RX16 626 "PolicyHouseModel" "packageLength" "[I", .fieldLink RX16 742 "PolicyHouseModel" "how" "[I", .fieldLink RX16 752 "PolicyHouseModel" "which" "[I", .fieldLink RX16 794 "PolicyHouseModel" "varCount" "[I", .fieldLink RX16 799 "PolicyHouseModel" "varBody" "[I", .fieldLink RX16 691 "PolicyHouseModel" "declName" "[I", .fieldLink RX16 697 "PolicyHouseModel" "declPlace" "[I", .fieldLink RX16 700 "PolicyHouseModel" "declBody" "[I", .fieldLink RX16 770 "PolicyHouseModel" "callPath" "[I", .fieldLink RX16 856 "PolicyHouseModel" "readsAll" "[J", .fieldLink RX16 859 "PolicyHouseModel" "readsSo" "[J", .fieldLink RX16 862 "PolicyHouseModel" "depends" "[J", .fieldLink RX16 814 "PolicyHouseModel" "gathered" "[J", .fieldLink RX16 869 "PolicyHouseModel" "level" "[I", .fieldLink RX16 2140 "PolicyHouseModel" "withDepth" "[I"]
def zW13 : List Cond := [.fieldLink RX16 817 "PolicyHouseModel" "readPath" "[I", .arrayClass .boolean, .fieldLink RX16 906 "PolicyHouseModel" "rightFirst" "[Z", .fieldLink RX16 925 "PolicyHouseModel" "ordered" "[I", .fieldLink RX16 910 "PolicyHouseModel" "orderFrom" "[I", .fieldLink RX16 916 "PolicyHouseModel" "isPlaced" "[Z", .fieldLink RX16 802 "PolicyHouseModel" "varName" "[I", .initialized RX15, .instantiable RX15 8, .classLink RX16 127 RX15, .constant RX16 1684 (100000), .constant RX16 2188 (90000), .methodLink RX15 3 objectInit, .fieldLink RX15 9 "PolicyHouseModel$Values" "info" "[J", .fieldLink RX15 15 "PolicyHouseModel$Values" "pool" "[I", .fieldLink RX15 19 "PolicyHouseModel$Values" "bytes" "[B", .fieldLink RX15 23 "PolicyHouseModel$Values" "sorted" "[I", .fieldLink RX15 26 "PolicyHouseModel$Values" "other" "[I", .fieldLink RX15 32 "PolicyHouseModel$Values" "count" "I", .fieldLink RX15 36 "PolicyHouseModel$Values" "pooled" "I", .fieldLink RX15 39 "PolicyHouseModel$Values" "written" "I", .methodLink RX15 49 Lib.Math.min.name, .code yX15_node cX15_node 6 (some .int), .methodLink RX15 42 yX15_node, .instanceMethod yX15_node, .selects RX15 yX15_node yX15_node, .code yX15_clear cX15_clear 2 none, .methodLink RX15 29 yX15_clear, .instanceMethod yX15_clear, .selects RX15 yX15_clear yX15_clear, .code yX15_init cX15_init 5 none, .methodLink RX16 2189 yX15_init, .instanceMethod yX15_init, .fieldLink RX16 973 "PolicyHouseModel" "run" "LPolicyHouseModel$Values;", .fieldLink RX16 1017 "PolicyHouseModel" "constValue" "[I", .fieldLink RX16 1014 "PolicyHouseModel" "nameValue" "[I", .fieldLink RX16 1106 "PolicyHouseModel" "scopeInput" "[I", .fieldLink RX16 1280 "PolicyHouseModel" "tries" "[I", .fieldLink RX16 1044 "PolicyHouseModel" "replaced" "[I", .fieldLink RX16 1065 "PolicyHouseModel" "replacedName" "[I"]
def zW14 : List Cond := [.fieldLink RX16 1068 "PolicyHouseModel" "replacedValue" "[I", .fieldLink RX16 1053 "PolicyHouseModel" "docState" "[I", .fieldLink RX16 1056 "PolicyHouseModel" "docValue" "[I", .fieldLink RX16 1392 "PolicyHouseModel" "firstDoc" "[I", .fieldLink RX16 1395 "PolicyHouseModel" "isMade" "[Z", .fieldLink RX16 1371 "PolicyHouseModel" "standardValue" "[I", .fieldLink RX16 1365 "PolicyHouseModel" "isStandardMade" "[Z", .constant RX16 2191 (96000), .fieldLink RX16 994 "PolicyHouseModel" "rowEnv" "[I", .fieldLink RX16 1000 "PolicyHouseModel" "rowValue" "[I", .constant RX16 2192 (45000), .fieldLink RX16 1230 "PolicyHouseModel" "outEnv" "[I", .fieldLink RX16 1233 "PolicyHouseModel" "outValue" "[I", .constant RX16 2193 (850000), .fieldLink RX16 1009 "PolicyHouseModel" "env" "[J", .fieldLink RX16 1190 "PolicyHouseModel" "stepFrom" "[I", .fieldLink RX16 1196 "PolicyHouseModel" "stepEnd" "[I", .fieldLink RX16 1199 "PolicyHouseModel" "stepAt" "[I", .fieldLink RX16 1202 "PolicyHouseModel" "stepEnv" "[I", .fieldLink RX16 1227 "PolicyHouseModel" "tuple" "[I", .fieldLink RX16 1221 "PolicyHouseModel" "stepPart" "[I", .fieldLink RX16 1224 "PolicyHouseModel" "stepSecond" "[Z", .fieldLink RX16 1023 "PolicyHouseModel" "trieName" "[I", .fieldLink RX16 1020 "PolicyHouseModel" "trieFirst" "[I", .fieldLink RX16 1026 "PolicyHouseModel" "trieNext" "[I", .fieldLink RX16 1032 "PolicyHouseModel" "trieRule" "[I", .fieldLink RX16 1059 "PolicyHouseModel" "trieBase" "[I", .constant RX16 2194 (42000), .fieldLink RX16 1347 "PolicyHouseModel" "keyBefore" "[I", .fieldLink RX16 1350 "PolicyHouseModel" "keyPlace" "[I", .fieldLink RX16 1383 "PolicyHouseModel" "needs" "[J", .fieldLink RX16 1611 "PolicyHouseModel" "here" "LPolicyHouseModel$Values;", .fieldLink RX16 1631 "PolicyHouseModel" "beside" "LPolicyHouseModel$Values;", .fieldLink RX16 2195 "PolicyHouseModel" "texts" "LPolicyHouseModel$Values;", .fieldLink RX16 1644 "PolicyHouseModel" "pointer" "[B", .fieldLink RX16 1638 "PolicyHouseModel" "nameStart" "[I", .fieldLink RX16 1811 "PolicyHouseModel" "pOp" "[I", .fieldLink RX16 1814 "PolicyHouseModel" "pOne" "[I", .fieldLink RX16 1817 "PolicyHouseModel" "pTwo" "[I", .fieldLink RX16 1829 "PolicyHouseModel" "pMark" "[I"]
def zW15 : List Cond := [.fieldLink RX16 1838 "PolicyHouseModel" "pList" "[I", .fieldLink RX16 1841 "PolicyHouseModel" "pNext" "[I", .fieldLink RX16 1826 "PolicyHouseModel" "pPile" "[I", .fieldLink RX16 1731 "PolicyHouseModel" "classBits" "[J", .fieldLink RX16 1713 "PolicyHouseModel" "xKind" "[I", .fieldLink RX16 1719 "PolicyHouseModel" "xFirst" "[I", .fieldLink RX16 1722 "PolicyHouseModel" "xLeast" "[I", .fieldLink RX16 1725 "PolicyHouseModel" "xMost" "[I", .fieldLink RX16 1728 "PolicyHouseModel" "xNext" "[I", .fieldLink RX16 1907 "PolicyHouseModel" "versionAt" "[I", .fieldLink RX16 2028 "PolicyHouseModel" "walkPath" "[I", .fieldLink RX16 2085 "PolicyHouseModel" "moduleText" "[J", .fieldLink RX16 2161 "PolicyHouseModel" "queryText" "[B", .fieldLink RX16 2082 "PolicyHouseModel" "piece" "[B", .fieldLink RX16 2079 "PolicyHouseModel" "moduleLength" "[I", .fieldLink RX16 2076 "PolicyHouseModel" "moduleMany" "[I", .fieldLink RX16 2070 "PolicyHouseModel" "stamp" "[I", .fieldLink RX16 2158 "PolicyHouseModel" "queryLength" "[I", .fieldLink RX16 2198 "PolicyHouseModel" "isPrepared" "[Z", .fieldLink RX16 2201 "PolicyHouseModel" "stamps" "I", .fieldLink RX16 2067 "PolicyHouseModel" "loaded" "I", .fieldLink RX16 2173 "PolicyHouseModel" "lastModule" "I", .fieldLink RX16 2176 "PolicyHouseModel" "lastPlace" "I", .fieldLink RX16 2204 "PolicyHouseModel" "tape" "[B", .fieldLink RX16 2207 "PolicyHouseModel" "data" "LPolicyHouseModel$Values;", .fieldLink RX16 2209 "PolicyHouseModel" "input" "LPolicyHouseModel$Values;", .fieldLink RX16 2211 "PolicyHouseModel" "queryData" "[LPolicyHouseModel$Values;", .fieldLink RX16 2215 "PolicyHouseModel" "queryRoot" "[I", .constant RX16 2218 (40001), .fieldLink RX16 2219 "PolicyHouseModel" "results" "[I", .fieldLink RX16 2222 "PolicyHouseModel" "inputRoot" "I", .code yX15_sort cX15_sort 7 none, .methodLink RX15 145 yX15_sort, .instanceMethod yX15_sort, .selects RX15 yX15_sort yX15_sort, .code yX15_parted cX15_parted 10 (some .int), .methodLink RX15 122 yX15_parted, .instanceMethod yX15_parted, .selects RX15 yX15_parted yX15_parted, .code yX15_object cX15_object 8 (some .int)]
def zW16 : List Cond := [.methodLink RX16 163 yX15_object, .instanceMethod yX15_object, .selects RX15 yX15_object yX15_object, .fieldLink RX16 2225 "PolicyHouseModel" "dataRoot" "I", .code yX16_init cX16_init 1 none, .methodLink RL 18 yX16_init, .instanceMethod yX16_init, .code yX13_put cX13_put 3 none, .methodLink RX13 155 yX13_put, .instanceMethod yX13_put, .selects RX13 yX13_put yX13_put, .code yX13_feed cX13_feed 6 (some .boolean), .methodLink RL 19 yX13_feed, .instanceMethod yX13_feed, .selects RX13 yX13_feed yX13_feed, .fieldLink RX16 2228 "PolicyHouseModel" "thrown" "I", .fieldLink RX16 2231 "PolicyHouseModel" "tapeSize" "I", .code yX16_feed cX16_feed 8 (some .boolean), .methodLink RL 23 yX16_feed, .instanceMethod yX16_feed, .selects RX16 yX16_feed yX16_feed, .code yX13_end cX13_end 2 (some .boolean), .methodLink RL 24 yX13_end, .instanceMethod yX13_end, .selects RX13 yX13_end yX13_end, .code yX16_end cX16_end 2 (some .boolean), .methodLink RL 28 yX16_end, .instanceMethod yX16_end, .selects RX16 yX16_end yX16_end, .code yX13_emptied cX13_emptied 2 (some .int), .methodLink RX13 158 yX13_emptied, .instanceMethod yX13_emptied, .selects RX13 yX13_emptied yX13_emptied, .code yX8_behindBlanks cX8_behindBlanks 6 (some .int), .methodLink RX8 78 yX8_behindBlanks, .instanceMethod yX8_behindBlanks, .selects RX8 yX8_behindBlanks yX8_behindBlanks, .code yX8_split cX8_split 5 none, .methodLink RX8 181 yX8_split, .instanceMethod yX8_split]
def zW17 : List Cond := [.selects RX8 yX8_split yX8_split, .initialized RX12, .instantiable RX12 15, .classLink RX8 158 RX12, .methodLink RX12 1 objectInit, .fieldLink RX12 7 "PolicyHouse$Tree" "size" "I", .fieldLink RX12 13 "PolicyHouse$Tree" "pack" "I", .fieldLink RX12 16 "PolicyHouse$Tree" "root" "I", .fieldLink RX12 19 "PolicyHouse$Tree" "imports" "I", .fieldLink RX12 22 "PolicyHouse$Tree" "rules" "I", .fieldLink RX12 25 "PolicyHouse$Tree" "kind" "[I", .fieldLink RX12 29 "PolicyHouse$Tree" "at" "[I", .fieldLink RX12 32 "PolicyHouse$Tree" "a" "[I", .fieldLink RX12 35 "PolicyHouse$Tree" "b" "[I", .fieldLink RX12 38 "PolicyHouse$Tree" "c" "[I", .fieldLink RX12 41 "PolicyHouse$Tree" "first" "[I", .fieldLink RX12 44 "PolicyHouse$Tree" "next" "[I", .fieldLink RX12 47 "PolicyHouse$Tree" "last" "[I", .fieldLink RX12 50 "PolicyHouse$Tree" "res" "[I", .fieldLink RX12 53 "PolicyHouse$Tree" "ref" "[I", .code yX12_init cX12_init 2 none, .methodLink RX8 185 yX12_init, .instanceMethod yX12_init, .code yX8_is cX8_is 2 (some .boolean), .methodLink RX8 137 yX8_is, .instanceMethod yX8_is, .selects RX8 yX8_is yX8_is, .code yX8_fail cX8_fail 1 none, .methodLink RX8 143 yX8_fail, .instanceMethod yX8_fail, .selects RX8 yX8_fail yX8_fail, .code yX8_need cX8_need 2 none, .methodLink RX8 146 yX8_need, .instanceMethod yX8_need, .selects RX8 yX8_need yX8_need, .code yX12_add cX12_add 4 (some .int), .methodLink RX8 157 yX12_add, .instanceMethod yX12_add, .selects RX12 yX12_add yX12_add, .code yX8_node cX8_node 2 (some .int)]
def zW18 : List Cond := [.methodLink RX8 162 yX8_node, .instanceMethod yX8_node, .selects RX8 yX8_node yX8_node, .fieldLink RX8 165 "PolicyHouse$Tree" "a" "[I", .code yX8_take cX8_take 1 none, .methodLink RX8 140 yX8_take, .instanceMethod yX8_take, .selects RX8 yX8_take yX8_take, .code yX8_plainName cX8_plainName 2 (some .int), .methodLink RX8 168 yX8_plainName, .instanceMethod yX8_plainName, .selects RX8 yX8_plainName yX8_plainName, .code yX12_append cX12_append 3 none, .methodLink RX8 172 yX12_append, .instanceMethod yX12_append, .selects RX12 yX12_append yX12_append, .code yX8_path cX8_path 6 (some .int), .methodLink RX8 187 yX8_path, .instanceMethod yX8_path, .selects RX8 yX8_path yX8_path, .fieldLink RX8 190 "PolicyHouse$Tree" "pack" "I", .fieldLink RX8 193 "PolicyHouse$Tree" "root" "I", .fieldLink RX8 199 "PolicyHouse$Tree" "first" "[I", .fieldLink RX8 202 "PolicyHouse$Tree" "imports" "I", .code yX8_readModule cX8_readModule 5 (some (.object "PolicyHouse$Tree")), .methodLink RX13 162 yX8_readModule, .instanceMethod yX8_readModule, .selects RX8 yX8_readModule yX8_readModule, .fieldLink RX13 166 "PolicyHouse$Reader" "wrong" "I", .code yX13_module cX13_module 2 (some .int), .methodLink RL 29 yX13_module, .instanceMethod yX13_module, .selects RX13 yX13_module yX13_module, .code yX16_take cX16_take 2 (some .int), .methodLink RX16 2234 yX16_take, .instanceMethod yX16_take, .selects RX16 yX16_take yX16_take, .fieldLink RX16 338 "PolicyHouseModel" "nodes" "I", .fieldLink RX16 359 "PolicyHouseModel" "consts" "I", .fieldLink RX16 458 "PolicyHouseModel" "bodies" "I"]
def zW19 : List Cond := [.fieldLink RX16 259 "PolicyHouseModel" "names" "I", .fieldLink RX16 519 "PolicyHouseModel" "modules" "I", .fieldLink RX16 522 "PolicyHouseModel" "imports" "I", .fieldLink RX16 525 "PolicyHouseModel" "parts" "I", .methodLink RX16 104 yJ0_length_8abf5, .methodLink RX16 109 yJ0_charAt_5068e, .code yX16_name cX16_name 6 (some .int), .methodLink RX16 262 yX16_name, .instanceMethod yX16_name, .selects RX16 yX16_name yX16_name, .code yX16_nameOf cX16_nameOf 3 (some .int), .methodLink RX16 530 yX16_nameOf, .instanceMethod yX16_nameOf, .selects RX16 yX16_nameOf yX16_nameOf, .fieldLink RX16 385 "PolicyHouseModel" "underName" "I", .fieldLink RX16 432 "PolicyHouseModel" "setName" "I", .fieldLink RX16 497 "PolicyHouseModel" "inputName" "I", .fieldLink RX16 500 "PolicyHouseModel" "dataName" "I", .code yX16_clearTrees cX16_clearTrees 2 none, .methodLink RX16 2073 yX16_clearTrees, .instanceMethod yX16_clearTrees, .selects RX16 yX16_clearTrees yX16_clearTrees, .fieldLink RX16 270 "PolicyHouseModel" "source" "[B", .fieldLink RX16 273 "PolicyHouseModel" "sourceEnd" "I", .fieldLink RX16 267 "PolicyHouseModel" "wrong" "I", .fieldLink RX16 276 "PolicyHouseModel" "tokenEnd" "I", .fieldLink RX16 291 "PolicyHouseModel" "blankAhead" "Z", .fieldLink RX16 295 "PolicyHouseModel" "lineAhead" "Z", .code yX16_see cX16_see 3 (some .int), .methodLink RX16 29 yX16_see, .static yX16_see, .fieldLink RX16 298 "PolicyHouseModel" "tokenAt" "I", .fieldLink RX16 285 "PolicyHouseModel" "tokenWrong" "I", .fieldLink RX16 25 "PolicyHouseModel" "textWrong" "I", .fieldLink RX16 301 "PolicyHouseModel" "tokenKind" "I", .code yX16_lex cX16_lex 3 none, .methodLink RX16 279 yX16_lex, .instanceMethod yX16_lex, .selects RX16 yX16_lex yX16_lex, .code yX16_begin cX16_begin 3 none]
def zW20 : List Cond := [.methodLink RX16 540 yX16_begin, .instanceMethod yX16_begin, .selects RX16 yX16_begin yX16_begin, .fieldLink RX16 470 "PolicyHouseModel" "unit" "I", .code yX16_bad cX16_bad 1 (some .boolean), .methodLink RX16 282 yX16_bad, .instanceMethod yX16_bad, .selects RX16 yX16_bad yX16_bad, .code yX16_isKey cX16_isKey 2 (some .boolean), .methodLink RX16 333 yX16_isKey, .instanceMethod yX16_isKey, .selects RX16 yX16_isKey yX16_isKey, .code yX16_fail cX16_fail 2 none, .methodLink RX16 288 yX16_fail, .instanceMethod yX16_fail, .selects RX16 yX16_fail yX16_fail, .code yX16_needKey cX16_needKey 2 none, .methodLink RX16 506 yX16_needKey, .instanceMethod yX16_needKey, .selects RX16 yX16_needKey yX16_needKey, .code yX16_isName cX16_isName 1 (some .boolean), .methodLink RX16 382 yX16_isName, .instanceMethod yX16_isName, .selects RX16 yX16_isName yX16_isName, .code yX16_path cX16_path 4 (some .int), .methodLink RX16 503 yX16_path, .instanceMethod yX16_path, .selects RX16 yX16_path yX16_path, .code yX16_readModule cX16_readModule 5 (some .int), .methodLink RX16 2088 yX16_readModule, .instanceMethod yX16_readModule, .selects RX16 yX16_readModule yX16_readModule, .code yX16_module cX16_module 5 (some .int), .methodLink RL 33 yX16_module, .instanceMethod yX16_module, .selects RX16 yX16_module yX16_module, .code yX13_drop cX13_drop 2 (some .int), .methodLink RL 34 yX13_drop, .instanceMethod yX13_drop, .selects RX13 yX13_drop yX13_drop]
def zW21 : List Cond := [.code yX16_drop cX16_drop 2 (some .int), .methodLink RL 37 yX16_drop, .instanceMethod yX16_drop, .selects RX16 yX16_drop yX16_drop, .fieldLink RX13 188 "PolicyHouse$Bundle" "module" "I", .fieldLink RX13 191 "PolicyHouse$Bundle" "place" "I", .code yX13_find cX13_find 4 (some .int), .methodLink RX13 194 yX13_find, .instanceMethod yX13_find, .selects RX13 yX13_find yX13_find, .code yX13_check cX13_check 2 (some .int), .methodLink RL 38 yX13_check, .instanceMethod yX13_check, .selects RX13 yX13_check yX13_check, .fieldLink RX16 663 "PolicyHouseModel" "faultKind" "I", .fieldLink RX16 913 "PolicyHouseModel" "orders" "I", .fieldLink RX16 623 "PolicyHouseModel" "rules" "I", .code yX16_gatherRules cX16_gatherRules 5 none, .methodLink RX16 2116 yX16_gatherRules, .instanceMethod yX16_gatherRules, .selects RX16 yX16_gatherRules yX16_gatherRules, .code yX16_findClash cX16_findClash 3 none, .methodLink RX16 2119 yX16_findClash, .instanceMethod yX16_findClash, .selects RX16 yX16_findClash yX16_findClash, .code yX16_isFaulty cX16_isFaulty 1 (some .boolean), .methodLink RX16 666 yX16_isFaulty, .instanceMethod yX16_isFaulty, .selects RX16 yX16_isFaulty yX16_isFaulty, .code yX16_findReads cX16_findReads 4 none, .methodLink RX16 2125 yX16_findReads, .instanceMethod yX16_findReads, .selects RX16 yX16_findReads yX16_findReads, .code yX16_checkReads cX16_checkReads 4 none, .methodLink RX16 2128 yX16_checkReads, .instanceMethod yX16_checkReads, .selects RX16 yX16_checkReads yX16_checkReads, .code yX16_findDepths cX16_findDepths 4 none, .methodLink RX16 2137 yX16_findDepths, .instanceMethod yX16_findDepths]
def zW22 : List Cond := [.selects RX16 yX16_findDepths yX16_findDepths, .code yX16_checkBundle cX16_checkBundle 2 none, .methodLink RX16 2092 yX16_checkBundle, .instanceMethod yX16_checkBundle, .selects RX16 yX16_checkBundle yX16_checkBundle, .fieldLink RX16 2095 "PolicyHouseModel" "bundleKind" "I", .fieldLink RX16 669 "PolicyHouseModel" "faultModule" "I", .fieldLink RX16 2098 "PolicyHouseModel" "bundleModule" "I", .fieldLink RX16 672 "PolicyHouseModel" "faultPlace" "I", .fieldLink RX16 2101 "PolicyHouseModel" "bundlePlace" "I", .fieldLink RX16 2104 "PolicyHouseModel" "markNodes" "I", .fieldLink RX16 2107 "PolicyHouseModel" "markConsts" "I", .fieldLink RX16 2110 "PolicyHouseModel" "markBodies" "I", .fieldLink RX16 2113 "PolicyHouseModel" "markOrders" "I", .code yX16_loadBundle cX16_loadBundle 5 none, .methodLink RX16 2155 yX16_loadBundle, .instanceMethod yX16_loadBundle, .selects RX16 yX16_loadBundle yX16_loadBundle, .fieldLink RX16 2170 "PolicyHouseModel" "lastKind" "I", .code yX16_keepFault cX16_keepFault 1 none, .methodLink RX16 2239 yX16_keepFault, .instanceMethod yX16_keepFault, .selects RX16 yX16_keepFault yX16_keepFault, .code yX16_check cX16_check 1 (some .int), .methodLink RL 41 yX16_check, .instanceMethod yX16_check, .selects RX16 yX16_check yX16_check, .fieldLink RX13 198 "PolicyHouse$Bundle" "rules" "I", .code yX13_activate cX13_activate 2 (some .int), .methodLink RL 42 yX13_activate, .instanceMethod yX13_activate, .selects RX13 yX13_activate yX13_activate, .code yX16_copyBundle cX16_copyBundle 5 none, .methodLink RX16 2242 yX16_copyBundle, .instanceMethod yX16_copyBundle, .selects RX16 yX16_copyBundle yX16_copyBundle, .code yX16_activate cX16_activate 1 (some .int), .methodLink RL 45 yX16_activate, .instanceMethod yX16_activate, .selects RX16 yX16_activate yX16_activate]
def zW23 : List Cond := [.code yX13_fault cX13_fault 2 (some .int), .methodLink RL 46 yX13_fault, .instanceMethod yX13_fault, .selects RX13 yX13_fault yX13_fault, .code yX16_fault cX16_fault 2 (some .int), .methodLink RL 50 yX16_fault, .instanceMethod yX16_fault, .selects RX16 yX16_fault yX16_fault, .fieldLink RX13 207 "PolicyHouse$Heap" "top" "I", .code yX11_skip cX11_skip 1 none, .methodLink RX11 110 yX11_skip, .instanceMethod yX11_skip, .selects RX11 yX11_skip yX11_skip, .code yX11_fail cX11_fail 2 none, .methodLink RX11 119 yX11_fail, .instanceMethod yX11_fail, .selects RX11 yX11_fail yX11_fail, .code yX11_readValue cX11_readValue 4 (some .int), .methodLink RX11 107 yX11_readValue, .instanceMethod yX11_readValue, .selects RX11 yX11_readValue yX11_readValue, .code yX11_readJson cX11_readJson 5 (some .int), .methodLink RX13 210 yX11_readJson, .instanceMethod yX11_readJson, .selects RX11 yX11_readJson yX11_readJson, .fieldLink RX13 214 "PolicyHouse$Texts" "wrong" "I", .code yX13_data cX13_data 3 (some .int), .methodLink RL 51 yX13_data, .instanceMethod yX13_data, .selects RX13 yX13_data yX13_data, .methodLink RX16 1614 yX15_clear, .fieldLink RX16 80 "PolicyHouseModel" "into" "LPolicyHouseModel$Values;", .fieldLink RX16 84 "PolicyHouseModel" "json" "[B", .fieldLink RX16 87 "PolicyHouseModel" "jsonAt" "I", .fieldLink RX16 90 "PolicyHouseModel" "jsonEnd" "I", .fieldLink RX16 77 "PolicyHouseModel" "top" "I", .code yX16_jsonNext cX16_jsonNext 1 (some .int), .methodLink RX16 100 yX16_jsonNext, .instanceMethod yX16_jsonNext, .selects RX16 yX16_jsonNext yX16_jsonNext]
def zW24 : List Cond := [.code yX16_jsonBlanks cX16_jsonBlanks 1 none, .methodLink RX16 96 yX16_jsonBlanks, .instanceMethod yX16_jsonBlanks, .selects RX16 yX16_jsonBlanks yX16_jsonBlanks, .code yX16_isDigit cX16_isDigit 1 (some .boolean), .methodLink RX16 33 yX16_isDigit, .static yX16_isDigit, .code yX16_wrongAt cX16_wrongAt 2 none, .methodLink RX16 37 yX16_wrongAt, .instanceMethod yX16_wrongAt, .selects RX16 yX16_wrongAt yX16_wrongAt, .code yX16_jsonValue cX16_jsonValue 6 (some .int), .methodLink RX16 93 yX16_jsonValue, .instanceMethod yX16_jsonValue, .selects RX16 yX16_jsonValue yX16_jsonValue, .code yX16_readJson cX16_readJson 7 (some .int), .methodLink RX16 1601 yX16_readJson, .instanceMethod yX16_readJson, .selects RX16 yX16_readJson yX16_readJson, .code yX16_data cX16_data 3 (some .int), .methodLink RL 54 yX16_data, .instanceMethod yX16_data, .selects RX16 yX16_data yX16_data, .code yX13_patch cX13_patch 4 (some .int), .methodLink RL 55 yX13_patch, .instanceMethod yX13_patch, .selects RX13 yX13_patch yX13_patch, .code yX16_patch cX16_patch 3 (some .int), .methodLink RL 58 yX16_patch, .instanceMethod yX16_patch, .selects RX16 yX16_patch yX16_patch, .code yX13_input cX13_input 3 (some .int), .methodLink RL 59 yX13_input, .instanceMethod yX13_input, .selects RX13 yX13_input yX13_input, .code yX16_input cX16_input 3 (some .int), .methodLink RL 62 yX16_input, .instanceMethod yX16_input, .selects RX16 yX16_input yX16_input, .code yX8_readScalar cX8_readScalar 3 (some .int)]
def zW25 : List Cond := [.methodLink RX8 298 yX8_readScalar, .instanceMethod yX8_readScalar, .selects RX8 yX8_readScalar yX8_readScalar, .code yX8_readTerm cX8_readTerm 2 (some .int), .methodLink RX8 253 yX8_readTerm, .instanceMethod yX8_readTerm, .selects RX8 yX8_readTerm yX8_readTerm, .code yX8_readLevel cX8_readLevel 5 none, .methodLink RX8 283 yX8_readLevel, .instanceMethod yX8_readLevel, .selects RX8 yX8_readLevel yX8_readLevel, .fieldLink RX8 277 "PolicyHouse$Tree" "next" "[I", .code yX8_readExpression cX8_readExpression 4 (some .int), .methodLink RX8 268 yX8_readExpression, .instanceMethod yX8_readExpression, .selects RX8 yX8_readExpression yX8_readExpression, .fieldLink RX8 271 "PolicyHouse$Tree" "kind" "[I", .code yX8_readWiths cX8_readWiths 6 none, .methodLink RX8 274 yX8_readWiths, .instanceMethod yX8_readWiths, .selects RX8 yX8_readWiths yX8_readWiths, .code yX8_readLiteral cX8_readLiteral 4 (some .int), .methodLink RX8 259 yX8_readLiteral, .instanceMethod yX8_readLiteral, .selects RX8 yX8_readLiteral yX8_readLiteral, .code yX8_takes cX8_takes 2 (some .boolean), .methodLink RX8 229 yX8_takes, .instanceMethod yX8_takes, .selects RX8 yX8_takes yX8_takes, .code yX8_readLiterals cX8_readLiterals 5 none, .methodLink RX8 211 yX8_readLiterals, .instanceMethod yX8_readLiterals, .selects RX8 yX8_readLiterals yX8_readLiterals, .code yX8_readQuery cX8_readQuery 3 (some (.object "PolicyHouse$Tree")), .methodLink RX13 245 yX8_readQuery, .instanceMethod yX8_readQuery, .selects RX8 yX8_readQuery yX8_readQuery, .code yX13_prepare cX13_prepare 4 (some .int), .methodLink RL 63 yX13_prepare, .instanceMethod yX13_prepare]
def zW26 : List Cond := [.selects RX13 yX13_prepare yX13_prepare, .fieldLink RX16 376 "PolicyHouseModel" "brackets" "I", .code yX16_newBody cX16_newBody 3 (some .int), .methodLink RX16 479 yX16_newBody, .instanceMethod yX16_newBody, .selects RX16 yX16_newBody yX16_newBody, .code yX16_isSign cX16_isSign 2 (some .boolean), .methodLink RX16 327 yX16_isSign, .instanceMethod yX16_isSign, .selects RX16 yX16_isSign yX16_isSign, .code yX16_term cX16_term 3 (some .int), .methodLink RX16 411 yX16_term, .instanceMethod yX16_term, .selects RX16 yX16_term yX16_term, .code yX16_isOf cX16_isOf 2 (some .boolean), .methodLink RX16 452 yX16_isOf, .instanceMethod yX16_isOf, .selects RX16 yX16_isOf yX16_isOf, .code yX16_chain cX16_chain 10 (some .int), .methodLink RX16 438 yX16_chain, .instanceMethod yX16_chain, .selects RX16 yX16_chain yX16_chain, .code yX16_isComparison cX16_isComparison 1 (some .boolean), .methodLink RX16 455 yX16_isComparison, .instanceMethod yX16_isComparison, .selects RX16 yX16_isComparison yX16_isComparison, .code yX16_expression cX16_expression 7 (some .int), .methodLink RX16 414 yX16_expression, .instanceMethod yX16_expression, .selects RX16 yX16_expression yX16_expression, .code yX16_node cX16_node 6 (some .int), .methodLink RX16 372 yX16_node, .instanceMethod yX16_node, .selects RX16 yX16_node yX16_node, .code yX16_withs cX16_withs 10 none, .methodLink RX16 494 yX16_withs, .instanceMethod yX16_withs, .selects RX16 yX16_withs yX16_withs, .code yX16_literal cX16_literal 4 (some .int), .methodLink RX16 482 yX16_literal]
def zW27 : List Cond := [.instanceMethod yX16_literal, .selects RX16 yX16_literal yX16_literal, .code yX16_hang cX16_hang 3 (some .int), .methodLink RX16 391 yX16_hang, .instanceMethod yX16_hang, .selects RX16 yX16_hang yX16_hang, .code yX16_literals cX16_literals 6 (some .int), .methodLink RX16 444 yX16_literals, .instanceMethod yX16_literals, .selects RX16 yX16_literals yX16_literals, .fieldLink RX16 1274 "PolicyHouseModel" "queryBody" "I", .code yX16_readQuery cX16_readQuery 3 none, .methodLink RX16 2164 yX16_readQuery, .instanceMethod yX16_readQuery, .selects RX16 yX16_readQuery yX16_readQuery, .code yX16_prepare cX16_prepare 4 (some .int), .methodLink RL 66 yX16_prepare, .instanceMethod yX16_prepare, .selects RX16 yX16_prepare yX16_prepare, .code yX13_query cX13_query 2 (some (.object "PolicyHouse$Query")), .methodLink RX13 291 yX13_query, .instanceMethod yX13_query, .selects RX13 yX13_query yX13_query, .code yX13_renew cX13_renew 4 (some .int), .methodLink RL 67 yX13_renew, .instanceMethod yX13_renew, .selects RX13 yX13_renew yX13_renew, .code yX16_isQuery cX16_isQuery 2 (some .boolean), .methodLink RX16 2248 yX16_isQuery, .instanceMethod yX16_isQuery, .selects RX16 yX16_isQuery yX16_isQuery, .code yX16_renew cX16_renew 2 (some .int), .methodLink RL 70 yX16_renew, .instanceMethod yX16_renew, .selects RX16 yX16_renew yX16_renew, .code yX13_release cX13_release 2 (some .boolean), .methodLink RL 71 yX13_release, .instanceMethod yX13_release, .selects RX13 yX13_release yX13_release, .code yX16_release cX16_release 2 (some .boolean)]
def zW28 : List Cond := [.methodLink RL 74 yX16_release, .instanceMethod yX16_release, .selects RX16 yX16_release yX16_release, .code yX13_run cX13_run 5 (some .int), .methodLink RL 75 yX13_run, .instanceMethod yX13_run, .selects RX13 yX13_run yX13_run, .codeWith yX16_run cX16_run 6 (some .int) [(35, 90, 93, 962)], .methodLink RL 79 yX16_run, .instanceMethod yX16_run, .selects RX16 yX16_run yX16_run, .fieldLink RX13 306 "PolicyHouse$Machine" "bundle" "LPolicyHouse$Bundle;", .code yX13_hasRun cX13_hasRun 1 (some .boolean), .methodLink RX13 311 yX13_hasRun, .instanceMethod yX13_hasRun, .selects RX13 yX13_hasRun yX13_hasRun, .code yX13_about cX13_about 3 (some .int), .methodLink RL 80 yX13_about, .instanceMethod yX13_about, .selects RX13 yX13_about yX13_about, .fieldLink RX16 2263 "PolicyHouseModel" "hasRun" "Z", .code yX16_about cX16_about 2 (some .int), .methodLink RL 83 yX16_about, .instanceMethod yX16_about, .selects RX16 yX16_about yX16_about, .code yX13_hasRunOut cX13_hasRunOut 1 (some .boolean), .methodLink RX13 324 yX13_hasRunOut, .instanceMethod yX13_hasRunOut, .selects RX13 yX13_hasRunOut yX13_hasRunOut, .code yX13_covered cX13_covered 2 (some .int), .methodLink RL 84 yX13_covered, .instanceMethod yX13_covered, .selects RX13 yX13_covered yX13_covered, .code yX16_covered cX16_covered 2 (some .int), .methodLink RL 87 yX16_covered, .instanceMethod yX16_covered, .selects RX16 yX16_covered yX16_covered, .code yX13_result cX13_result 3 (some .int), .methodLink RL 88 yX13_result, .instanceMethod yX13_result]
def zW29 : List Cond := [.selects RX13 yX13_result yX13_result, .code yX16_result cX16_result 3 (some .int), .methodLink RL 91 yX16_result, .instanceMethod yX16_result, .selects RX16 yX16_result yX16_result, .code yX13_document cX13_document 3 (some .int), .methodLink RL 92 yX13_document, .instanceMethod yX13_document, .selects RX13 yX13_document yX13_document, .code yX16_document cX16_document 2 (some .int), .methodLink RL 95 yX16_document, .instanceMethod yX16_document, .selects RX16 yX16_document yX16_document, .code yX13_output cX13_output 2 (some .int), .methodLink RL 96 yX13_output, .instanceMethod yX13_output, .selects RX13 yX13_output yX13_output, .fieldLink RX16 2278 "PolicyHouseModel" "outputSize" "I", .code yX16_output cX16_output 2 (some .int), .methodLink RL 99 yX16_output, .instanceMethod yX16_output, .selects RX16 yX16_output yX16_output, .classLink RX13 367 "java/util/NoSuchElementException", .initialized "java/util/NoSuchElementException", .code yX13_rule cX13_rule 5 (some .int), .methodLink RL 7 yX13_rule, .instanceMethod yX13_rule, .selects RX13 yX13_rule yX13_rule, .classLink RL 13 "java/util/NoSuchElementException", .codeWith yL_rule cL_rule 5 (some .int) [(0, 10, 13, 13)], .methodLink RL 100 yL_rule, .static yL_rule, .initialized RL, .code yX16_rule cX16_rule 5 (some .int), .methodLink RL 105 yX16_rule, .instanceMethod yX16_rule, .selects RX16 yX16_rule yX16_rule, .code yX16_thrown cX16_thrown 1 (some .int), .methodLink RL 106 yX16_thrown, .instanceMethod yX16_thrown]
def zW30 : List Cond := [.selects RX16 yX16_thrown yX16_thrown, .code yX13_order cX13_order 4 (some .int), .methodLink RL 109 yX13_order, .instanceMethod yX13_order, .selects RX13 yX13_order yX13_order, .code yX16_order cX16_order 5 (some .int), .methodLink RL 112 yX16_order, .instanceMethod yX16_order, .selects RX16 yX16_order yX16_order, .code yX4_weight cX4_weight 3 (some .int), .methodLink RX13 228 yX4_weight, .instanceMethod yX4_weight, .selects RX4 yX4_weight yX4_weight, .code yX13_count cX13_count 4 (some .int), .methodLink RL 113 yX13_count, .instanceMethod yX13_count, .selects RX13 yX13_count yX13_count, .constantLong RX15 61 (7), .code yX15_kind cX15_kind 2 (some .int), .methodLink RX15 65 yX15_kind, .instanceMethod yX15_kind, .selects RX15 yX15_kind yX15_kind, .constantLong RX15 69 (1048575), .code yX15_weight cX15_weight 2 (some .int), .methodLink RX16 991 yX15_weight, .instanceMethod yX15_weight, .selects RX15 yX15_weight yX15_weight, .code yX16_count cX16_count 4 (some .int), .methodLink RL 116 yX16_count, .instanceMethod yX16_count, .selects RX16 yX16_count yX16_count, .instantiable RX7 7, .instantiable RX14 6]
def zWx : List Cond := (zOwS "PolicyHouse" 371 "java/util/NoSuchElementException" "java/lang/RuntimeException" 13 ⟨#[0x2a, 0x2b, 0xb7, 0x00, 0x0d, 0xb1]⟩ ["java/lang/Exception"]).filter goodWord
def zWf : List Cond := wsX00 ++ (wsX10 ++ (wsX100 ++ (wsX110 ++ (wsX120 ++ (wsX130 ++ (wsX140 ++ (wsX150 ++ (wsX160 ++ (wsX20 ++ (wsX30 ++ (wsX40 ++ (wsX50 ++ (wsX60 ++ (wsX70 ++ (wsX80 ++ (wsX90))))))))))))))))
/-- all words of the tables that are asked here -/
def zW : List Cond := zW0 ++ (zW1 ++ (zW2 ++ (zW3 ++ (zW4 ++ (zW5 ++ (zW6 ++ (zW7 ++ (zW8 ++ (zW9 ++ (zW10 ++ (zW11 ++ (zW12 ++ (zW13 ++ (zW14 ++ (zW15 ++ (zW16 ++ (zW17 ++ (zW18 ++ (zW19 ++ (zW20 ++ (zW21 ++ (zW22 ++ (zW23 ++ (zW24 ++ (zW25 ++ (zW26 ++ (zW27 ++ (zW28 ++ (zW29 ++ (zW30 ++ (zWx ++ (zWf))))))))))))))))))))))))))))))))
theorem zc_0 : ∀ w ∈ zW0, w ∈ zW := fun w h => (List.mem_append_left _ h)
theorem zc_1 : ∀ w ∈ zW1, w ∈ zW := fun w h => (List.mem_append_right _ (List.mem_append_left _ h))
theorem zc_2 : ∀ w ∈ zW2, w ∈ zW := fun w h => (List.mem_append_right _ (List.mem_append_right _ (List.mem_append_left _ h)))
theorem zc_3 : ∀ w ∈ zW3, w ∈ zW := fun w h => (List.mem_append_right _ (List.mem_append_right _ (List.mem_append_right _ (List.mem_append_left _ h))))
theorem zc_4 : ∀ w ∈ zW4, w ∈ zW := fun w h => (List.mem_append_right _ (List.mem_append_right _ (List.mem_append_right _ (List.mem_append_right _ (List.mem_append_left _ h)))))
theorem zc_5 : ∀ w ∈ zW5, w ∈ zW := fun w h => (List.mem_append_right _ (List.mem_append_right _ (List.mem_append_right _ (List.mem_append_right _ (List.mem_append_right _ (List.mem_append_left _ h))))))
theorem zc_6 : ∀ w ∈ zW6, w ∈ zW := fun w h => (List.mem_append_right _ (List.mem_append_right _ (List.mem_append_right _ (List.mem_append_right _ (List.mem_append_right _ (List.mem_append_right _ (List.mem_append_left _ h)))))))
theorem zc_7 : ∀ w ∈ zW7, w ∈ zW := fun w h => (List.mem_append_right _ (List.mem_append_right _ (List.mem_append_right _ (List.mem_append_right _ (List.mem_append_right _ (List.mem_append_right _ (List.mem_append_right _ (List.mem_append_left _ h))))))))
theorem zc_8 : ∀ w ∈ zW8, w ∈ zW := fun w h => (List.mem_append_right _ (List.mem_append_right _ (List.mem_append_right _ (List.mem_append_right _ (List.mem_append_right _ (List.mem_append_right _ (List.mem_append_right _ (List.mem_append_right _ (List.mem_append_left _ h)))))))))
theorem zc_9 : ∀ w ∈ zW9, w ∈ zW := fun w h => (List.mem_append_right _ (List.mem_append_right _ (List.mem_append_right _ (List.mem_append_right _ (List.mem_append_right _ (List.mem_append_right _ (List.mem_append_right _ (List.mem_append_right _ (List.mem_append_right _ (List.mem_append_left _ h))))))))))
theorem zc_10 : ∀ w ∈ zW10, w ∈ zW := fun w h => (List.mem_append_right _ (List.mem_append_right _ (List.mem_append_right _ (List.mem_append_right _ (List.mem_append_right _ (List.mem_append_right _ (List.mem_append_right _ (List.mem_append_right _ (List.mem_append_right _ (List.mem_append_right _ (List.mem_append_left _ h)))))))))))
theorem zc_11 : ∀ w ∈ zW11, w ∈ zW := fun w h => (List.mem_append_right _ (List.mem_append_right _ (List.mem_append_right _ (List.mem_append_right _ (List.mem_append_right _ (List.mem_append_right _ (List.mem_append_right _ (List.mem_append_right _ (List.mem_append_right _ (List.mem_append_right _ (List.mem_append_right _ (List.mem_append_left _ h))))))))))))
theorem zc_12 : ∀ w ∈ zW12, w ∈ zW := fun w h => (List.mem_append_right _ (List.mem_append_right _ (List.mem_append_right _ (List.mem_append_right _ (List.mem_append_right _ (List.mem_append_right _ (List.mem_append_right _ (List.mem_append_right _ (List.mem_append_right _ (List.mem_append_right _ (List.mem_append_right _ (List.mem_append_right _ (List.mem_append_left _ h)))))))))))))
theorem zc_13 : ∀ w ∈ zW13, w ∈ zW := fun w h => (List.mem_append_right _ (List.mem_append_right _ (List.mem_append_right _ (List.mem_append_right _ (List.mem_append_right _ (List.mem_append_right _ (List.mem_append_right _ (List.mem_append_right _ (List.mem_append_right _ (List.mem_append_right _ (List.mem_append_right _ (List.mem_append_right _ (List.mem_append_right _ (List.mem_append_left _ h))))))))))))))
theorem zc_14 : ∀ w ∈ zW14, w ∈ zW := fun w h => (List.mem_append_right _ (List.mem_append_right _ (List.mem_append_right _ (List.mem_append_right _ (List.mem_append_right _ (List.mem_append_right _ (List.mem_append_right _ (List.mem_append_right _ (List.mem_append_right _ (List.mem_append_right _ (List.mem_append_right _ (List.mem_append_right _ (List.mem_append_right _ (List.mem_append_right _ (List.mem_append_left _ h)))))))))))))))
theorem zc_15 : ∀ w ∈ zW15, w ∈ zW := fun w h => (List.mem_append_right _ (List.mem_append_right _ (List.mem_append_right _ (List.mem_append_right _ (List.mem_append_right _ (List.mem_append_right _ (List.mem_append_right _ (List.mem_append_right _ (List.mem_append_right _ (List.mem_append_right _ (List.mem_append_right _ (List.mem_append_right _ (List.mem_append_right _ (List.mem_append_right _ (List.mem_append_right _ (List.mem_append_left _ h))))))))))))))))
theorem zc_16 : ∀ w ∈ zW16, w ∈ zW := fun w h => (List.mem_append_right _ (List.mem_append_right _ (List.mem_append_right _ (List.mem_append_right _ (List.mem_append_right _ (List.mem_append_right _ (List.mem_append_right _ (List.mem_append_right _ (List.mem_append_right _ (List.mem_append_right _ (List.mem_append_right _ (List.mem_append_right _ (List.mem_append_right _ (List.mem_append_right _ (List.mem_append_right _ (List.mem_append_right _ (List.mem_append_left _ h)))))))))))))))))
theorem zc_17 : ∀ w ∈ zW17, w ∈ zW := fun w h => (List.mem_append_right _ (List.mem_append_right _ (List.mem_append_right _ (List.mem_append_right _ (List.mem_append_right _ (List.mem_append_right _ (List.mem_append_right _ (List.mem_append_right _ (List.mem_append_right _ (List.mem_append_right _ (List.mem_append_right _ (List.mem_append_right _ (List.mem_append_right _ (List.mem_append_right _ (List.mem_append_right _ (List.mem_append_right _ (List.mem_append_right _ (List.mem_append_left _ h))))))))))))))))))
theorem zc_18 : ∀ w ∈ zW18, w ∈ zW := fun w h => (List.mem_append_right _ (List.mem_append_right _ (List.mem_append_right _ (List.mem_append_right _ (List.mem_append_right _ (List.mem_append_right _ (List.mem_append_right _ (List.mem_append_right _ (List.mem_append_right _ (List.mem_append_right _ (List.mem_append_right _ (List.mem_append_right _ (List.mem_append_right _ (List.mem_append_right _ (List.mem_append_right _ (List.mem_append_right _ (List.mem_append_right _ (List.mem_append_right _ (List.mem_append_left _ h)))))))))))))))))))
theorem zc_19 : ∀ w ∈ zW19, w ∈ zW := fun w h => (List.mem_append_right _ (List.mem_append_right _ (List.mem_append_right _ (List.mem_append_right _ (List.mem_append_right _ (List.mem_append_right _ (List.mem_append_right _ (List.mem_append_right _ (List.mem_append_right _ (List.mem_append_right _ (List.mem_append_right _ (List.mem_append_right _ (List.mem_append_right _ (List.mem_append_right _ (List.mem_append_right _ (List.mem_append_right _ (List.mem_append_right _ (List.mem_append_right _ (List.mem_append_right _ (List.mem_append_left _ h))))))))))))))))))))
theorem zc_20 : ∀ w ∈ zW20, w ∈ zW := fun w h => (List.mem_append_right _ (List.mem_append_right _ (List.mem_append_right _ (List.mem_append_right _ (List.mem_append_right _ (List.mem_append_right _ (List.mem_append_right _ (List.mem_append_right _ (List.mem_append_right _ (List.mem_append_right _ (List.mem_append_right _ (List.mem_append_right _ (List.mem_append_right _ (List.mem_append_right _ (List.mem_append_right _ (List.mem_append_right _ (List.mem_append_right _ (List.mem_append_right _ (List.mem_append_right _ (List.mem_append_right _ (List.mem_append_left _ h)))))))))))))))))))))
theorem zc_21 : ∀ w ∈ zW21, w ∈ zW := fun w h => (List.mem_append_right _ (List.mem_append_right _ (List.mem_append_right _ (List.mem_append_right _ (List.mem_append_right _ (List.mem_append_right _ (List.mem_append_right _ (List.mem_append_right _ (List.mem_append_right _ (List.mem_append_right _ (List.mem_append_right _ (List.mem_append_right _ (List.mem_append_right _ (List.mem_append_right _ (List.mem_append_right _ (List.mem_append_right _ (List.mem_append_right _ (List.mem_append_right _ (List.mem_append_right _ (List.mem_append_right _ (List.mem_append_right _ (List.mem_append_left _ h))))))))))))))))))))))
theorem zc_22 : ∀ w ∈ zW22, w ∈ zW := fun w h => (List.mem_append_right _ (List.mem_append_right _ (List.mem_append_right _ (List.mem_append_right _ (List.mem_append_right _ (List.mem_append_right _ (List.mem_append_right _ (List.mem_append_right _ (List.mem_append_right _ (List.mem_append_right _ (List.mem_append_right _ (List.mem_append_right _ (List.mem_append_right _ (List.mem_append_right _ (List.mem_append_right _ (List.mem_append_right _ (List.mem_append_right _ (List.mem_append_right _ (List.mem_append_right _ (List.mem_append_right _ (List.mem_append_right _ (List.mem_append_right _ (List.mem_append_left _ h)))))))))))))))))))))))
theorem zc_23 : ∀ w ∈ zW23, w ∈ zW := fun w h => (List.mem_append_right _ (List.mem_append_right _ (List.mem_append_right _ (List.mem_append_right _ (List.mem_append_right _ (List.mem_append_right _ (List.mem_append_right _ (List.mem_append_right _ (List.mem_append_right _ (List.mem_append_right _ (List.mem_append_right _ (List.mem_append_right _ (List.mem_append_right _ (List.mem_append_right _ (List.mem_append_right _ (List.mem_append_right _ (List.mem_append_right _ (List.mem_append_right _ (List.mem_append_right _ (List.mem_append_right _ (List.mem_append_right _ (List.mem_append_right _ (List.mem_append_right _ (List.mem_append_left _ h))))))))))))))))))))))))
theorem zc_24 : ∀ w ∈ zW24, w ∈ zW := fun w h => (List.mem_append_right _ (List.mem_append_right _ (List.mem_append_right _ (List.mem_append_right _ (List.mem_append_right _ (List.mem_append_right _ (List.mem_append_right _ (List.mem_append_right _ (List.mem_append_right _ (List.mem_append_right _ (List.mem_append_right _ (List.mem_append_right _ (List.mem_append_right _ (List.mem_append_right _ (List.mem_append_right _ (List.mem_append_right _ (List.mem_append_right _ (List.mem_append_right _ (List.mem_append_right _ (List.mem_append_right _ (List.mem_append_right _ (List.mem_append_right _ (List.mem_append_right _ (List.mem_append_right _ (List.mem_append_left _ h)))))))))))))))))))))))))
theorem zc_25 : ∀ w ∈ zW25, w ∈ zW := fun w h => (List.mem_append_right _ (List.mem_append_right _ (List.mem_append_right _ (List.mem_append_right _ (List.mem_append_right _ (List.mem_append_right _ (List.mem_append_right _ (List.mem_append_right _ (List.mem_append_right _ (List.mem_append_right _ (List.mem_append_right _ (List.mem_append_right _ (List.mem_append_right _ (List.mem_append_right _ (List.mem_append_right _ (List.mem_append_right _ (List.mem_append_right _ (List.mem_append_right _ (List.mem_append_right _ (List.mem_append_right _ (List.mem_append_right _ (List.mem_append_right _ (List.mem_append_right _ (List.mem_append_right _ (List.mem_append_right _ (List.mem_append_left _ h))))))))))))))))))))))))))
theorem zc_26 : ∀ w ∈ zW26, w ∈ zW := fun w h => (List.mem_append_right _ (List.mem_append_right _ (List.mem_append_right _ (List.mem_append_right _ (List.mem_append_right _ (List.mem_append_right _ (List.mem_append_right _ (List.mem_append_right _ (List.mem_append_right _ (List.mem_append_right _ (List.mem_append_right _ (List.mem_append_right _ (List.mem_append_right _ (List.mem_append_right _ (List.mem_append_right _ (List.mem_append_right _ (List.mem_append_right _ (List.mem_append_right _ (List.mem_append_right _ (List.mem_append_right _ (List.mem_append_right _ (List.mem_append_right _ (List.mem_append_right _ (List.mem_append_right _ (List.mem_append_right _ (List.mem_append_right _ (List.mem_append_left _ h)))))))))))))))))))))))))))
theorem zc_27 : ∀ w ∈ zW27, w ∈ zW := fun w h => (List.mem_append_right _ (List.mem_append_right _ (List.mem_append_right _ (List.mem_append_right _ (List.mem_append_right _ (List.mem_append_right _ (List.mem_append_right _ (List.mem_append_right _ (List.mem_append_right _ (List.mem_append_right _ (List.mem_append_right _ (List.mem_append_right _ (List.mem_append_right _ (List.mem_append_right _ (List.mem_append_right _ (List.mem_append_right _ (List.mem_append_right _ (List.mem_append_right _ (List.mem_append_right _ (List.mem_append_right _ (List.mem_append_right _ (List.mem_append_right _ (List.mem_append_right _ (List.mem_append_right _ (List.mem_append_right _ (List.mem_append_right _ (List.mem_append_right _ (List.mem_append_left _ h))))))))))))))))))))))))))))
theorem zc_28 : ∀ w ∈ zW28, w ∈ zW := fun w h => (List.mem_append_right _ (List.mem_append_right _ (List.mem_append_right _ (List.mem_append_right _ (List.mem_append_right _ (List.mem_append_right _ (List.mem_append_right _ (List.mem_append_right _ (List.mem_append_right _ (List.mem_append_right _ (List.mem_append_right _ (List.mem_append_right _ (List.mem_append_right _ (List.mem_append_right _ (List.mem_append_right _ (List.mem_append_right _ (List.mem_append_right _ (List.mem_append_right _ (List.mem_append_right _ (List.mem_append_right _ (List.mem_append_right _ (List.mem_append_right _ (List.mem_append_right _ (List.mem_append_right _ (List.mem_append_right _ (List.mem_append_right _ (List.mem_append_right _ (List.mem_append_right _ (List.mem_append_left _ h)))))))))))))))))))))))))))))
theorem zc_29 : ∀ w ∈ zW29, w ∈ zW := fun w h => (List.mem_append_right _ (List.mem_append_right _ (List.mem_append_right _ (List.mem_append_right _ (List.mem_append_right _ (List.mem_append_right _ (List.mem_append_right _ (List.mem_append_right _ (List.mem_append_right _ (List.mem_append_right _ (List.mem_append_right _ (List.mem_append_right _ (List.mem_append_right _ (List.mem_append_right _ (List.mem_append_right _ (List.mem_append_right _ (List.mem_append_right _ (List.mem_append_right _ (List.mem_append_right _ (List.mem_append_right _ (List.mem_append_right _ (List.mem_append_right _ (List.mem_append_right _ (List.mem_append_right _ (List.mem_append_right _ (List.mem_append_right _ (List.mem_append_right _ (List.mem_append_right _ (List.mem_append_right _ (List.mem_append_left _ h))))))))))))))))))))))))))))))
theorem zc_30 : ∀ w ∈ zW30, w ∈ zW := fun w h => (List.mem_append_right _ (List.mem_append_right _ (List.mem_append_right _ (List.mem_append_right _ (List.mem_append_right _ (List.mem_append_right _ (List.mem_append_right _ (List.mem_append_right _ (List.mem_append_right _ (List.mem_append_right _ (List.mem_append_right _ (List.mem_append_right _ (List.mem_append_right _ (List.mem_append_right _ (List.mem_append_right _ (List.mem_append_right _ (List.mem_append_right _ (List.mem_append_right _ (List.mem_append_right _ (List.mem_append_right _ (List.mem_append_right _ (List.mem_append_right _ (List.mem_append_right _ (List.mem_append_right _ (List.mem_append_right _ (List.mem_append_right _ (List.mem_append_right _ (List.mem_append_right _ (List.mem_append_right _ (List.mem_append_right _ (List.mem_append_left _ h)))))))))))))))))))))))))))))))
theorem zc_x : ∀ w ∈ zWx, w ∈ zW := fun w h => (List.mem_append_right _ (List.mem_append_right _ (List.mem_append_right _ (List.mem_append_right _ (List.mem_append_right _ (List.mem_append_right _ (List.mem_append_right _ (List.mem_append_right _ (List.mem_append_right _ (List.mem_append_right _ (List.mem_append_right _ (List.mem_append_right _ (List.mem_append_right _ (List.mem_append_right _ (List.mem_append_right _ (List.mem_append_right _ (List.mem_append_right _ (List.mem_append_right _ (List.mem_append_right _ (List.mem_append_right _ (List.mem_append_right _ (List.mem_append_right _ (List.mem_append_right _ (List.mem_append_right _ (List.mem_append_right _ (List.mem_append_right _ (List.mem_append_right _ (List.mem_append_right _ (List.mem_append_right _ (List.mem_append_right _ (List.mem_append_right _ (List.mem_append_left _ h))))))))))))))))))))))))))))))))
theorem zc_f : ∀ w ∈ zWf, w ∈ zW := fun w h => (List.mem_append_right _ (List.mem_append_right _ (List.mem_append_right _ (List.mem_append_right _ (List.mem_append_right _ (List.mem_append_right _ (List.mem_append_right _ (List.mem_append_right _ (List.mem_append_right _ (List.mem_append_right _ (List.mem_append_right _ (List.mem_append_right _ (List.mem_append_right _ (List.mem_append_right _ (List.mem_append_right _ (List.mem_append_right _ (List.mem_append_right _ (List.mem_append_right _ (List.mem_append_right _ (List.mem_append_right _ (List.mem_append_right _ (List.mem_append_right _ (List.mem_append_right _ (List.mem_append_right _ (List.mem_append_right _ (List.mem_append_right _ (List.mem_append_right _ (List.mem_append_right _ (List.mem_append_right _ (List.mem_append_right _ (List.mem_append_right _ (List.mem_append_right _ h))))))))))))))))))))))))))))))))
theorem zf_X0 : ∀ w ∈ wsX00, w ∈ zW := fun w h => zc_f w (List.mem_append_left _ h)
theorem zf_X1 : ∀ w ∈ wsX10, w ∈ zW := fun w h => zc_f w (List.mem_append_right _ (List.mem_append_left _ h))
theorem zf_X10 : ∀ w ∈ wsX100, w ∈ zW := fun w h => zc_f w (List.mem_append_right _ (List.mem_append_right _ (List.mem_append_left _ h)))
theorem zf_X11 : ∀ w ∈ wsX110, w ∈ zW := fun w h => zc_f w (List.mem_append_right _ (List.mem_append_right _ (List.mem_append_right _ (List.mem_append_left _ h))))
theorem zf_X12 : ∀ w ∈ wsX120, w ∈ zW := fun w h => zc_f w (List.mem_append_right _ (List.mem_append_right _ (List.mem_append_right _ (List.mem_append_right _ (List.mem_append_left _ h)))))
theorem zf_X13 : ∀ w ∈ wsX130, w ∈ zW := fun w h => zc_f w (List.mem_append_right _ (List.mem_append_right _ (List.mem_append_right _ (List.mem_append_right _ (List.mem_append_right _ (List.mem_append_left _ h))))))
theorem zf_X14 : ∀ w ∈ wsX140, w ∈ zW := fun w h => zc_f w (List.mem_append_right _ (List.mem_append_right _ (List.mem_append_right _ (List.mem_append_right _ (List.mem_append_right _ (List.mem_append_right _ (List.mem_append_left _ h)))))))
theorem zf_X15 : ∀ w ∈ wsX150, w ∈ zW := fun w h => zc_f w (List.mem_append_right _ (List.mem_append_right _ (List.mem_append_right _ (List.mem_append_right _ (List.mem_append_right _ (List.mem_append_right _ (List.mem_append_right _ (List.mem_append_left _ h))))))))
theorem zf_X16 : ∀ w ∈ wsX160, w ∈ zW := fun w h => zc_f w (List.mem_append_right _ (List.mem_append_right _ (List.mem_append_right _ (List.mem_append_right _ (List.mem_append_right _ (List.mem_append_right _ (List.mem_append_right _ (List.mem_append_right _ (List.mem_append_left _ h)))))))))
theorem zf_X2 : ∀ w ∈ wsX20, w ∈ zW := fun w h => zc_f w (List.mem_append_right _ (List.mem_append_right _ (List.mem_append_right _ (List.mem_append_right _ (List.mem_append_right _ (List.mem_append_right _ (List.mem_append_right _ (List.mem_append_right _ (List.mem_append_right _ (List.mem_append_left _ h))))))))))
theorem zf_X3 : ∀ w ∈ wsX30, w ∈ zW := fun w h => zc_f w (List.mem_append_right _ (List.mem_append_right _ (List.mem_append_right _ (List.mem_append_right _ (List.mem_append_right _ (List.mem_append_right _ (List.mem_append_right _ (List.mem_append_right _ (List.mem_append_right _ (List.mem_append_right _ (List.mem_append_left _ h)))))))))))
theorem zf_X4 : ∀ w ∈ wsX40, w ∈ zW := fun w h => zc_f w (List.mem_append_right _ (List.mem_append_right _ (List.mem_append_right _ (List.mem_append_right _ (List.mem_append_right _ (List.mem_append_right _ (List.mem_append_right _ (List.mem_append_right _ (List.mem_append_right _ (List.mem_append_right _ (List.mem_append_right _ (List.mem_append_left _ h))))))))))))
theorem zf_X5 : ∀ w ∈ wsX50, w ∈ zW := fun w h => zc_f w (List.mem_append_right _ (List.mem_append_right _ (List.mem_append_right _ (List.mem_append_right _ (List.mem_append_right _ (List.mem_append_right _ (List.mem_append_right _ (List.mem_append_right _ (List.mem_append_right _ (List.mem_append_right _ (List.mem_append_right _ (List.mem_append_right _ (List.mem_append_left _ h)))))))))))))
theorem zf_X6 : ∀ w ∈ wsX60, w ∈ zW := fun w h => zc_f w (List.mem_append_right _ (List.mem_append_right _ (List.mem_append_right _ (List.mem_append_right _ (List.mem_append_right _ (List.mem_append_right _ (List.mem_append_right _ (List.mem_append_right _ (List.mem_append_right _ (List.mem_append_right _ (List.mem_append_right _ (List.mem_append_right _ (List.mem_append_right _ (List.mem_append_left _ h))))))))))))))
theorem zf_X7 : ∀ w ∈ wsX70, w ∈ zW := fun w h => zc_f w (List.mem_append_right _ (List.mem_append_right _ (List.mem_append_right _ (List.mem_append_right _ (List.mem_append_right _ (List.mem_append_right _ (List.mem_append_right _ (List.mem_append_right _ (List.mem_append_right _ (List.mem_append_right _ (List.mem_append_right _ (List.mem_append_right _ (List.mem_append_right _ (List.mem_append_right _ (List.mem_append_left _ h)))))))))))))))
theorem zf_X8 : ∀ w ∈ wsX80, w ∈ zW := fun w h => zc_f w (List.mem_append_right _ (List.mem_append_right _ (List.mem_append_right _ (List.mem_append_right _ (List.mem_append_right _ (List.mem_append_right _ (List.mem_append_right _ (List.mem_append_right _ (List.mem_append_right _ (List.mem_append_right _ (List.mem_append_right _ (List.mem_append_right _ (List.mem_append_right _ (List.mem_append_right _ (List.mem_append_right _ (List.mem_append_left _ h))))))))))))))))
theorem zf_X9 : ∀ w ∈ wsX90, w ∈ zW := fun w h => zc_f w (List.mem_append_right _ (List.mem_append_right _ (List.mem_append_right _ (List.mem_append_right _ (List.mem_append_right _ (List.mem_append_right _ (List.mem_append_right _ (List.mem_append_right _ (List.mem_append_right _ (List.mem_append_right _ (List.mem_append_right _ (List.mem_append_right _ (List.mem_append_right _ (List.mem_append_right _ (List.mem_append_right _ (List.mem_append_right _ h))))))))))))))))
theorem zd_0 : ∀ w ∈ zW0, goodWord w = true := List.all_eq_true.mp (by decide +kernel)
theorem zd_1 : ∀ w ∈ zW1, goodWord w = true := List.all_eq_true.mp (by decide +kernel)
theorem zd_2 : ∀ w ∈ zW2, goodWord w = true := List.all_eq_true.mp (by decide +kernel)
theorem zd_3 : ∀ w ∈ zW3, goodWord w = true := List.all_eq_true.mp (by decide +kernel)
theorem zd_4 : ∀ w ∈ zW4, goodWord w = true := List.all_eq_true.mp (by decide +kernel)
theorem zd_5 : ∀ w ∈ zW5, goodWord w = true := List.all_eq_true.mp (by decide +kernel)
theorem zd_6 : ∀ w ∈ zW6, goodWord w = true := List.all_eq_true.mp (by decide +kernel)
theorem zd_7 : ∀ w ∈ zW7, goodWord w = true := List.all_eq_true.mp (by decide +kernel)
theorem zd_8 : ∀ w ∈ zW8, goodWord w = true := List.all_eq_true.mp (by decide +kernel)
theorem zd_9 : ∀ w ∈ zW9, goodWord w = true := List.all_eq_true.mp (by decide +kernel)
theorem zd_10 : ∀ w ∈ zW10, goodWord w = true := List.all_eq_true.mp (by decide +kernel)
theorem zd_11 : ∀ w ∈ zW11, goodWord w = true := List.all_eq_true.mp (by decide +kernel)
theorem zd_12 : ∀ w ∈ zW12, goodWord w = true := List.all_eq_true.mp (by decide +kernel)
theorem zd_13 : ∀ w ∈ zW13, goodWord w = true := List.all_eq_true.mp (by decide +kernel)
theorem zd_14 : ∀ w ∈ zW14, goodWord w = true := List.all_eq_true.mp (by decide +kernel)
theorem zd_15 : ∀ w ∈ zW15, goodWord w = true := List.all_eq_true.mp (by decide +kernel)
theorem zd_16 : ∀ w ∈ zW16, goodWord w = true := List.all_eq_true.mp (by decide +kernel)
theorem zd_17 : ∀ w ∈ zW17, goodWord w = true := List.all_eq_true.mp (by decide +kernel)
theorem zd_18 : ∀ w ∈ zW18, goodWord w = true := List.all_eq_true.mp (by decide +kernel)
theorem zd_19 : ∀ w ∈ zW19, goodWord w = true := List.all_eq_true.mp (by decide +kernel)
theorem zd_20 : ∀ w ∈ zW20, goodWord w = true := List.all_eq_true.mp (by decide +kernel)
theorem zd_21 : ∀ w ∈ zW21, goodWord w = true := List.all_eq_true.mp (by decide +kernel)
theorem zd_22 : ∀ w ∈ zW22, goodWord w = true := List.all_eq_true.mp (by decide +kernel)
theorem zd_23 : ∀ w ∈ zW23, goodWord w = true := List.all_eq_true.mp (by decide +kernel)
theorem zd_24 : ∀ w ∈ zW24, goodWord w = true := List.all_eq_true.mp (by decide +kernel)
theorem zd_25 : ∀ w ∈ zW25, goodWord w = true := List.all_eq_true.mp (by decide +kernel)
theorem zd_26 : ∀ w ∈ zW26, goodWord w = true := List.all_eq_true.mp (by decide +kernel)
theorem zd_27 : ∀ w ∈ zW27, goodWord w = true := List.all_eq_true.mp (by decide +kernel)
theorem zd_28 : ∀ w ∈ zW28, goodWord w = true := List.all_eq_true.mp (by decide +kernel)
theorem zd_29 : ∀ w ∈ zW29, goodWord w = true := List.all_eq_true.mp (by decide +kernel)
theorem zd_30 : ∀ w ∈ zW30, goodWord w = true := List.all_eq_true.mp (by decide +kernel)
theorem zd_x : ∀ w ∈ zWx, goodWord w = true := fun w h => (List.mem_filter.mp h).2
theorem zd_X0 : ∀ w ∈ wsX00, goodWord w = true := List.all_eq_true.mp (by decide +kernel)
theorem zd_X1 : ∀ w ∈ wsX10, goodWord w = true := List.all_eq_true.mp (by decide +kernel)
theorem zd_X10 : ∀ w ∈ wsX100, goodWord w = true := List.all_eq_true.mp (by decide +kernel)
theorem zd_X11 : ∀ w ∈ wsX110, goodWord w = true := List.all_eq_true.mp (by decide +kernel)
theorem zd_X12 : ∀ w ∈ wsX120, goodWord w = true := List.all_eq_true.mp (by decide +kernel)
theorem zd_X13 : ∀ w ∈ wsX130, goodWord w = true := List.all_eq_true.mp (by decide +kernel)
theorem zd_X14 : ∀ w ∈ wsX140, goodWord w = true := List.all_eq_true.mp (by decide +kernel)
theorem zd_X15 : ∀ w ∈ wsX150, goodWord w = true := List.all_eq_true.mp (by decide +kernel)
theorem zd_X16 : ∀ w ∈ wsX160, goodWord w = true := List.all_eq_true.mp (by decide +kernel)
theorem zd_X2 : ∀ w ∈ wsX20, goodWord w = true := List.all_eq_true.mp (by decide +kernel)
theorem zd_X3 : ∀ w ∈ wsX30, goodWord w = true := List.all_eq_true.mp (by decide +kernel)
theorem zd_X4 : ∀ w ∈ wsX40, goodWord w = true := List.all_eq_true.mp (by decide +kernel)
theorem zd_X5 : ∀ w ∈ wsX50, goodWord w = true := List.all_eq_true.mp (by decide +kernel)
theorem zd_X6 : ∀ w ∈ wsX60, goodWord w = true := List.all_eq_true.mp (by decide +kernel)
theorem zd_X7 : ∀ w ∈ wsX70, goodWord w = true := List.all_eq_true.mp (by decide +kernel)
theorem zd_X8 : ∀ w ∈ wsX80, goodWord w = true := List.all_eq_true.mp (by decide +kernel)
theorem zd_X9 : ∀ w ∈ wsX90, goodWord w = true := List.all_eq_true.mp (by decide +kernel)
theorem zd_f : ∀ w ∈ zWf, goodWord w = true := (List.forall_mem_append.mpr ⟨zd_X0, (List.forall_mem_append.mpr ⟨zd_X1, (List.forall_mem_append.mpr ⟨zd_X10, (List.forall_mem_append.mpr ⟨zd_X11, (List.forall_mem_append.mpr ⟨zd_X12, (List.forall_mem_append.mpr ⟨zd_X13, (List.forall_mem_append.mpr ⟨zd_X14, (List.forall_mem_append.mpr ⟨zd_X15, (List.forall_mem_append.mpr ⟨zd_X16, (List.forall_mem_append.mpr ⟨zd_X2, (List.forall_mem_append.mpr ⟨zd_X3, (List.forall_mem_append.mpr ⟨zd_X4, (List.forall_mem_append.mpr ⟨zd_X5, (List.forall_mem_append.mpr ⟨zd_X6, (List.forall_mem_append.mpr ⟨zd_X7, (List.forall_mem_append.mpr ⟨zd_X8, zd_X9⟩)⟩)⟩)⟩)⟩)⟩)⟩)⟩)⟩)⟩)⟩)⟩)⟩)⟩)⟩)⟩)
theorem zW_good : ∀ w ∈ zW, goodWord w = true := (List.forall_mem_append.mpr ⟨zd_0, (List.forall_mem_append.mpr ⟨zd_1, (List.forall_mem_append.mpr ⟨zd_2, (List.forall_mem_append.mpr ⟨zd_3, (List.forall_mem_append.mpr ⟨zd_4, (List.forall_mem_append.mpr ⟨zd_5, (List.forall_mem_append.mpr ⟨zd_6, (List.forall_mem_append.mpr ⟨zd_7, (List.forall_mem_append.mpr ⟨zd_8, (List.forall_mem_append.mpr ⟨zd_9, (List.forall_mem_append.mpr ⟨zd_10, (List.forall_mem_append.mpr ⟨zd_11, (List.forall_mem_append.mpr ⟨zd_12, (List.forall_mem_append.mpr ⟨zd_13, (List.forall_mem_append.mpr ⟨zd_14, (List.forall_mem_append.mpr ⟨zd_15, (List.forall_mem_append.mpr ⟨zd_16, (List.forall_mem_append.mpr ⟨zd_17, (List.forall_mem_append.mpr ⟨zd_18, (List.forall_mem_append.mpr ⟨zd_19, (List.forall_mem_append.mpr ⟨zd_20, (List.forall_mem_append.mpr ⟨zd_21, (List.forall_mem_append.mpr ⟨zd_22, (List.forall_mem_append.mpr ⟨zd_23, (List.forall_mem_append.mpr ⟨zd_24, (List.forall_mem_append.mpr ⟨zd_25, (List.forall_mem_append.mpr ⟨zd_26, (List.forall_mem_append.mpr ⟨zd_27, (List.forall_mem_append.mpr ⟨zd_28, (List.forall_mem_append.mpr ⟨zd_29, (List.forall_mem_append.mpr ⟨zd_30, (List.forall_mem_append.mpr ⟨zd_x, zd_f⟩)⟩)⟩)⟩)⟩)⟩)⟩)⟩)⟩)⟩)⟩)⟩)⟩)⟩)⟩)⟩)⟩)⟩)⟩)⟩)⟩)⟩)⟩)⟩)⟩)⟩)⟩)⟩)⟩)⟩)⟩)⟩)
theorem zg_in {T : Cond} {ws : List Cond} (h : ∀ w ∈ ws, w ∈ zW) : GoodIn (T :: zW) ws := fun w hw => ⟨List.mem_cons_of_mem _ (h w hw), good_of_word (zW_good w (h w hw))⟩
theorem zgI {T cw : Cond} (h : cw ∈ zW) : GoodIn (T :: zW) (cw :: zW) := zg_in (fun w hw => (List.mem_cons.mp hw).elim (fun e => e ▸ h) (fun h => h))
theorem zgV {T cw : Cond} {own C : String} {idx : Nat} {y : MethodName} (h1 : Cond.methodLink own idx y ∈ zW) (h2 : Cond.instanceMethod y ∈ zW) (h3 : Cond.selects C y y ∈ zW) (h4 : Cond.initialized C ∈ zW) (h : cw ∈ zW) : GoodIn (T :: zW) (wsV own idx C y (cw :: zW)) := zg_in (fun w hw => by
  simp only [wsV, List.cons_append, List.nil_append, List.mem_cons] at hw
  rcases hw with rfl | rfl | rfl | rfl | rfl | hw
  · exact h1
  · exact h2
  · exact h3
  · exact h4
  · exact h
  · exact hw)
theorem zgS {T cw : Cond} {own : String} {idx : Nat} {y : MethodName} (h1 : Cond.methodLink own idx y ∈ zW) (h2 : Cond.static y ∈ zW) (h3 : Cond.initialized y.cls ∈ zW) (h : cw ∈ zW) : GoodIn (T :: zW) (va_wsS own idx y (cw :: zW)) := zg_in (fun w hw => by
  simp only [va_wsS, List.cons_append, List.nil_append, List.mem_cons] at hw
  rcases hw with rfl | rfl | rfl | rfl | hw
  · exact h1
  · exact h2
  · exact h3
  · exact h
  · exact hw)
theorem zR_ot : ∀ w ∈ zOwS "PolicyHouse" 371 "java/util/NoSuchElementException" "java/lang/RuntimeException" 13 ⟨#[0x2a, 0x2b, 0xb7, 0x00, 0x0d, 0xb1]⟩ ["java/lang/Exception"], vx_ot w = true := by decide +kernel
theorem zR_at {E : zEn} {K V : Nat → Nat} (hss : zSS E K V) {args : Array Value} {s : State} {T : Cond} (hts : ∀ w ∈ T :: zW, w.before args s = true) : ∀ (A : Nat → Prop) (H : Heap), E A s H → ∀ w ∈ zOwS "PolicyHouse" 371 "java/util/NoSuchElementException" "java/lang/RuntimeException" 13 ⟨#[0x2a, 0x2b, 0xb7, 0x00, 0x0d, 0xb1]⟩ ["java/lang/Exception"], w.before args s = true := by
  intro A H hE w hw
  cases hg : goodWord w with
  | true => exact hts w (List.mem_cons_of_mem _ (zc_x w (List.mem_filter.mpr ⟨hw, hg⟩)))
  | false =>
    have h1 := zR_ot w hw
    exact va_Nw.use (by simpa [vx_ot, hg] using h1) (zSS_ng hss _ _ _ hE w (List.mem_filter.mpr ⟨hw, by simp [hg]⟩))
theorem zR_all {k : Nat} : ∀ w ∈ Cond.classLink RX13 k "java/util/NoSuchElementException" :: Cond.initialized "java/util/NoSuchElementException" :: zOwS "PolicyHouse" 371 "java/util/NoSuchElementException" "java/lang/RuntimeException" 13 ⟨#[0x2a, 0x2b, 0xb7, 0x00, 0x0d, 0xb1]⟩ ["java/lang/Exception"], vx_ot w = true := fun w h => (List.mem_cons.mp h).elim (fun e => e ▸ rfl) (fun h => (List.mem_cons.mp h).elim (fun e => e ▸ rfl) (fun h => zR_ot w h))
theorem zNg_c : Cond.castable "java/util/NoSuchElementException" "java/util/NoSuchElementException" ∈ zNg := by decide +kernel
theorem zm_0 : (.methodLink RX11 1 objectInit : Cond) ∈ zW := zc_0 _ (List.mem_of_getElem? (i := 0) rfl)
theorem zm_1 : (.instanceMethod objectInit : Cond) ∈ zW := zc_0 _ (List.mem_of_getElem? (i := 1) rfl)
theorem zm_2 : (.code objectInit ⟨#[0xb1]⟩ 1 none : Cond) ∈ zW := zc_0 _ (List.mem_of_getElem? (i := 2) rfl)
theorem zm_3 : (.fieldLink RX11 7 "PolicyHouse$Texts" "in" "[I" : Cond) ∈ zW := zc_0 _ (List.mem_of_getElem? (i := 3) rfl)
theorem zm_4 : (.fieldLink RX11 13 "PolicyHouse$Texts" "to" "I" : Cond) ∈ zW := zc_0 _ (List.mem_of_getElem? (i := 4) rfl)
theorem zm_5 : (.fieldLink RX11 17 "PolicyHouse$Texts" "pos" "I" : Cond) ∈ zW := zc_0 _ (List.mem_of_getElem? (i := 5) rfl)
theorem zm_6 : (.fieldLink RX11 20 "PolicyHouse$Texts" "wrong" "I" : Cond) ∈ zW := zc_0 _ (List.mem_of_getElem? (i := 6) rfl)
theorem zm_7 : (.fieldLink RX11 23 "PolicyHouse$Texts" "stop" "I" : Cond) ∈ zW := zc_0 _ (List.mem_of_getElem? (i := 7) rfl)
theorem zm_8 : (.fieldLink RX11 26 "PolicyHouse$Texts" "value" "J" : Cond) ∈ zW := zc_0 _ (List.mem_of_getElem? (i := 8) rfl)
theorem zm_9 : (.arrayClass .int : Cond) ∈ zW := zc_0 _ (List.mem_of_getElem? (i := 9) rfl)
theorem zm_10 : (.fieldLink RX11 30 "PolicyHouse$Texts" "buf" "[I" : Cond) ∈ zW := zc_0 _ (List.mem_of_getElem? (i := 10) rfl)
theorem zm_11 : (.fieldLink RX11 33 "PolicyHouse$Texts" "size" "I" : Cond) ∈ zW := zc_0 _ (List.mem_of_getElem? (i := 11) rfl)
theorem zm_12 : (.fieldLink RX11 38 "PolicyHouse$Texts" "out" "[I" : Cond) ∈ zW := zc_0 _ (List.mem_of_getElem? (i := 12) rfl)
theorem zm_13 : (.fieldLink RX11 41 "PolicyHouse$Texts" "stored" "Z" : Cond) ∈ zW := zc_0 _ (List.mem_of_getElem? (i := 13) rfl)
theorem zm_14 : (.fieldLink RX11 45 "PolicyHouse$Texts" "packed" "[J" : Cond) ∈ zW := zc_0 _ (List.mem_of_getElem? (i := 14) rfl)
theorem zm_15 : (.fieldLink RX11 49 "PolicyHouse$Texts" "length" "I" : Cond) ∈ zW := zc_0 _ (List.mem_of_getElem? (i := 15) rfl)
theorem zm_16 : (.fieldLink RX11 52 "PolicyHouse$Texts" "limit" "I" : Cond) ∈ zW := zc_0 _ (List.mem_of_getElem? (i := 16) rfl)
theorem zm_17 : (.fieldLink RX11 55 "PolicyHouse$Texts" "over" "Z" : Cond) ∈ zW := zc_0 _ (List.mem_of_getElem? (i := 17) rfl)
theorem zm_18 : (.fieldLink RX11 58 "PolicyHouse$Texts" "heap" "LPolicyHouse$Heap;" : Cond) ∈ zW := zc_0 _ (List.mem_of_getElem? (i := 18) rfl)
theorem zm_19 : (.methodLink RX8 1 objectInit : Cond) ∈ zW := zc_0 _ (List.mem_of_getElem? (i := 19) rfl)
theorem zm_20 : (.fieldLink RX8 9 "PolicyHouse$Reader" "sort" "[I" : Cond) ∈ zW := zc_0 _ (List.mem_of_getElem? (i := 20) rfl)
theorem zm_21 : (.fieldLink RX8 13 "PolicyHouse$Reader" "place" "[I" : Cond) ∈ zW := zc_0 _ (List.mem_of_getElem? (i := 21) rfl)
theorem zm_22 : (.fieldLink RX8 16 "PolicyHouse$Reader" "gap" "[I" : Cond) ∈ zW := zc_0 _ (List.mem_of_getElem? (i := 22) rfl)
theorem zm_23 : (.fieldLink RX8 19 "PolicyHouse$Reader" "worth" "[I" : Cond) ∈ zW := zc_0 _ (List.mem_of_getElem? (i := 23) rfl)
theorem zm_24 : (.fieldLink RX8 22 "PolicyHouse$Reader" "bad" "I" : Cond) ∈ zW := zc_0 _ (List.mem_of_getElem? (i := 24) rfl)
theorem zm_25 : (.fieldLink RX8 26 "PolicyHouse$Reader" "tokens" "I" : Cond) ∈ zW := zc_0 _ (List.mem_of_getElem? (i := 25) rfl)
theorem zm_26 : (.fieldLink RX8 29 "PolicyHouse$Reader" "now" "I" : Cond) ∈ zW := zc_0 _ (List.mem_of_getElem? (i := 26) rfl)
theorem zm_27 : (.fieldLink RX8 32 "PolicyHouse$Reader" "deep" "I" : Cond) ∈ zW := zc_0 _ (List.mem_of_getElem? (i := 27) rfl)
theorem zm_28 : (.fieldLink RX8 35 "PolicyHouse$Reader" "wrong" "I" : Cond) ∈ zW := zc_0 _ (List.mem_of_getElem? (i := 28) rfl)
theorem zm_29 : (.fieldLink RX8 38 "PolicyHouse$Reader" "skipped" "I" : Cond) ∈ zW := zc_0 _ (List.mem_of_getElem? (i := 29) rfl)
theorem zm_30 : (.fieldLink RX8 41 "PolicyHouse$Reader" "stop" "I" : Cond) ∈ zW := zc_0 _ (List.mem_of_getElem? (i := 30) rfl)
theorem zm_31 : (.fieldLink RX8 44 "PolicyHouse$Reader" "tree" "LPolicyHouse$Tree;" : Cond) ∈ zW := zc_0 _ (List.mem_of_getElem? (i := 31) rfl)
theorem zm_32 : (.fieldLink RX8 48 "PolicyHouse$Reader" "heap" "LPolicyHouse$Heap;" : Cond) ∈ zW := zc_0 _ (List.mem_of_getElem? (i := 32) rfl)
theorem zm_33 : (.fieldLink RX8 52 "PolicyHouse$Reader" "texts" "LPolicyHouse$Texts;" : Cond) ∈ zW := zc_0 _ (List.mem_of_getElem? (i := 33) rfl)
theorem zm_34 : (.fieldLink RX8 56 "PolicyHouse$Reader" "names" "LPolicyHouse$Names;" : Cond) ∈ zW := zc_0 _ (List.mem_of_getElem? (i := 34) rfl)
theorem zm_35 : (.methodLink RX2 1 objectInit : Cond) ∈ zW := zc_0 _ (List.mem_of_getElem? (i := 35) rfl)
theorem zm_36 : (.fieldLink RX2 7 "PolicyHouse$Checker" "b" "LPolicyHouse$Bundle;" : Cond) ∈ zW := zc_0 _ (List.mem_of_getElem? (i := 36) rfl)
theorem zm_37 : (.fieldLink RX2 13 "PolicyHouse$Checker" "t" "LPolicyHouse$Tree;" : Cond) ∈ zW := zc_0 _ (List.mem_of_getElem? (i := 37) rfl)
theorem zm_38 : (.fieldLink RX2 17 "PolicyHouse$Checker" "module" "I" : Cond) ∈ zW := zc_0 _ (List.mem_of_getElem? (i := 38) rfl)
theorem zm_39 : (.fieldLink RX2 21 "PolicyHouse$Checker" "declared" "[I" : Cond) ∈ zW := zc_0 _ (List.mem_of_getElem? (i := 39) rfl)
theorem zm_40 : (.fieldLink RX2 25 "PolicyHouse$Checker" "scopeOf" "[I" : Cond) ∈ zW := zc_1 _ (List.mem_of_getElem? (i := 0) rfl)
theorem zm_41 : (.fieldLink RX2 28 "PolicyHouse$Checker" "placeOf" "[I" : Cond) ∈ zW := zc_1 _ (List.mem_of_getElem? (i := 1) rfl)
theorem zm_42 : (.fieldLink RX2 31 "PolicyHouse$Checker" "count" "I" : Cond) ∈ zW := zc_1 _ (List.mem_of_getElem? (i := 2) rfl)
theorem zm_43 : (.fieldLink RX2 34 "PolicyHouse$Checker" "around" "[I" : Cond) ∈ zW := zc_1 _ (List.mem_of_getElem? (i := 3) rfl)
theorem zm_44 : (.fieldLink RX2 37 "PolicyHouse$Checker" "scopes" "I" : Cond) ∈ zW := zc_1 _ (List.mem_of_getElem? (i := 4) rfl)
theorem zm_45 : (.fieldLink RX2 40 "PolicyHouse$Checker" "badKind" "I" : Cond) ∈ zW := zc_1 _ (List.mem_of_getElem? (i := 5) rfl)
theorem zm_46 : (.fieldLink RX2 43 "PolicyHouse$Checker" "badPlace" "I" : Cond) ∈ zW := zc_1 _ (List.mem_of_getElem? (i := 6) rfl)
theorem zm_47 : (.fieldLink RX2 46 "PolicyHouse$Checker" "bits" "[I" : Cond) ∈ zW := zc_1 _ (List.mem_of_getElem? (i := 7) rfl)
theorem zm_48 : (.fieldLink RX2 49 "PolicyHouse$Checker" "direct" "[I" : Cond) ∈ zW := zc_1 _ (List.mem_of_getElem? (i := 8) rfl)
theorem zm_49 : (.fieldLink RX2 52 "PolicyHouse$Checker" "all" "[I" : Cond) ∈ zW := zc_1 _ (List.mem_of_getElem? (i := 9) rfl)
theorem zm_50 : (.fieldLink RX2 55 "PolicyHouse$Checker" "heap" "LPolicyHouse$Heap;" : Cond) ∈ zW := zc_1 _ (List.mem_of_getElem? (i := 10) rfl)
theorem zm_51 : (.fieldLink RX2 59 "PolicyHouse$Checker" "names" "LPolicyHouse$Names;" : Cond) ∈ zW := zc_1 _ (List.mem_of_getElem? (i := 11) rfl)
theorem zm_52 : (.methodLink RX3 1 objectInit : Cond) ∈ zW := zc_1 _ (List.mem_of_getElem? (i := 12) rfl)
theorem zm_53 : (.fieldLink RX3 7 "PolicyHouse$Coder" "b" "LPolicyHouse$Bundle;" : Cond) ∈ zW := zc_1 _ (List.mem_of_getElem? (i := 13) rfl)
theorem zm_54 : (.fieldLink RX3 13 "PolicyHouse$Coder" "t" "LPolicyHouse$Tree;" : Cond) ∈ zW := zc_1 _ (List.mem_of_getElem? (i := 14) rfl)
theorem zm_55 : (.constant RX3 17 (80000) : Cond) ∈ zW := zc_1 _ (List.mem_of_getElem? (i := 15) rfl)
theorem zm_56 : (.fieldLink RX3 18 "PolicyHouse$Coder" "code" "[I" : Cond) ∈ zW := zc_1 _ (List.mem_of_getElem? (i := 16) rfl)
theorem zm_57 : (.fieldLink RX3 22 "PolicyHouse$Coder" "size" "I" : Cond) ∈ zW := zc_1 _ (List.mem_of_getElem? (i := 17) rfl)
theorem zm_58 : (.fieldLink RX3 26 "PolicyHouse$Coder" "registers" "I" : Cond) ∈ zW := zc_1 _ (List.mem_of_getElem? (i := 18) rfl)
theorem zm_59 : (.fieldLink RX3 29 "PolicyHouse$Coder" "owner" "I" : Cond) ∈ zW := zc_1 _ (List.mem_of_getElem? (i := 19) rfl)
theorem zm_60 : (.fieldLink RX3 32 "PolicyHouse$Coder" "known" "I" : Cond) ∈ zW := zc_1 _ (List.mem_of_getElem? (i := 20) rfl)
theorem zm_61 : (.fieldLink RX3 35 "PolicyHouse$Coder" "scope" "I" : Cond) ∈ zW := zc_1 _ (List.mem_of_getElem? (i := 21) rfl)
theorem zm_62 : (.fieldLink RX3 38 "PolicyHouse$Coder" "badKind" "I" : Cond) ∈ zW := zc_1 _ (List.mem_of_getElem? (i := 22) rfl)
theorem zm_63 : (.fieldLink RX3 41 "PolicyHouse$Coder" "badPlace" "I" : Cond) ∈ zW := zc_1 _ (List.mem_of_getElem? (i := 23) rfl)
theorem zm_64 : (.fieldLink RX3 44 "PolicyHouse$Coder" "ops" "[I" : Cond) ∈ zW := zc_1 _ (List.mem_of_getElem? (i := 24) rfl)
theorem zm_65 : (.fieldLink RX3 47 "PolicyHouse$Coder" "used" "I" : Cond) ∈ zW := zc_1 _ (List.mem_of_getElem? (i := 25) rfl)
theorem zm_66 : (.fieldLink RX3 50 "PolicyHouse$Coder" "heap" "LPolicyHouse$Heap;" : Cond) ∈ zW := zc_1 _ (List.mem_of_getElem? (i := 26) rfl)
theorem zm_67 : (.fieldLink RX3 54 "PolicyHouse$Coder" "names" "LPolicyHouse$Names;" : Cond) ∈ zW := zc_1 _ (List.mem_of_getElem? (i := 27) rfl)
theorem zm_68 : (.fieldLink RX3 58 "PolicyHouse$Coder" "checker" "LPolicyHouse$Checker;" : Cond) ∈ zW := zc_1 _ (List.mem_of_getElem? (i := 28) rfl)
theorem zm_69 : (.methodLink RX9 5 objectInit : Cond) ∈ zW := zc_1 _ (List.mem_of_getElem? (i := 29) rfl)
theorem zm_70 : (.fieldLink RX9 11 "PolicyHouse$Scopes" "bundle" "LPolicyHouse$Bundle;" : Cond) ∈ zW := zc_1 _ (List.mem_of_getElem? (i := 30) rfl)
theorem zm_71 : (.fieldLink RX9 15 "PolicyHouse$Scopes" "now" "I" : Cond) ∈ zW := zc_1 _ (List.mem_of_getElem? (i := 31) rfl)
theorem zm_72 : (.fieldLink RX9 19 "PolicyHouse$Scopes" "outNode" "I" : Cond) ∈ zW := zc_1 _ (List.mem_of_getElem? (i := 32) rfl)
theorem zm_73 : (.fieldLink RX9 22 "PolicyHouse$Scopes" "outValue" "I" : Cond) ∈ zW := zc_1 _ (List.mem_of_getElem? (i := 33) rfl)
theorem zm_74 : (.fieldLink RX9 25 "PolicyHouse$Scopes" "path" "[I" : Cond) ∈ zW := zc_1 _ (List.mem_of_getElem? (i := 34) rfl)
theorem zm_75 : (.fieldLink RX9 29 "PolicyHouse$Scopes" "need" "[I" : Cond) ∈ zW := zc_1 _ (List.mem_of_getElem? (i := 35) rfl)
theorem zm_76 : (.fieldLink RX9 32 "PolicyHouse$Scopes" "fuel" "I" : Cond) ∈ zW := zc_1 _ (List.mem_of_getElem? (i := 36) rfl)
theorem zm_77 : (.fieldLink RX9 35 "PolicyHouse$Scopes" "free" "Z" : Cond) ∈ zW := zc_1 _ (List.mem_of_getElem? (i := 37) rfl)
theorem zm_78 : (.fieldLink RX9 39 "PolicyHouse$Scopes" "strict" "Z" : Cond) ∈ zW := zc_1 _ (List.mem_of_getElem? (i := 38) rfl)
theorem zm_79 : (.fieldLink RX9 42 "PolicyHouse$Scopes" "limit" "Z" : Cond) ∈ zW := zc_1 _ (List.mem_of_getElem? (i := 39) rfl)
theorem zm_80 : (.fieldLink RX9 45 "PolicyHouse$Scopes" "notes" "I" : Cond) ∈ zW := zc_2 _ (List.mem_of_getElem? (i := 0) rfl)
theorem zm_81 : (.fieldLink RX9 48 "PolicyHouse$Scopes" "leastRule" "I" : Cond) ∈ zW := zc_2 _ (List.mem_of_getElem? (i := 1) rfl)
theorem zm_82 : (.fieldLink RX9 51 "PolicyHouse$Scopes" "leastBuiltin" "I" : Cond) ∈ zW := zc_2 _ (List.mem_of_getElem? (i := 2) rfl)
theorem zm_83 : (.fieldLink RX9 54 "PolicyHouse$Scopes" "tries" "[I" : Cond) ∈ zW := zc_2 _ (List.mem_of_getElem? (i := 3) rfl)
theorem zm_84 : (.fieldLink RX9 57 "PolicyHouse$Scopes" "heap" "LPolicyHouse$Heap;" : Cond) ∈ zW := zc_2 _ (List.mem_of_getElem? (i := 4) rfl)
theorem zm_85 : (.fieldLink RX9 61 "PolicyHouse$Scopes" "names" "LPolicyHouse$Names;" : Cond) ∈ zW := zc_2 _ (List.mem_of_getElem? (i := 5) rfl)
theorem zm_86 : (.methodLink RX10 1 objectInit : Cond) ∈ zW := zc_2 _ (List.mem_of_getElem? (i := 6) rfl)
theorem zm_87 : (.fieldLink RX10 7 "PolicyHouse$Strings" "buf" "[I" : Cond) ∈ zW := zc_2 _ (List.mem_of_getElem? (i := 7) rfl)
theorem zm_88 : (.fieldLink RX10 13 "PolicyHouse$Strings" "size" "I" : Cond) ∈ zW := zc_2 _ (List.mem_of_getElem? (i := 8) rfl)
theorem zm_89 : (.fieldLink RX10 17 "PolicyHouse$Strings" "over" "Z" : Cond) ∈ zW := zc_2 _ (List.mem_of_getElem? (i := 9) rfl)
theorem zm_90 : (.fieldLink RX10 21 "PolicyHouse$Strings" "code" "[I" : Cond) ∈ zW := zc_2 _ (List.mem_of_getElem? (i := 10) rfl)
theorem zm_91 : (.fieldLink RX10 24 "PolicyHouse$Strings" "jump" "[I" : Cond) ∈ zW := zc_2 _ (List.mem_of_getElem? (i := 11) rfl)
theorem zm_92 : (.fieldLink RX10 27 "PolicyHouse$Strings" "mark" "[I" : Cond) ∈ zW := zc_2 _ (List.mem_of_getElem? (i := 12) rfl)
theorem zm_93 : (.fieldLink RX10 30 "PolicyHouse$Strings" "here" "[I" : Cond) ∈ zW := zc_2 _ (List.mem_of_getElem? (i := 13) rfl)
theorem zm_94 : (.fieldLink RX10 33 "PolicyHouse$Strings" "there" "[I" : Cond) ∈ zW := zc_2 _ (List.mem_of_getElem? (i := 14) rfl)
theorem zm_95 : (.fieldLink RX10 36 "PolicyHouse$Strings" "stack" "[I" : Cond) ∈ zW := zc_2 _ (List.mem_of_getElem? (i := 15) rfl)
theorem zm_96 : (.fieldLink RX10 39 "PolicyHouse$Strings" "length" "I" : Cond) ∈ zW := zc_2 _ (List.mem_of_getElem? (i := 16) rfl)
theorem zm_97 : (.fieldLink RX10 42 "PolicyHouse$Strings" "sets" "[I" : Cond) ∈ zW := zc_2 _ (List.mem_of_getElem? (i := 17) rfl)
theorem zm_98 : (.fieldLink RX10 45 "PolicyHouse$Strings" "count" "I" : Cond) ∈ zW := zc_2 _ (List.mem_of_getElem? (i := 18) rfl)
theorem zm_99 : (.fieldLink RX10 48 "PolicyHouse$Strings" "pos" "I" : Cond) ∈ zW := zc_2 _ (List.mem_of_getElem? (i := 19) rfl)
theorem zm_100 : (.fieldLink RX10 51 "PolicyHouse$Strings" "end" "I" : Cond) ∈ zW := zc_2 _ (List.mem_of_getElem? (i := 20) rfl)
theorem zm_101 : (.fieldLink RX10 54 "PolicyHouse$Strings" "bad" "Z" : Cond) ∈ zW := zc_2 _ (List.mem_of_getElem? (i := 21) rfl)
theorem zm_102 : (.fieldLink RX10 57 "PolicyHouse$Strings" "threads" "I" : Cond) ∈ zW := zc_2 _ (List.mem_of_getElem? (i := 22) rfl)
theorem zm_103 : (.fieldLink RX10 60 "PolicyHouse$Strings" "heap" "LPolicyHouse$Heap;" : Cond) ∈ zW := zc_2 _ (List.mem_of_getElem? (i := 23) rfl)
theorem zm_104 : (.fieldLink RX10 64 "PolicyHouse$Strings" "texts" "LPolicyHouse$Texts;" : Cond) ∈ zW := zc_2 _ (List.mem_of_getElem? (i := 24) rfl)
theorem zm_105 : (.fieldLink RX10 68 "PolicyHouse$Strings" "names" "LPolicyHouse$Names;" : Cond) ∈ zW := zc_2 _ (List.mem_of_getElem? (i := 25) rfl)
theorem zm_106 : (.methodLink RX5 1 objectInit : Cond) ∈ zW := zc_2 _ (List.mem_of_getElem? (i := 26) rfl)
theorem zm_107 : (.fieldLink RX5 7 "PolicyHouse$Machine" "regs" "[I" : Cond) ∈ zW := zc_2 _ (List.mem_of_getElem? (i := 27) rfl)
theorem zm_108 : (.constant RX5 13 (58500) : Cond) ∈ zW := zc_2 _ (List.mem_of_getElem? (i := 28) rfl)
theorem zm_109 : (.fieldLink RX5 14 "PolicyHouse$Machine" "cp" "[I" : Cond) ∈ zW := zc_2 _ (List.mem_of_getElem? (i := 29) rfl)
theorem zm_110 : (.fieldLink RX5 17 "PolicyHouse$Machine" "choices" "I" : Cond) ∈ zW := zc_2 _ (List.mem_of_getElem? (i := 30) rfl)
theorem zm_111 : (.fieldLink RX5 21 "PolicyHouse$Machine" "pc" "I" : Cond) ∈ zW := zc_2 _ (List.mem_of_getElem? (i := 31) rfl)
theorem zm_112 : (.fieldLink RX5 24 "PolicyHouse$Machine" "fp" "I" : Cond) ∈ zW := zc_2 _ (List.mem_of_getElem? (i := 32) rfl)
theorem zm_113 : (.fieldLink RX5 27 "PolicyHouse$Machine" "top" "I" : Cond) ∈ zW := zc_2 _ (List.mem_of_getElem? (i := 33) rfl)
theorem zm_114 : (.fieldLink RX5 30 "PolicyHouse$Machine" "failing" "Z" : Cond) ∈ zW := zc_2 _ (List.mem_of_getElem? (i := 34) rfl)
theorem zm_115 : (.fieldLink RX5 34 "PolicyHouse$Machine" "stopped" "Z" : Cond) ∈ zW := zc_2 _ (List.mem_of_getElem? (i := 35) rfl)
theorem zm_116 : (.fieldLink RX5 37 "PolicyHouse$Machine" "pending" "Z" : Cond) ∈ zW := zc_2 _ (List.mem_of_getElem? (i := 36) rfl)
theorem zm_117 : (.fieldLink RX5 40 "PolicyHouse$Machine" "bundle" "LPolicyHouse$Bundle;" : Cond) ∈ zW := zc_2 _ (List.mem_of_getElem? (i := 37) rfl)
theorem zm_118 : (.fieldLink RX5 44 "PolicyHouse$Machine" "own" "[I" : Cond) ∈ zW := zc_2 _ (List.mem_of_getElem? (i := 38) rfl)
theorem zm_119 : (.fieldLink RX5 47 "PolicyHouse$Machine" "c" "[I" : Cond) ∈ zW := zc_2 _ (List.mem_of_getElem? (i := 39) rfl)
theorem zm_120 : (.fieldLink RX5 50 "PolicyHouse$Machine" "p" "I" : Cond) ∈ zW := zc_3 _ (List.mem_of_getElem? (i := 0) rfl)
theorem zm_121 : (.fieldLink RX5 53 "PolicyHouse$Machine" "scope" "I" : Cond) ∈ zW := zc_3 _ (List.mem_of_getElem? (i := 1) rfl)
theorem zm_122 : (.fieldLink RX5 56 "PolicyHouse$Machine" "results" "I" : Cond) ∈ zW := zc_3 _ (List.mem_of_getElem? (i := 2) rfl)
theorem zm_123 : (.fieldLink RX5 59 "PolicyHouse$Machine" "fixed" "[I" : Cond) ∈ zW := zc_3 _ (List.mem_of_getElem? (i := 3) rfl)
theorem zm_124 : (.fieldLink RX5 62 "PolicyHouse$Machine" "heap" "LPolicyHouse$Heap;" : Cond) ∈ zW := zc_3 _ (List.mem_of_getElem? (i := 4) rfl)
theorem zm_125 : (.fieldLink RX5 66 "PolicyHouse$Machine" "scopes" "LPolicyHouse$Scopes;" : Cond) ∈ zW := zc_3 _ (List.mem_of_getElem? (i := 5) rfl)
theorem zm_126 : (.fieldLink RX5 70 "PolicyHouse$Machine" "builtins" "LPolicyHouse$Builtins;" : Cond) ∈ zW := zc_3 _ (List.mem_of_getElem? (i := 6) rfl)
theorem zm_127 : (.methodLink RX0 3 objectInit : Cond) ∈ zW := zc_3 _ (List.mem_of_getElem? (i := 7) rfl)
theorem zm_128 : (.fieldLink RX0 9 "PolicyHouse$Builtins" "arg" "[I" : Cond) ∈ zW := zc_3 _ (List.mem_of_getElem? (i := 8) rfl)
theorem zm_129 : (.fieldLink RX0 15 "PolicyHouse$Builtins" "spent" "I" : Cond) ∈ zW := zc_3 _ (List.mem_of_getElem? (i := 9) rfl)
theorem zm_130 : (.fieldLink RX0 19 "PolicyHouse$Builtins" "path" "[I" : Cond) ∈ zW := zc_3 _ (List.mem_of_getElem? (i := 10) rfl)
theorem zm_131 : (.fieldLink RX0 22 "PolicyHouse$Builtins" "from" "[I" : Cond) ∈ zW := zc_3 _ (List.mem_of_getElem? (i := 11) rfl)
theorem zm_132 : (.fieldLink RX0 25 "PolicyHouse$Builtins" "member" "[I" : Cond) ∈ zW := zc_3 _ (List.mem_of_getElem? (i := 12) rfl)
theorem zm_133 : (.fieldLink RX0 28 "PolicyHouse$Builtins" "heavy" "I" : Cond) ∈ zW := zc_3 _ (List.mem_of_getElem? (i := 13) rfl)
theorem zm_134 : (.fieldLink RX0 31 "PolicyHouse$Builtins" "heap" "LPolicyHouse$Heap;" : Cond) ∈ zW := zc_3 _ (List.mem_of_getElem? (i := 14) rfl)
theorem zm_135 : (.fieldLink RX0 35 "PolicyHouse$Builtins" "texts" "LPolicyHouse$Texts;" : Cond) ∈ zW := zc_3 _ (List.mem_of_getElem? (i := 15) rfl)
theorem zm_136 : (.fieldLink RX0 39 "PolicyHouse$Builtins" "strings" "LPolicyHouse$Strings;" : Cond) ∈ zW := zc_3 _ (List.mem_of_getElem? (i := 16) rfl)
theorem zm_137 : (.code yJ0_charAt_5068e cJ0_charAt_5068e 2 (some .char) : Cond) ∈ zW := zc_3 _ (List.mem_of_getElem? (i := 17) rfl)
theorem zm_138 : (.methodLink RX0 45 yJ0_charAt_5068e : Cond) ∈ zW := zc_3 _ (List.mem_of_getElem? (i := 18) rfl)
theorem zm_139 : (.instanceMethod yJ0_charAt_5068e : Cond) ∈ zW := zc_3 _ (List.mem_of_getElem? (i := 19) rfl)
theorem zm_140 : (.selects RJ0 yJ0_charAt_5068e yJ0_charAt_5068e : Cond) ∈ zW := zc_3 _ (List.mem_of_getElem? (i := 20) rfl)
theorem zm_141 : (.initialized RJ0 : Cond) ∈ zW := zc_3 _ (List.mem_of_getElem? (i := 21) rfl)
theorem zm_142 : (.code yJ0_isLatin1_aae02 cJ0_isLatin1_aae02 1 (some .boolean) : Cond) ∈ zW := zc_3 _ (List.mem_of_getElem? (i := 22) rfl)
theorem zm_143 : (.methodLink RJ0 492 yJ0_isLatin1_aae02 : Cond) ∈ zW := zc_3 _ (List.mem_of_getElem? (i := 23) rfl)
theorem zm_144 : (.instanceMethod yJ0_isLatin1_aae02 : Cond) ∈ zW := zc_3 _ (List.mem_of_getElem? (i := 24) rfl)
theorem zm_145 : (.selects RJ0 yJ0_isLatin1_aae02 yJ0_isLatin1_aae02 : Cond) ∈ zW := zc_3 _ (List.mem_of_getElem? (i := 25) rfl)
theorem zm_146 : (.fieldLink RJ0 38 "java/lang/String" "COMPACT_STRINGS" "Z" : Cond) ∈ zW := zc_3 _ (List.mem_of_getElem? (i := 26) rfl)
theorem zm_147 : (.fieldLink RJ0 15 "java/lang/String" "coder" "B" : Cond) ∈ zW := zc_3 _ (List.mem_of_getElem? (i := 27) rfl)
theorem zm_148 : (.fieldLink RJ0 9 "java/lang/String" "value" "[B" : Cond) ∈ zW := zc_3 _ (List.mem_of_getElem? (i := 28) rfl)
theorem zm_149 : (.code yJ1_charAt_3b067 cJ1_charAt_3b067 2 (some .char) : Cond) ∈ zW := zc_3 _ (List.mem_of_getElem? (i := 29) rfl)
theorem zm_150 : (.methodLink RJ0 495 yJ1_charAt_3b067 : Cond) ∈ zW := zc_3 _ (List.mem_of_getElem? (i := 30) rfl)
theorem zm_151 : (.static yJ1_charAt_3b067 : Cond) ∈ zW := zc_3 _ (List.mem_of_getElem? (i := 31) rfl)
theorem zm_152 : (.initialized RJ1 : Cond) ∈ zW := zc_3 _ (List.mem_of_getElem? (i := 32) rfl)
theorem zm_153 : (.code yJ0_checkIndex_df160 cJ0_checkIndex_df160 2 none : Cond) ∈ zW := zc_3 _ (List.mem_of_getElem? (i := 33) rfl)
theorem zm_154 : (.methodLink RJ1 9 yJ0_checkIndex_df160 : Cond) ∈ zW := zc_3 _ (List.mem_of_getElem? (i := 34) rfl)
theorem zm_155 : (.static yJ0_checkIndex_df160 : Cond) ∈ zW := zc_3 _ (List.mem_of_getElem? (i := 35) rfl)
theorem zm_156 : (.fieldLink RJ0 1053 "jdk/internal/util/Preconditions" "SIOOBE_FORMATTER" "Ljava/util/function/BiFunction;" : Cond) ∈ zW := zc_3 _ (List.mem_of_getElem? (i := 36) rfl)
theorem zm_157 : (.code yJ3_checkIndex_8e157 cJ3_checkIndex_8e157 3 (some .int) : Cond) ∈ zW := zc_3 _ (List.mem_of_getElem? (i := 37) rfl)
theorem zm_158 : (.methodLink RJ0 1059 yJ3_checkIndex_8e157 : Cond) ∈ zW := zc_3 _ (List.mem_of_getElem? (i := 38) rfl)
theorem zm_159 : (.static yJ3_checkIndex_8e157 : Cond) ∈ zW := zc_3 _ (List.mem_of_getElem? (i := 39) rfl)
theorem zm_160 : (.initialized RJ3 : Cond) ∈ zW := zc_4 _ (List.mem_of_getElem? (i := 0) rfl)
theorem zm_161 : (.code yX6_sym cX6_sym 8 (some .int) : Cond) ∈ zW := zc_4 _ (List.mem_of_getElem? (i := 1) rfl)
theorem zm_162 : (.methodLink RX0 51 yX6_sym : Cond) ∈ zW := zc_4 _ (List.mem_of_getElem? (i := 2) rfl)
theorem zm_163 : (.instanceMethod yX6_sym : Cond) ∈ zW := zc_4 _ (List.mem_of_getElem? (i := 3) rfl)
theorem zm_164 : (.selects RX6 yX6_sym yX6_sym : Cond) ∈ zW := zc_4 _ (List.mem_of_getElem? (i := 4) rfl)
theorem zm_165 : (.initialized RX6 : Cond) ∈ zW := zc_4 _ (List.mem_of_getElem? (i := 5) rfl)
theorem zm_166 : (.fieldLink RX6 67 "PolicyHouse$Names" "blank" "I" : Cond) ∈ zW := zc_4 _ (List.mem_of_getElem? (i := 6) rfl)
theorem zm_167 : (.fieldLink RX6 9 "PolicyHouse$Names" "table" "[I" : Cond) ∈ zW := zc_4 _ (List.mem_of_getElem? (i := 7) rfl)
theorem zm_168 : (.code yX6_same cX6_same 6 (some .boolean) : Cond) ∈ zW := zc_4 _ (List.mem_of_getElem? (i := 8) rfl)
theorem zm_169 : (.methodLink RX6 106 yX6_same : Cond) ∈ zW := zc_4 _ (List.mem_of_getElem? (i := 9) rfl)
theorem zm_170 : (.instanceMethod yX6_same : Cond) ∈ zW := zc_4 _ (List.mem_of_getElem? (i := 10) rfl)
theorem zm_171 : (.selects RX6 yX6_same yX6_same : Cond) ∈ zW := zc_4 _ (List.mem_of_getElem? (i := 11) rfl)
theorem zm_172 : (.fieldLink RX6 44 "PolicyHouse$Names" "heap" "LPolicyHouse$Heap;" : Cond) ∈ zW := zc_4 _ (List.mem_of_getElem? (i := 12) rfl)
theorem zm_173 : (.fieldLink RX6 98 "PolicyHouse$Heap" "cell" "[I" : Cond) ∈ zW := zc_4 _ (List.mem_of_getElem? (i := 13) rfl)
theorem zm_174 : (.code yX4_keepString cX4_keepString 5 (some .int) : Cond) ∈ zW := zc_4 _ (List.mem_of_getElem? (i := 14) rfl)
theorem zm_175 : (.methodLink RX6 103 yX4_keepString : Cond) ∈ zW := zc_4 _ (List.mem_of_getElem? (i := 15) rfl)
theorem zm_176 : (.instanceMethod yX4_keepString : Cond) ∈ zW := zc_4 _ (List.mem_of_getElem? (i := 16) rfl)
theorem zm_177 : (.selects RX4 yX4_keepString yX4_keepString : Cond) ∈ zW := zc_4 _ (List.mem_of_getElem? (i := 17) rfl)
theorem zm_178 : (.initialized RX4 : Cond) ∈ zW := zc_4 _ (List.mem_of_getElem? (i := 18) rfl)
theorem zm_179 : (.fieldLink RX4 25 "PolicyHouse$Heap" "kept" "I" : Cond) ∈ zW := zc_4 _ (List.mem_of_getElem? (i := 19) rfl)
theorem zm_180 : (.constant RX4 82 (60000) : Cond) ∈ zW := zc_4 _ (List.mem_of_getElem? (i := 20) rfl)
theorem zm_181 : (.fieldLink RX4 10 "PolicyHouse$Heap" "cell" "[I" : Cond) ∈ zW := zc_4 _ (List.mem_of_getElem? (i := 21) rfl)
theorem zm_182 : (.methodLink RX4 76 arraycopyName : Cond) ∈ zW := zc_4 _ (List.mem_of_getElem? (i := 22) rfl)
theorem zm_183 : (.native arraycopyName : Cond) ∈ zW := zc_4 _ (List.mem_of_getElem? (i := 23) rfl)
theorem zm_184 : (.static arraycopyName : Cond) ∈ zW := zc_4 _ (List.mem_of_getElem? (i := 24) rfl)
theorem zm_185 : (.initialized "java/lang/System" : Cond) ∈ zW := zc_4 _ (List.mem_of_getElem? (i := 25) rfl)
theorem zm_186 : (.initialized RX13 : Cond) ∈ zW := zc_4 _ (List.mem_of_getElem? (i := 26) rfl)
theorem zm_187 : (.instantiable RX13 23 : Cond) ∈ zW := zc_4 _ (List.mem_of_getElem? (i := 27) rfl)
theorem zm_188 : (.classLink RL 8 RX13 : Cond) ∈ zW := zc_4 _ (List.mem_of_getElem? (i := 28) rfl)
theorem zm_189 : (.methodLink RX13 1 objectInit : Cond) ∈ zW := zc_4 _ (List.mem_of_getElem? (i := 29) rfl)
theorem zm_190 : (.instantiable RX4 8 : Cond) ∈ zW := zc_4 _ (List.mem_of_getElem? (i := 30) rfl)
theorem zm_191 : (.classLink RX13 7 RX4 : Cond) ∈ zW := zc_4 _ (List.mem_of_getElem? (i := 31) rfl)
theorem zm_192 : (.methodLink RX4 1 objectInit : Cond) ∈ zW := zc_4 _ (List.mem_of_getElem? (i := 32) rfl)
theorem zm_193 : (.constant RX4 9 (886000) : Cond) ∈ zW := zc_4 _ (List.mem_of_getElem? (i := 33) rfl)
theorem zm_194 : (.constant RX4 14 (90000) : Cond) ∈ zW := zc_4 _ (List.mem_of_getElem? (i := 34) rfl)
theorem zm_195 : (.fieldLink RX4 15 "PolicyHouse$Heap" "acc" "[I" : Cond) ∈ zW := zc_4 _ (List.mem_of_getElem? (i := 35) rfl)
theorem zm_196 : (.fieldLink RX4 18 "PolicyHouse$Heap" "spare" "[I" : Cond) ∈ zW := zc_4 _ (List.mem_of_getElem? (i := 36) rfl)
theorem zm_197 : (.fieldLink RX4 21 "PolicyHouse$Heap" "used" "I" : Cond) ∈ zW := zc_4 _ (List.mem_of_getElem? (i := 37) rfl)
theorem zm_198 : (.constant RX4 28 (258000) : Cond) ∈ zW := zc_4 _ (List.mem_of_getElem? (i := 38) rfl)
theorem zm_199 : (.fieldLink RX4 29 "PolicyHouse$Heap" "top" "I" : Cond) ∈ zW := zc_4 _ (List.mem_of_getElem? (i := 39) rfl)
theorem zm_200 : (.constant RX4 32 (820000) : Cond) ∈ zW := zc_5 _ (List.mem_of_getElem? (i := 0) rfl)
theorem zm_201 : (.fieldLink RX4 33 "PolicyHouse$Heap" "end" "I" : Cond) ∈ zW := zc_5 _ (List.mem_of_getElem? (i := 1) rfl)
theorem zm_202 : (.fieldLink RX4 36 "PolicyHouse$Heap" "full" "Z" : Cond) ∈ zW := zc_5 _ (List.mem_of_getElem? (i := 2) rfl)
theorem zm_203 : (.code yX4_empty cX4_empty 1 (some .int) : Cond) ∈ zW := zc_5 _ (List.mem_of_getElem? (i := 3) rfl)
theorem zm_204 : (.methodLink RX4 40 yX4_empty : Cond) ∈ zW := zc_5 _ (List.mem_of_getElem? (i := 4) rfl)
theorem zm_205 : (.static yX4_empty : Cond) ∈ zW := zc_5 _ (List.mem_of_getElem? (i := 5) rfl)
theorem zm_206 : (.code yX4_init cX4_init 2 none : Cond) ∈ zW := zc_5 _ (List.mem_of_getElem? (i := 6) rfl)
theorem zm_207 : (.methodLink RX13 9 yX4_init : Cond) ∈ zW := zc_5 _ (List.mem_of_getElem? (i := 7) rfl)
theorem zm_208 : (.instanceMethod yX4_init : Cond) ∈ zW := zc_5 _ (List.mem_of_getElem? (i := 8) rfl)
theorem zm_209 : (.fieldLink RX13 10 "PolicyHouse" "heap" "LPolicyHouse$Heap;" : Cond) ∈ zW := zc_5 _ (List.mem_of_getElem? (i := 9) rfl)
theorem zm_210 : (.initialized RX11 : Cond) ∈ zW := zc_5 _ (List.mem_of_getElem? (i := 10) rfl)
theorem zm_211 : (.instantiable RX11 15 : Cond) ∈ zW := zc_5 _ (List.mem_of_getElem? (i := 11) rfl)
theorem zm_212 : (.classLink RX13 16 RX11 : Cond) ∈ zW := zc_5 _ (List.mem_of_getElem? (i := 12) rfl)
theorem zm_213 : (.code yX11_init cX11_init 2 none : Cond) ∈ zW := zc_5 _ (List.mem_of_getElem? (i := 13) rfl)
theorem zm_214 : (.methodLink RX13 18 yX11_init : Cond) ∈ zW := zc_5 _ (List.mem_of_getElem? (i := 14) rfl)
theorem zm_215 : (.instanceMethod yX11_init : Cond) ∈ zW := zc_5 _ (List.mem_of_getElem? (i := 15) rfl)
theorem zm_216 : (.fieldLink RX13 21 "PolicyHouse" "texts" "LPolicyHouse$Texts;" : Cond) ∈ zW := zc_5 _ (List.mem_of_getElem? (i := 16) rfl)
theorem zm_217 : (.instantiable RX6 16 : Cond) ∈ zW := zc_5 _ (List.mem_of_getElem? (i := 17) rfl)
theorem zm_218 : (.classLink RX13 25 RX6 : Cond) ∈ zW := zc_5 _ (List.mem_of_getElem? (i := 18) rfl)
theorem zm_219 : (.code yX6_init cX6_init 6 none : Cond) ∈ zW := zc_5 _ (List.mem_of_getElem? (i := 19) rfl)
theorem zm_220 : (.methodLink RX13 27 yX6_init : Cond) ∈ zW := zc_5 _ (List.mem_of_getElem? (i := 20) rfl)
theorem zm_221 : (.instanceMethod yX6_init : Cond) ∈ zW := zc_5 _ (List.mem_of_getElem? (i := 21) rfl)
theorem zm_222 : (.methodLink RX6 1 objectInit : Cond) ∈ zW := zc_5 _ (List.mem_of_getElem? (i := 22) rfl)
theorem zm_223 : (.fieldLink RX6 13 "PolicyHouse$Names" "parent" "[I" : Cond) ∈ zW := zc_5 _ (List.mem_of_getElem? (i := 23) rfl)
theorem zm_224 : (.fieldLink RX6 16 "PolicyHouse$Names" "name" "[I" : Cond) ∈ zW := zc_5 _ (List.mem_of_getElem? (i := 24) rfl)
theorem zm_225 : (.fieldLink RX6 19 "PolicyHouse$Names" "child" "[I" : Cond) ∈ zW := zc_5 _ (List.mem_of_getElem? (i := 25) rfl)
theorem zm_226 : (.fieldLink RX6 22 "PolicyHouse$Names" "sibling" "[I" : Cond) ∈ zW := zc_5 _ (List.mem_of_getElem? (i := 26) rfl)
theorem zm_227 : (.fieldLink RX6 25 "PolicyHouse$Names" "nodes" "I" : Cond) ∈ zW := zc_5 _ (List.mem_of_getElem? (i := 27) rfl)
theorem zm_228 : (.fieldLink RX6 29 "PolicyHouse$Names" "words" "[I" : Cond) ∈ zW := zc_5 _ (List.mem_of_getElem? (i := 28) rfl)
theorem zm_229 : (.fieldLink RX6 32 "PolicyHouse$Names" "builtin" "[I" : Cond) ∈ zW := zc_5 _ (List.mem_of_getElem? (i := 29) rfl)
theorem zm_230 : (.fieldLink RX6 35 "PolicyHouse$Names" "kinds" "[I" : Cond) ∈ zW := zc_5 _ (List.mem_of_getElem? (i := 30) rfl)
theorem zm_231 : (.fieldLink RX6 38 "PolicyHouse$Names" "arity" "[I" : Cond) ∈ zW := zc_5 _ (List.mem_of_getElem? (i := 31) rfl)
theorem zm_232 : (.fieldLink RX6 41 "PolicyHouse$Names" "letters" "[I" : Cond) ∈ zW := zc_5 _ (List.mem_of_getElem? (i := 32) rfl)
theorem zm_233 : (.fieldLink RX6 58 "PolicyHouse$Names" "input" "I" : Cond) ∈ zW := zc_5 _ (List.mem_of_getElem? (i := 33) rfl)
theorem zm_234 : (.fieldLink RX6 61 "PolicyHouse$Names" "data" "I" : Cond) ∈ zW := zc_5 _ (List.mem_of_getElem? (i := 34) rfl)
theorem zm_235 : (.fieldLink RX6 64 "PolicyHouse$Names" "set" "I" : Cond) ∈ zW := zc_5 _ (List.mem_of_getElem? (i := 35) rfl)
theorem zm_236 : (.code yX6_stopOf cX6_stopOf 3 (some .int) : Cond) ∈ zW := zc_5 _ (List.mem_of_getElem? (i := 36) rfl)
theorem zm_237 : (.methodLink RX6 50 yX6_stopOf : Cond) ∈ zW := zc_5 _ (List.mem_of_getElem? (i := 37) rfl)
theorem zm_238 : (.static yX6_stopOf : Cond) ∈ zW := zc_5 _ (List.mem_of_getElem? (i := 38) rfl)
theorem zm_239 : (.code yJ0_length_8abf5 cJ0_length_8abf5 1 (some .int) : Cond) ∈ zW := zc_5 _ (List.mem_of_getElem? (i := 39) rfl)
theorem zm_240 : (.methodLink RX6 75 yJ0_length_8abf5 : Cond) ∈ zW := zc_6 _ (List.mem_of_getElem? (i := 0) rfl)
theorem zm_241 : (.instanceMethod yJ0_length_8abf5 : Cond) ∈ zW := zc_6 _ (List.mem_of_getElem? (i := 1) rfl)
theorem zm_242 : (.selects RJ0 yJ0_length_8abf5 yJ0_length_8abf5 : Cond) ∈ zW := zc_6 _ (List.mem_of_getElem? (i := 2) rfl)
theorem zm_243 : (.code yJ0_coder_7d493 cJ0_coder_7d493 1 (some .byte) : Cond) ∈ zW := zc_6 _ (List.mem_of_getElem? (i := 3) rfl)
theorem zm_244 : (.methodLink RJ0 335 yJ0_coder_7d493 : Cond) ∈ zW := zc_6 _ (List.mem_of_getElem? (i := 4) rfl)
theorem zm_245 : (.instanceMethod yJ0_coder_7d493 : Cond) ∈ zW := zc_6 _ (List.mem_of_getElem? (i := 5) rfl)
theorem zm_246 : (.selects RJ0 yJ0_coder_7d493 yJ0_coder_7d493 : Cond) ∈ zW := zc_6 _ (List.mem_of_getElem? (i := 6) rfl)
theorem zm_247 : (.methodLink RX6 81 yJ0_charAt_5068e : Cond) ∈ zW := zc_6 _ (List.mem_of_getElem? (i := 7) rfl)
theorem zm_248 : (.code yX6_nodeOf cX6_nodeOf 7 (some .int) : Cond) ∈ zW := zc_6 _ (List.mem_of_getElem? (i := 8) rfl)
theorem zm_249 : (.methodLink RX6 72 yX6_nodeOf : Cond) ∈ zW := zc_6 _ (List.mem_of_getElem? (i := 9) rfl)
theorem zm_250 : (.instanceMethod yX6_nodeOf : Cond) ∈ zW := zc_6 _ (List.mem_of_getElem? (i := 10) rfl)
theorem zm_251 : (.selects RX6 yX6_nodeOf yX6_nodeOf : Cond) ∈ zW := zc_6 _ (List.mem_of_getElem? (i := 11) rfl)
theorem zm_252 : (.code yX6_symOf cX6_symOf 6 (some .int) : Cond) ∈ zW := zc_6 _ (List.mem_of_getElem? (i := 12) rfl)
theorem zm_253 : (.methodLink RX6 54 yX6_symOf : Cond) ∈ zW := zc_6 _ (List.mem_of_getElem? (i := 13) rfl)
theorem zm_254 : (.instanceMethod yX6_symOf : Cond) ∈ zW := zc_6 _ (List.mem_of_getElem? (i := 14) rfl)
theorem zm_255 : (.selects RX6 yX6_symOf yX6_symOf : Cond) ∈ zW := zc_6 _ (List.mem_of_getElem? (i := 15) rfl)
theorem zm_256 : (.methodLink RX6 85 Lib.Math.min.name : Cond) ∈ zW := zc_6 _ (List.mem_of_getElem? (i := 16) rfl)
theorem zm_257 : (.static Lib.Math.min.name : Cond) ∈ zW := zc_6 _ (List.mem_of_getElem? (i := 17) rfl)
theorem zm_258 : (.initialized "java/lang/Math" : Cond) ∈ zW := zc_6 _ (List.mem_of_getElem? (i := 18) rfl)
theorem zm_259 : (.code Lib.Math.min.name Lib.Math.min.code 2 (some .int) : Cond) ∈ zW := zc_6 _ (List.mem_of_getElem? (i := 19) rfl)
theorem zm_260 : (.methodLink RX6 91 yX6_sym : Cond) ∈ zW := zc_6 _ (List.mem_of_getElem? (i := 20) rfl)
theorem zm_261 : (.code yX6_node cX6_node 4 (some .int) : Cond) ∈ zW := zc_6 _ (List.mem_of_getElem? (i := 21) rfl)
theorem zm_262 : (.methodLink RX6 95 yX6_node : Cond) ∈ zW := zc_6 _ (List.mem_of_getElem? (i := 22) rfl)
theorem zm_263 : (.instanceMethod yX6_node : Cond) ∈ zW := zc_6 _ (List.mem_of_getElem? (i := 23) rfl)
theorem zm_264 : (.selects RX6 yX6_node yX6_node : Cond) ∈ zW := zc_6 _ (List.mem_of_getElem? (i := 24) rfl)
theorem zm_265 : (.code yX6_find cX6_find 4 (some .int) : Cond) ∈ zW := zc_6 _ (List.mem_of_getElem? (i := 25) rfl)
theorem zm_266 : (.methodLink RX6 118 yX6_find : Cond) ∈ zW := zc_6 _ (List.mem_of_getElem? (i := 26) rfl)
theorem zm_267 : (.instanceMethod yX6_find : Cond) ∈ zW := zc_6 _ (List.mem_of_getElem? (i := 27) rfl)
theorem zm_268 : (.selects RX6 yX6_find yX6_find : Cond) ∈ zW := zc_6 _ (List.mem_of_getElem? (i := 28) rfl)
theorem zm_269 : (.methodLink RX6 121 Lib.Math.max.name : Cond) ∈ zW := zc_6 _ (List.mem_of_getElem? (i := 29) rfl)
theorem zm_270 : (.static Lib.Math.max.name : Cond) ∈ zW := zc_6 _ (List.mem_of_getElem? (i := 30) rfl)
theorem zm_271 : (.code Lib.Math.max.name Lib.Math.max.code 2 (some .int) : Cond) ∈ zW := zc_6 _ (List.mem_of_getElem? (i := 31) rfl)
theorem zm_272 : (.fieldLink RX13 28 "PolicyHouse" "names" "LPolicyHouse$Names;" : Cond) ∈ zW := zc_6 _ (List.mem_of_getElem? (i := 32) rfl)
theorem zm_273 : (.initialized RX8 : Cond) ∈ zW := zc_6 _ (List.mem_of_getElem? (i := 33) rfl)
theorem zm_274 : (.instantiable RX8 15 : Cond) ∈ zW := zc_6 _ (List.mem_of_getElem? (i := 34) rfl)
theorem zm_275 : (.classLink RX13 32 RX8 : Cond) ∈ zW := zc_6 _ (List.mem_of_getElem? (i := 35) rfl)
theorem zm_276 : (.code yX8_init cX8_init 4 none : Cond) ∈ zW := zc_6 _ (List.mem_of_getElem? (i := 36) rfl)
theorem zm_277 : (.methodLink RX13 34 yX8_init : Cond) ∈ zW := zc_6 _ (List.mem_of_getElem? (i := 37) rfl)
theorem zm_278 : (.instanceMethod yX8_init : Cond) ∈ zW := zc_6 _ (List.mem_of_getElem? (i := 38) rfl)
theorem zm_279 : (.fieldLink RX13 37 "PolicyHouse" "reader" "LPolicyHouse$Reader;" : Cond) ∈ zW := zc_6 _ (List.mem_of_getElem? (i := 39) rfl)
theorem zm_280 : (.initialized RX2 : Cond) ∈ zW := zc_7 _ (List.mem_of_getElem? (i := 0) rfl)
theorem zm_281 : (.instantiable RX2 16 : Cond) ∈ zW := zc_7 _ (List.mem_of_getElem? (i := 1) rfl)
theorem zm_282 : (.classLink RX13 41 RX2 : Cond) ∈ zW := zc_7 _ (List.mem_of_getElem? (i := 2) rfl)
theorem zm_283 : (.code yX2_init cX2_init 3 none : Cond) ∈ zW := zc_7 _ (List.mem_of_getElem? (i := 3) rfl)
theorem zm_284 : (.methodLink RX13 43 yX2_init : Cond) ∈ zW := zc_7 _ (List.mem_of_getElem? (i := 4) rfl)
theorem zm_285 : (.instanceMethod yX2_init : Cond) ∈ zW := zc_7 _ (List.mem_of_getElem? (i := 5) rfl)
theorem zm_286 : (.fieldLink RX13 46 "PolicyHouse" "checker" "LPolicyHouse$Checker;" : Cond) ∈ zW := zc_7 _ (List.mem_of_getElem? (i := 6) rfl)
theorem zm_287 : (.initialized RX3 : Cond) ∈ zW := zc_7 _ (List.mem_of_getElem? (i := 7) rfl)
theorem zm_288 : (.instantiable RX3 15 : Cond) ∈ zW := zc_7 _ (List.mem_of_getElem? (i := 8) rfl)
theorem zm_289 : (.classLink RX13 50 RX3 : Cond) ∈ zW := zc_7 _ (List.mem_of_getElem? (i := 9) rfl)
theorem zm_290 : (.code yX3_init cX3_init 4 none : Cond) ∈ zW := zc_7 _ (List.mem_of_getElem? (i := 10) rfl)
theorem zm_291 : (.methodLink RX13 52 yX3_init : Cond) ∈ zW := zc_7 _ (List.mem_of_getElem? (i := 11) rfl)
theorem zm_292 : (.instanceMethod yX3_init : Cond) ∈ zW := zc_7 _ (List.mem_of_getElem? (i := 12) rfl)
theorem zm_293 : (.fieldLink RX13 55 "PolicyHouse" "coder" "LPolicyHouse$Coder;" : Cond) ∈ zW := zc_7 _ (List.mem_of_getElem? (i := 13) rfl)
theorem zm_294 : (.initialized RX9 : Cond) ∈ zW := zc_7 _ (List.mem_of_getElem? (i := 14) rfl)
theorem zm_295 : (.instantiable RX9 16 : Cond) ∈ zW := zc_7 _ (List.mem_of_getElem? (i := 15) rfl)
theorem zm_296 : (.classLink RX13 59 RX9 : Cond) ∈ zW := zc_7 _ (List.mem_of_getElem? (i := 16) rfl)
theorem zm_297 : (.code yX9_init cX9_init 3 none : Cond) ∈ zW := zc_7 _ (List.mem_of_getElem? (i := 17) rfl)
theorem zm_298 : (.methodLink RX13 61 yX9_init : Cond) ∈ zW := zc_7 _ (List.mem_of_getElem? (i := 18) rfl)
theorem zm_299 : (.instanceMethod yX9_init : Cond) ∈ zW := zc_7 _ (List.mem_of_getElem? (i := 19) rfl)
theorem zm_300 : (.fieldLink RX13 62 "PolicyHouse" "scopes" "LPolicyHouse$Scopes;" : Cond) ∈ zW := zc_7 _ (List.mem_of_getElem? (i := 20) rfl)
theorem zm_301 : (.fieldLink RX13 66 "PolicyHouse" "tape" "[I" : Cond) ∈ zW := zc_7 _ (List.mem_of_getElem? (i := 21) rfl)
theorem zm_302 : (.fieldLink RX13 70 "PolicyHouse" "taped" "I" : Cond) ∈ zW := zc_7 _ (List.mem_of_getElem? (i := 22) rfl)
theorem zm_303 : (.fieldLink RX13 74 "PolicyHouse" "feeds" "I" : Cond) ∈ zW := zc_7 _ (List.mem_of_getElem? (i := 23) rfl)
theorem zm_304 : (.classLink RX13 77 RX12 : Cond) ∈ zW := zc_7 _ (List.mem_of_getElem? (i := 24) rfl)
theorem zm_305 : (.fieldLink RX13 79 "PolicyHouse" "draft" "[LPolicyHouse$Tree;" : Cond) ∈ zW := zc_7 _ (List.mem_of_getElem? (i := 25) rfl)
theorem zm_306 : (.fieldLink RX13 83 "PolicyHouse" "drafts" "I" : Cond) ∈ zW := zc_7 _ (List.mem_of_getElem? (i := 26) rfl)
theorem zm_307 : (.fieldLink RX13 86 "PolicyHouse" "built" "LPolicyHouse$Bundle;" : Cond) ∈ zW := zc_7 _ (List.mem_of_getElem? (i := 27) rfl)
theorem zm_308 : (.classLink RX13 90 RX7 : Cond) ∈ zW := zc_7 _ (List.mem_of_getElem? (i := 28) rfl)
theorem zm_309 : (.fieldLink RX13 92 "PolicyHouse" "queries" "[LPolicyHouse$Query;" : Cond) ∈ zW := zc_7 _ (List.mem_of_getElem? (i := 29) rfl)
theorem zm_310 : (.fieldLink RX13 96 "PolicyHouse" "found" "[I" : Cond) ∈ zW := zc_7 _ (List.mem_of_getElem? (i := 30) rfl)
theorem zm_311 : (.fieldLink RX13 99 "PolicyHouse" "input" "I" : Cond) ∈ zW := zc_7 _ (List.mem_of_getElem? (i := 31) rfl)
theorem zm_312 : (.fieldLink RX13 102 "PolicyHouse" "ranData" "I" : Cond) ∈ zW := zc_7 _ (List.mem_of_getElem? (i := 32) rfl)
theorem zm_313 : (.fieldLink RX13 105 "PolicyHouse" "ranInput" "I" : Cond) ∈ zW := zc_7 _ (List.mem_of_getElem? (i := 33) rfl)
theorem zm_314 : (.arrayClass .long : Cond) ∈ zW := zc_7 _ (List.mem_of_getElem? (i := 34) rfl)
theorem zm_315 : (.fieldLink RX13 108 "PolicyHouse" "shown" "[J" : Cond) ∈ zW := zc_7 _ (List.mem_of_getElem? (i := 35) rfl)
theorem zm_316 : (.fieldLink RX13 112 "PolicyHouse" "bytes" "I" : Cond) ∈ zW := zc_7 _ (List.mem_of_getElem? (i := 36) rfl)
theorem zm_317 : (.initialized RX10 : Cond) ∈ zW := zc_7 _ (List.mem_of_getElem? (i := 37) rfl)
theorem zm_318 : (.instantiable RX10 19 : Cond) ∈ zW := zc_7 _ (List.mem_of_getElem? (i := 38) rfl)
theorem zm_319 : (.classLink RX13 115 RX10 : Cond) ∈ zW := zc_7 _ (List.mem_of_getElem? (i := 39) rfl)
theorem zm_320 : (.code yX10_init cX10_init 4 none : Cond) ∈ zW := zc_8 _ (List.mem_of_getElem? (i := 0) rfl)
theorem zm_321 : (.methodLink RX13 117 yX10_init : Cond) ∈ zW := zc_8 _ (List.mem_of_getElem? (i := 1) rfl)
theorem zm_322 : (.instanceMethod yX10_init : Cond) ∈ zW := zc_8 _ (List.mem_of_getElem? (i := 2) rfl)
theorem zm_323 : (.initialized RX5 : Cond) ∈ zW := zc_8 _ (List.mem_of_getElem? (i := 3) rfl)
theorem zm_324 : (.instantiable RX5 19 : Cond) ∈ zW := zc_8 _ (List.mem_of_getElem? (i := 4) rfl)
theorem zm_325 : (.classLink RX13 118 RX5 : Cond) ∈ zW := zc_8 _ (List.mem_of_getElem? (i := 5) rfl)
theorem zm_326 : (.initialized RX0 : Cond) ∈ zW := zc_8 _ (List.mem_of_getElem? (i := 6) rfl)
theorem zm_327 : (.instantiable RX0 9 : Cond) ∈ zW := zc_8 _ (List.mem_of_getElem? (i := 7) rfl)
theorem zm_328 : (.classLink RX13 120 RX0 : Cond) ∈ zW := zc_8 _ (List.mem_of_getElem? (i := 8) rfl)
theorem zm_329 : (.code yX0_init cX0_init 9 none : Cond) ∈ zW := zc_8 _ (List.mem_of_getElem? (i := 9) rfl)
theorem zm_330 : (.methodLink RX13 122 yX0_init : Cond) ∈ zW := zc_8 _ (List.mem_of_getElem? (i := 10) rfl)
theorem zm_331 : (.instanceMethod yX0_init : Cond) ∈ zW := zc_8 _ (List.mem_of_getElem? (i := 11) rfl)
theorem zm_332 : (.code yX5_init cX5_init 4 none : Cond) ∈ zW := zc_8 _ (List.mem_of_getElem? (i := 12) rfl)
theorem zm_333 : (.methodLink RX13 125 yX5_init : Cond) ∈ zW := zc_8 _ (List.mem_of_getElem? (i := 13) rfl)
theorem zm_334 : (.instanceMethod yX5_init : Cond) ∈ zW := zc_8 _ (List.mem_of_getElem? (i := 14) rfl)
theorem zm_335 : (.fieldLink RX13 128 "PolicyHouse" "machine" "LPolicyHouse$Machine;" : Cond) ∈ zW := zc_8 _ (List.mem_of_getElem? (i := 15) rfl)
theorem zm_336 : (.code yX4_made cX4_made 11 (some .int) : Cond) ∈ zW := zc_8 _ (List.mem_of_getElem? (i := 16) rfl)
theorem zm_337 : (.methodLink RX13 132 yX4_made : Cond) ∈ zW := zc_8 _ (List.mem_of_getElem? (i := 17) rfl)
theorem zm_338 : (.instanceMethod yX4_made : Cond) ∈ zW := zc_8 _ (List.mem_of_getElem? (i := 18) rfl)
theorem zm_339 : (.selects RX4 yX4_made yX4_made : Cond) ∈ zW := zc_8 _ (List.mem_of_getElem? (i := 19) rfl)
theorem zm_340 : (.code yX4_kind cX4_kind 2 (some .int) : Cond) ∈ zW := zc_8 _ (List.mem_of_getElem? (i := 20) rfl)
theorem zm_341 : (.methodLink RX4 46 yX4_kind : Cond) ∈ zW := zc_8 _ (List.mem_of_getElem? (i := 21) rfl)
theorem zm_342 : (.instanceMethod yX4_kind : Cond) ∈ zW := zc_8 _ (List.mem_of_getElem? (i := 22) rfl)
theorem zm_343 : (.selects RX4 yX4_kind yX4_kind : Cond) ∈ zW := zc_8 _ (List.mem_of_getElem? (i := 23) rfl)
theorem zm_344 : (.code yX4_size cX4_size 2 (some .int) : Cond) ∈ zW := zc_8 _ (List.mem_of_getElem? (i := 24) rfl)
theorem zm_345 : (.methodLink RX4 110 yX4_size : Cond) ∈ zW := zc_8 _ (List.mem_of_getElem? (i := 25) rfl)
theorem zm_346 : (.instanceMethod yX4_size : Cond) ∈ zW := zc_8 _ (List.mem_of_getElem? (i := 26) rfl)
theorem zm_347 : (.selects RX4 yX4_size yX4_size : Cond) ∈ zW := zc_8 _ (List.mem_of_getElem? (i := 27) rfl)
theorem zm_348 : (.code yX4_room cX4_room 3 (some .int) : Cond) ∈ zW := zc_8 _ (List.mem_of_getElem? (i := 28) rfl)
theorem zm_349 : (.methodLink RX4 65 yX4_room : Cond) ∈ zW := zc_8 _ (List.mem_of_getElem? (i := 29) rfl)
theorem zm_350 : (.instanceMethod yX4_room : Cond) ∈ zW := zc_8 _ (List.mem_of_getElem? (i := 30) rfl)
theorem zm_351 : (.selects RX4 yX4_room yX4_room : Cond) ∈ zW := zc_8 _ (List.mem_of_getElem? (i := 31) rfl)
theorem zm_352 : (.code yX4_copy cX4_copy 7 (some .int) : Cond) ∈ zW := zc_8 _ (List.mem_of_getElem? (i := 32) rfl)
theorem zm_353 : (.methodLink RX4 116 yX4_copy : Cond) ∈ zW := zc_8 _ (List.mem_of_getElem? (i := 33) rfl)
theorem zm_354 : (.instanceMethod yX4_copy : Cond) ∈ zW := zc_8 _ (List.mem_of_getElem? (i := 34) rfl)
theorem zm_355 : (.selects RX4 yX4_copy yX4_copy : Cond) ∈ zW := zc_8 _ (List.mem_of_getElem? (i := 35) rfl)
theorem zm_356 : (.code yX4_copyTo cX4_copyTo 5 (some .int) : Cond) ∈ zW := zc_8 _ (List.mem_of_getElem? (i := 36) rfl)
theorem zm_357 : (.methodLink RX13 136 yX4_copyTo : Cond) ∈ zW := zc_8 _ (List.mem_of_getElem? (i := 37) rfl)
theorem zm_358 : (.instanceMethod yX4_copyTo : Cond) ∈ zW := zc_8 _ (List.mem_of_getElem? (i := 38) rfl)
theorem zm_359 : (.selects RX4 yX4_copyTo yX4_copyTo : Cond) ∈ zW := zc_8 _ (List.mem_of_getElem? (i := 39) rfl)
theorem zm_360 : (.fieldLink RX13 140 "PolicyHouse" "data" "I" : Cond) ∈ zW := zc_9 _ (List.mem_of_getElem? (i := 0) rfl)
theorem zm_361 : (.constant RX13 143 (258000) : Cond) ∈ zW := zc_9 _ (List.mem_of_getElem? (i := 1) rfl)
theorem zm_362 : (.code yX4_reset cX4_reset 2 none : Cond) ∈ zW := zc_9 _ (List.mem_of_getElem? (i := 2) rfl)
theorem zm_363 : (.methodLink RX13 144 yX4_reset : Cond) ∈ zW := zc_9 _ (List.mem_of_getElem? (i := 3) rfl)
theorem zm_364 : (.instanceMethod yX4_reset : Cond) ∈ zW := zc_9 _ (List.mem_of_getElem? (i := 4) rfl)
theorem zm_365 : (.selects RX4 yX4_reset yX4_reset : Cond) ∈ zW := zc_9 _ (List.mem_of_getElem? (i := 5) rfl)
theorem zm_366 : (.initialized RX1 : Cond) ∈ zW := zc_9 _ (List.mem_of_getElem? (i := 6) rfl)
theorem zm_367 : (.instantiable RX1 16 : Cond) ∈ zW := zc_9 _ (List.mem_of_getElem? (i := 7) rfl)
theorem zm_368 : (.classLink RX2 63 RX1 : Cond) ∈ zW := zc_9 _ (List.mem_of_getElem? (i := 8) rfl)
theorem zm_369 : (.fieldLink RX2 65 "PolicyHouse$Names" "nodes" "I" : Cond) ∈ zW := zc_9 _ (List.mem_of_getElem? (i := 9) rfl)
theorem zm_370 : (.methodLink RX1 3 objectInit : Cond) ∈ zW := zc_9 _ (List.mem_of_getElem? (i := 10) rfl)
theorem zm_371 : (.fieldLink RX1 9 "PolicyHouse$Bundle" "rules" "I" : Cond) ∈ zW := zc_9 _ (List.mem_of_getElem? (i := 11) rfl)
theorem zm_372 : (.fieldLink RX1 15 "PolicyHouse$Bundle" "parts" "I" : Cond) ∈ zW := zc_9 _ (List.mem_of_getElem? (i := 12) rfl)
theorem zm_373 : (.fieldLink RX1 18 "PolicyHouse$Bundle" "words" "I" : Cond) ∈ zW := zc_9 _ (List.mem_of_getElem? (i := 13) rfl)
theorem zm_374 : (.fieldLink RX1 21 "PolicyHouse$Bundle" "reads" "[I" : Cond) ∈ zW := zc_9 _ (List.mem_of_getElem? (i := 14) rfl)
theorem zm_375 : (.fieldLink RX1 25 "PolicyHouse$Bundle" "rank" "[I" : Cond) ∈ zW := zc_9 _ (List.mem_of_getElem? (i := 15) rfl)
theorem zm_376 : (.fieldLink RX1 28 "PolicyHouse$Bundle" "branch" "[I" : Cond) ∈ zW := zc_9 _ (List.mem_of_getElem? (i := 16) rfl)
theorem zm_377 : (.fieldLink RX1 31 "PolicyHouse$Bundle" "code" "[I" : Cond) ∈ zW := zc_9 _ (List.mem_of_getElem? (i := 17) rfl)
theorem zm_378 : (.fieldLink RX1 34 "PolicyHouse$Bundle" "kind" "I" : Cond) ∈ zW := zc_9 _ (List.mem_of_getElem? (i := 18) rfl)
theorem zm_379 : (.fieldLink RX1 37 "PolicyHouse$Bundle" "module" "I" : Cond) ∈ zW := zc_9 _ (List.mem_of_getElem? (i := 19) rfl)
theorem zm_380 : (.fieldLink RX1 40 "PolicyHouse$Bundle" "place" "I" : Cond) ∈ zW := zc_9 _ (List.mem_of_getElem? (i := 20) rfl)
theorem zm_381 : (.classLink RX1 43 RX12 : Cond) ∈ zW := zc_9 _ (List.mem_of_getElem? (i := 21) rfl)
theorem zm_382 : (.fieldLink RX1 45 "PolicyHouse$Bundle" "mods" "[LPolicyHouse$Tree;" : Cond) ∈ zW := zc_9 _ (List.mem_of_getElem? (i := 22) rfl)
theorem zm_383 : (.fieldLink RX1 50 "PolicyHouse$Bundle" "count" "I" : Cond) ∈ zW := zc_9 _ (List.mem_of_getElem? (i := 23) rfl)
theorem zm_384 : (.fieldLink RX1 53 "PolicyHouse$Bundle" "rule" "[I" : Cond) ∈ zW := zc_9 _ (List.mem_of_getElem? (i := 24) rfl)
theorem zm_385 : (.fieldLink RX1 56 "PolicyHouse$Bundle" "part" "[I" : Cond) ∈ zW := zc_9 _ (List.mem_of_getElem? (i := 25) rfl)
theorem zm_386 : (.fieldLink RX1 59 "PolicyHouse$Bundle" "nodeRule" "[I" : Cond) ∈ zW := zc_9 _ (List.mem_of_getElem? (i := 26) rfl)
theorem zm_387 : (.fieldLink RX1 62 "PolicyHouse$Bundle" "inner" "[I" : Cond) ∈ zW := zc_9 _ (List.mem_of_getElem? (i := 27) rfl)
theorem zm_388 : (.code yX1_init cX1_init 6 none : Cond) ∈ zW := zc_9 _ (List.mem_of_getElem? (i := 28) rfl)
theorem zm_389 : (.methodLink RX2 70 yX1_init : Cond) ∈ zW := zc_9 _ (List.mem_of_getElem? (i := 29) rfl)
theorem zm_390 : (.instanceMethod yX1_init : Cond) ∈ zW := zc_9 _ (List.mem_of_getElem? (i := 30) rfl)
theorem zm_391 : (.fieldLink RX2 99 "PolicyHouse$Bundle" "count" "I" : Cond) ∈ zW := zc_9 _ (List.mem_of_getElem? (i := 31) rfl)
theorem zm_392 : (.fieldLink RX2 128 "PolicyHouse$Bundle" "rules" "I" : Cond) ∈ zW := zc_9 _ (List.mem_of_getElem? (i := 32) rfl)
theorem zm_393 : (.fieldLink RX2 131 "PolicyHouse$Bundle" "words" "I" : Cond) ∈ zW := zc_9 _ (List.mem_of_getElem? (i := 33) rfl)
theorem zm_394 : (.code yX2_gather cX2_gather 4 none : Cond) ∈ zW := zc_9 _ (List.mem_of_getElem? (i := 34) rfl)
theorem zm_395 : (.methodLink RX2 73 yX2_gather : Cond) ∈ zW := zc_9 _ (List.mem_of_getElem? (i := 35) rfl)
theorem zm_396 : (.instanceMethod yX2_gather : Cond) ∈ zW := zc_9 _ (List.mem_of_getElem? (i := 36) rfl)
theorem zm_397 : (.selects RX2 yX2_gather yX2_gather : Cond) ∈ zW := zc_9 _ (List.mem_of_getElem? (i := 37) rfl)
theorem zm_398 : (.code yX2_findClash cX2_findClash 5 none : Cond) ∈ zW := zc_9 _ (List.mem_of_getElem? (i := 38) rfl)
theorem zm_399 : (.methodLink RX2 76 yX2_findClash : Cond) ∈ zW := zc_9 _ (List.mem_of_getElem? (i := 39) rfl)
theorem zm_400 : (.instanceMethod yX2_findClash : Cond) ∈ zW := zc_10 _ (List.mem_of_getElem? (i := 0) rfl)
theorem zm_401 : (.selects RX2 yX2_findClash yX2_findClash : Cond) ∈ zW := zc_10 _ (List.mem_of_getElem? (i := 1) rfl)
theorem zm_402 : (.fieldLink RX2 79 "PolicyHouse$Bundle" "parts" "I" : Cond) ∈ zW := zc_10 _ (List.mem_of_getElem? (i := 2) rfl)
theorem zm_403 : (.fieldLink RX2 82 "PolicyHouse$Bundle" "kind" "I" : Cond) ∈ zW := zc_10 _ (List.mem_of_getElem? (i := 3) rfl)
theorem zm_404 : (.fieldLink RX2 306 "PolicyHouse$Bundle" "reads" "[I" : Cond) ∈ zW := zc_10 _ (List.mem_of_getElem? (i := 4) rfl)
theorem zm_405 : (.code yX2_findReads cX2_findReads 4 none : Cond) ∈ zW := zc_10 _ (List.mem_of_getElem? (i := 5) rfl)
theorem zm_406 : (.methodLink RX2 93 yX2_findReads : Cond) ∈ zW := zc_10 _ (List.mem_of_getElem? (i := 6) rfl)
theorem zm_407 : (.instanceMethod yX2_findReads : Cond) ∈ zW := zc_10 _ (List.mem_of_getElem? (i := 7) rfl)
theorem zm_408 : (.selects RX2 yX2_findReads yX2_findReads : Cond) ∈ zW := zc_10 _ (List.mem_of_getElem? (i := 8) rfl)
theorem zm_409 : (.fieldLink RX2 327 "PolicyHouse$Bundle" "rank" "[I" : Cond) ∈ zW := zc_10 _ (List.mem_of_getElem? (i := 9) rfl)
theorem zm_410 : (.code yX2_findDepth cX2_findDepth 5 none : Cond) ∈ zW := zc_10 _ (List.mem_of_getElem? (i := 10) rfl)
theorem zm_411 : (.methodLink RX2 96 yX2_findDepth : Cond) ∈ zW := zc_10 _ (List.mem_of_getElem? (i := 11) rfl)
theorem zm_412 : (.instanceMethod yX2_findDepth : Cond) ∈ zW := zc_10 _ (List.mem_of_getElem? (i := 12) rfl)
theorem zm_413 : (.selects RX2 yX2_findDepth yX2_findDepth : Cond) ∈ zW := zc_10 _ (List.mem_of_getElem? (i := 13) rfl)
theorem zm_414 : (.code yX2_bundle cX2_bundle 4 (some (.object "PolicyHouse$Bundle")) : Cond) ∈ zW := zc_10 _ (List.mem_of_getElem? (i := 14) rfl)
theorem zm_415 : (.methodLink RX13 172 yX2_bundle : Cond) ∈ zW := zc_10 _ (List.mem_of_getElem? (i := 15) rfl)
theorem zm_416 : (.instanceMethod yX2_bundle : Cond) ∈ zW := zc_10 _ (List.mem_of_getElem? (i := 16) rfl)
theorem zm_417 : (.selects RX2 yX2_bundle yX2_bundle : Cond) ∈ zW := zc_10 _ (List.mem_of_getElem? (i := 17) rfl)
theorem zm_418 : (.fieldLink RX13 176 "PolicyHouse$Bundle" "kind" "I" : Cond) ∈ zW := zc_10 _ (List.mem_of_getElem? (i := 18) rfl)
theorem zm_419 : (.fieldLink RX3 62 "PolicyHouse$Bundle" "rules" "I" : Cond) ∈ zW := zc_10 _ (List.mem_of_getElem? (i := 19) rfl)
theorem zm_420 : (.code yX3_finish cX3_finish 6 none : Cond) ∈ zW := zc_10 _ (List.mem_of_getElem? (i := 20) rfl)
theorem zm_421 : (.methodLink RX13 181 yX3_finish : Cond) ∈ zW := zc_10 _ (List.mem_of_getElem? (i := 21) rfl)
theorem zm_422 : (.instanceMethod yX3_finish : Cond) ∈ zW := zc_10 _ (List.mem_of_getElem? (i := 22) rfl)
theorem zm_423 : (.selects RX3 yX3_finish yX3_finish : Cond) ∈ zW := zc_10 _ (List.mem_of_getElem? (i := 23) rfl)
theorem zm_424 : (.fieldLink RX3 238 "PolicyHouse$Bundle" "parts" "I" : Cond) ∈ zW := zc_10 _ (List.mem_of_getElem? (i := 24) rfl)
theorem zm_425 : (.methodLink RJ7 316 ⟨"[I", "clone", "()Ljava/lang/Object;"⟩ : Cond) ∈ zW := zc_10 _ (List.mem_of_getElem? (i := 25) rfl)
theorem zm_426 : (.sameMethod "[I" "java/lang/Object" "clone" "()Ljava/lang/Object;" : Cond) ∈ zW := zc_10 _ (List.mem_of_getElem? (i := 26) rfl)
theorem zm_427 : (.native ⟨"java/lang/Object", "clone", "()Ljava/lang/Object;"⟩ : Cond) ∈ zW := zc_10 _ (List.mem_of_getElem? (i := 27) rfl)
theorem zm_428 : (.instanceMethod ⟨"java/lang/Object", "clone", "()Ljava/lang/Object;"⟩ : Cond) ∈ zW := zc_10 _ (List.mem_of_getElem? (i := 28) rfl)
theorem zm_429 : (.selects "[I" ⟨"[I", "clone", "()Ljava/lang/Object;"⟩ ⟨"java/lang/Object", "clone", "()Ljava/lang/Object;"⟩ : Cond) ∈ zW := zc_10 _ (List.mem_of_getElem? (i := 29) rfl)
theorem zm_430 : (.classLink RJ7 317 "[I" : Cond) ∈ zW := zc_10 _ (List.mem_of_getElem? (i := 30) rfl)
theorem zm_431 : (.code yJ7_copyOf_59c91 cJ7_copyOf_59c91 3 (some (.array .int)) : Cond) ∈ zW := zc_10 _ (List.mem_of_getElem? (i := 31) rfl)
theorem zm_432 : (.methodLink RX3 251 yJ7_copyOf_59c91 : Cond) ∈ zW := zc_10 _ (List.mem_of_getElem? (i := 32) rfl)
theorem zm_433 : (.static yJ7_copyOf_59c91 : Cond) ∈ zW := zc_10 _ (List.mem_of_getElem? (i := 33) rfl)
theorem zm_434 : (.initialized RJ7 : Cond) ∈ zW := zc_10 _ (List.mem_of_getElem? (i := 34) rfl)
theorem zm_435 : (.fieldLink RX3 257 "PolicyHouse$Bundle" "branch" "[I" : Cond) ∈ zW := zc_10 _ (List.mem_of_getElem? (i := 35) rfl)
theorem zm_436 : (.methodLink RJ7 304 Lib.Math.min.name : Cond) ∈ zW := zc_10 _ (List.mem_of_getElem? (i := 36) rfl)
theorem zm_437 : (.methodLink RJ7 150 arraycopyName : Cond) ∈ zW := zc_10 _ (List.mem_of_getElem? (i := 37) rfl)
theorem zm_438 : (.fieldLink RX3 259 "PolicyHouse$Bundle" "code" "[I" : Cond) ∈ zW := zc_10 _ (List.mem_of_getElem? (i := 38) rfl)
theorem zm_439 : (.code yX3_encode cX3_encode 9 none : Cond) ∈ zW := zc_10 _ (List.mem_of_getElem? (i := 39) rfl)
theorem zm_440 : (.methodLink RX13 185 yX3_encode : Cond) ∈ zW := zc_11 _ (List.mem_of_getElem? (i := 0) rfl)
theorem zm_441 : (.instanceMethod yX3_encode : Cond) ∈ zW := zc_11 _ (List.mem_of_getElem? (i := 1) rfl)
theorem zm_442 : (.selects RX3 yX3_encode yX3_encode : Cond) ∈ zW := zc_11 _ (List.mem_of_getElem? (i := 2) rfl)
theorem zm_443 : (.code yX13_bundleOfDraft cX13_bundleOfDraft 2 (some (.object "PolicyHouse$Bundle")) : Cond) ∈ zW := zc_11 _ (List.mem_of_getElem? (i := 3) rfl)
theorem zm_444 : (.methodLink RX13 148 yX13_bundleOfDraft : Cond) ∈ zW := zc_11 _ (List.mem_of_getElem? (i := 4) rfl)
theorem zm_445 : (.instanceMethod yX13_bundleOfDraft : Cond) ∈ zW := zc_11 _ (List.mem_of_getElem? (i := 5) rfl)
theorem zm_446 : (.selects RX13 yX13_bundleOfDraft yX13_bundleOfDraft : Cond) ∈ zW := zc_11 _ (List.mem_of_getElem? (i := 6) rfl)
theorem zm_447 : (.fieldLink RX13 152 "PolicyHouse" "active" "LPolicyHouse$Bundle;" : Cond) ∈ zW := zc_11 _ (List.mem_of_getElem? (i := 7) rfl)
theorem zm_448 : (.code yX13_init cX13_init 2 none : Cond) ∈ zW := zc_11 _ (List.mem_of_getElem? (i := 8) rfl)
theorem zm_449 : (.methodLink RL 15 yX13_init : Cond) ∈ zW := zc_11 _ (List.mem_of_getElem? (i := 9) rfl)
theorem zm_450 : (.instanceMethod yX13_init : Cond) ∈ zW := zc_11 _ (List.mem_of_getElem? (i := 10) rfl)
theorem zm_451 : (.initialized RX16 : Cond) ∈ zW := zc_11 _ (List.mem_of_getElem? (i := 11) rfl)
theorem zm_452 : (.instantiable RX16 243 : Cond) ∈ zW := zc_11 _ (List.mem_of_getElem? (i := 12) rfl)
theorem zm_453 : (.classLink RL 16 RX16 : Cond) ∈ zW := zc_11 _ (List.mem_of_getElem? (i := 13) rfl)
theorem zm_454 : (.methodLink RX16 2179 objectInit : Cond) ∈ zW := zc_11 _ (List.mem_of_getElem? (i := 14) rfl)
theorem zm_455 : (.arrayClass .byte : Cond) ∈ zW := zc_11 _ (List.mem_of_getElem? (i := 15) rfl)
theorem zm_456 : (.fieldLink RX16 53 "PolicyHouseModel" "letters" "[B" : Cond) ∈ zW := zc_11 _ (List.mem_of_getElem? (i := 16) rfl)
theorem zm_457 : (.constant RX16 2182 (140000) : Cond) ∈ zW := zc_11 _ (List.mem_of_getElem? (i := 17) rfl)
theorem zm_458 : (.fieldLink RX16 73 "PolicyHouseModel" "stack" "[I" : Cond) ∈ zW := zc_11 _ (List.mem_of_getElem? (i := 18) rfl)
theorem zm_459 : (.constant RX16 2183 (100001) : Cond) ∈ zW := zc_11 _ (List.mem_of_getElem? (i := 19) rfl)
theorem zm_460 : (.fieldLink RX16 2184 "PolicyHouseModel" "out" "[B" : Cond) ∈ zW := zc_11 _ (List.mem_of_getElem? (i := 20) rfl)
theorem zm_461 : (.fieldLink RX16 1548 "PolicyHouseModel" "work" "[B" : Cond) ∈ zW := zc_11 _ (List.mem_of_getElem? (i := 21) rfl)
theorem zm_462 : (.constant RX16 961 (40000) : Cond) ∈ zW := zc_11 _ (List.mem_of_getElem? (i := 22) rfl)
theorem zm_463 : (.fieldLink RX16 246 "PolicyHouseModel" "nameBytes" "[B" : Cond) ∈ zW := zc_11 _ (List.mem_of_getElem? (i := 23) rfl)
theorem zm_464 : (.fieldLink RX16 240 "PolicyHouseModel" "nameFrom" "[I" : Cond) ∈ zW := zc_11 _ (List.mem_of_getElem? (i := 24) rfl)
theorem zm_465 : (.fieldLink RX16 256 "PolicyHouseModel" "nameNext" "[I" : Cond) ∈ zW := zc_11 _ (List.mem_of_getElem? (i := 25) rfl)
theorem zm_466 : (.fieldLink RX16 249 "PolicyHouseModel" "bucket" "[I" : Cond) ∈ zW := zc_11 _ (List.mem_of_getElem? (i := 26) rfl)
theorem zm_467 : (.constant RX16 2187 (46000) : Cond) ∈ zW := zc_11 _ (List.mem_of_getElem? (i := 27) rfl)
theorem zm_468 : (.fieldLink RX16 336 "PolicyHouseModel" "kind" "[I" : Cond) ∈ zW := zc_11 _ (List.mem_of_getElem? (i := 28) rfl)
theorem zm_469 : (.fieldLink RX16 341 "PolicyHouseModel" "place" "[I" : Cond) ∈ zW := zc_11 _ (List.mem_of_getElem? (i := 29) rfl)
theorem zm_470 : (.fieldLink RX16 344 "PolicyHouseModel" "a" "[I" : Cond) ∈ zW := zc_11 _ (List.mem_of_getElem? (i := 30) rfl)
theorem zm_471 : (.fieldLink RX16 347 "PolicyHouseModel" "b" "[I" : Cond) ∈ zW := zc_11 _ (List.mem_of_getElem? (i := 31) rfl)
theorem zm_472 : (.fieldLink RX16 350 "PolicyHouseModel" "c" "[I" : Cond) ∈ zW := zc_11 _ (List.mem_of_getElem? (i := 32) rfl)
theorem zm_473 : (.fieldLink RX16 353 "PolicyHouseModel" "next" "[I" : Cond) ∈ zW := zc_11 _ (List.mem_of_getElem? (i := 33) rfl)
theorem zm_474 : (.fieldLink RX16 356 "PolicyHouseModel" "constKind" "[I" : Cond) ∈ zW := zc_11 _ (List.mem_of_getElem? (i := 34) rfl)
theorem zm_475 : (.fieldLink RX16 366 "PolicyHouseModel" "constFrom" "[I" : Cond) ∈ zW := zc_11 _ (List.mem_of_getElem? (i := 35) rfl)
theorem zm_476 : (.fieldLink RX16 362 "PolicyHouseModel" "constNum" "[J" : Cond) ∈ zW := zc_11 _ (List.mem_of_getElem? (i := 36) rfl)
theorem zm_477 : (.fieldLink RX16 369 "PolicyHouseModel" "constBytes" "[B" : Cond) ∈ zW := zc_11 _ (List.mem_of_getElem? (i := 37) rfl)
theorem zm_478 : (.fieldLink RX16 461 "PolicyHouseModel" "bodyFirst" "[I" : Cond) ∈ zW := zc_11 _ (List.mem_of_getElem? (i := 38) rfl)
theorem zm_479 : (.fieldLink RX16 464 "PolicyHouseModel" "bodyAround" "[I" : Cond) ∈ zW := zc_11 _ (List.mem_of_getElem? (i := 39) rfl)
theorem zm_480 : (.fieldLink RX16 467 "PolicyHouseModel" "bodyUnit" "[I" : Cond) ∈ zW := zc_12 _ (List.mem_of_getElem? (i := 0) rfl)
theorem zm_481 : (.fieldLink RX16 473 "PolicyHouseModel" "bodyPlace" "[I" : Cond) ∈ zW := zc_12 _ (List.mem_of_getElem? (i := 1) rfl)
theorem zm_482 : (.fieldLink RX16 476 "PolicyHouseModel" "bodyMany" "[I" : Cond) ∈ zW := zc_12 _ (List.mem_of_getElem? (i := 2) rfl)
theorem zm_483 : (.fieldLink RX16 544 "PolicyHouseModel" "packageOf" "[I" : Cond) ∈ zW := zc_12 _ (List.mem_of_getElem? (i := 3) rfl)
theorem zm_484 : (.fieldLink RX16 553 "PolicyHouseModel" "importModule" "[I" : Cond) ∈ zW := zc_12 _ (List.mem_of_getElem? (i := 4) rfl)
theorem zm_485 : (.fieldLink RX16 556 "PolicyHouseModel" "importPlace" "[I" : Cond) ∈ zW := zc_12 _ (List.mem_of_getElem? (i := 5) rfl)
theorem zm_486 : (.fieldLink RX16 559 "PolicyHouseModel" "importAlias" "[I" : Cond) ∈ zW := zc_12 _ (List.mem_of_getElem? (i := 6) rfl)
theorem zm_487 : (.fieldLink RX16 562 "PolicyHouseModel" "importRoot" "[I" : Cond) ∈ zW := zc_12 _ (List.mem_of_getElem? (i := 7) rfl)
theorem zm_488 : (.fieldLink RX16 565 "PolicyHouseModel" "importPath" "[I" : Cond) ∈ zW := zc_12 _ (List.mem_of_getElem? (i := 8) rfl)
theorem zm_489 : (.fieldLink RX16 568 "PolicyHouseModel" "partModule" "[I" : Cond) ∈ zW := zc_12 _ (List.mem_of_getElem? (i := 9) rfl)
theorem zm_490 : (.fieldLink RX16 571 "PolicyHouseModel" "partPlace" "[I" : Cond) ∈ zW := zc_12 _ (List.mem_of_getElem? (i := 10) rfl)
theorem zm_491 : (.fieldLink RX16 577 "PolicyHouseModel" "partSort" "[I" : Cond) ∈ zW := zc_12 _ (List.mem_of_getElem? (i := 11) rfl)
theorem zm_492 : (.fieldLink RX16 574 "PolicyHouseModel" "partName" "[I" : Cond) ∈ zW := zc_12 _ (List.mem_of_getElem? (i := 12) rfl)
theorem zm_493 : (.fieldLink RX16 580 "PolicyHouseModel" "partParameters" "[I" : Cond) ∈ zW := zc_12 _ (List.mem_of_getElem? (i := 13) rfl)
theorem zm_494 : (.fieldLink RX16 583 "PolicyHouseModel" "partMany" "[I" : Cond) ∈ zW := zc_12 _ (List.mem_of_getElem? (i := 14) rfl)
theorem zm_495 : (.fieldLink RX16 586 "PolicyHouseModel" "partKey" "[I" : Cond) ∈ zW := zc_12 _ (List.mem_of_getElem? (i := 15) rfl)
theorem zm_496 : (.fieldLink RX16 589 "PolicyHouseModel" "partBranch" "[I" : Cond) ∈ zW := zc_12 _ (List.mem_of_getElem? (i := 16) rfl)
theorem zm_497 : (.fieldLink RX16 654 "PolicyHouseModel" "ruleOfPart" "[I" : Cond) ∈ zW := zc_12 _ (List.mem_of_getElem? (i := 17) rfl)
theorem zm_498 : (.fieldLink RX16 639 "PolicyHouseModel" "ruleFirst" "[I" : Cond) ∈ zW := zc_12 _ (List.mem_of_getElem? (i := 18) rfl)
theorem zm_499 : (.fieldLink RX16 645 "PolicyHouseModel" "ruleSort" "[I" : Cond) ∈ zW := zc_12 _ (List.mem_of_getElem? (i := 19) rfl)
theorem zm_500 : (.fieldLink RX16 642 "PolicyHouseModel" "ruleParts" "[I" : Cond) ∈ zW := zc_12 _ (List.mem_of_getElem? (i := 20) rfl)
theorem zm_501 : (.fieldLink RX16 657 "PolicyHouseModel" "ruleMany" "[I" : Cond) ∈ zW := zc_12 _ (List.mem_of_getElem? (i := 21) rfl)
theorem zm_502 : (.fieldLink RX16 648 "PolicyHouseModel" "rulePath" "[I" : Cond) ∈ zW := zc_12 _ (List.mem_of_getElem? (i := 22) rfl)
theorem zm_503 : (.fieldLink RX16 651 "PolicyHouseModel" "ruleLength" "[I" : Cond) ∈ zW := zc_12 _ (List.mem_of_getElem? (i := 23) rfl)
theorem zm_504 : (.fieldLink RX16 629 "PolicyHouseModel" "packagePath" "[I" : Cond) ∈ zW := zc_12 _ (List.mem_of_getElem? (i := 24) rfl)
theorem zm_505 : (.fieldLink RX16 626 "PolicyHouseModel" "packageLength" "[I" : Cond) ∈ zW := zc_12 _ (List.mem_of_getElem? (i := 25) rfl)
theorem zm_506 : (.fieldLink RX16 742 "PolicyHouseModel" "how" "[I" : Cond) ∈ zW := zc_12 _ (List.mem_of_getElem? (i := 26) rfl)
theorem zm_507 : (.fieldLink RX16 752 "PolicyHouseModel" "which" "[I" : Cond) ∈ zW := zc_12 _ (List.mem_of_getElem? (i := 27) rfl)
theorem zm_508 : (.fieldLink RX16 794 "PolicyHouseModel" "varCount" "[I" : Cond) ∈ zW := zc_12 _ (List.mem_of_getElem? (i := 28) rfl)
theorem zm_509 : (.fieldLink RX16 799 "PolicyHouseModel" "varBody" "[I" : Cond) ∈ zW := zc_12 _ (List.mem_of_getElem? (i := 29) rfl)
theorem zm_510 : (.fieldLink RX16 691 "PolicyHouseModel" "declName" "[I" : Cond) ∈ zW := zc_12 _ (List.mem_of_getElem? (i := 30) rfl)
theorem zm_511 : (.fieldLink RX16 697 "PolicyHouseModel" "declPlace" "[I" : Cond) ∈ zW := zc_12 _ (List.mem_of_getElem? (i := 31) rfl)
theorem zm_512 : (.fieldLink RX16 700 "PolicyHouseModel" "declBody" "[I" : Cond) ∈ zW := zc_12 _ (List.mem_of_getElem? (i := 32) rfl)
theorem zm_513 : (.fieldLink RX16 770 "PolicyHouseModel" "callPath" "[I" : Cond) ∈ zW := zc_12 _ (List.mem_of_getElem? (i := 33) rfl)
theorem zm_514 : (.fieldLink RX16 856 "PolicyHouseModel" "readsAll" "[J" : Cond) ∈ zW := zc_12 _ (List.mem_of_getElem? (i := 34) rfl)
theorem zm_515 : (.fieldLink RX16 859 "PolicyHouseModel" "readsSo" "[J" : Cond) ∈ zW := zc_12 _ (List.mem_of_getElem? (i := 35) rfl)
theorem zm_516 : (.fieldLink RX16 862 "PolicyHouseModel" "depends" "[J" : Cond) ∈ zW := zc_12 _ (List.mem_of_getElem? (i := 36) rfl)
theorem zm_517 : (.fieldLink RX16 814 "PolicyHouseModel" "gathered" "[J" : Cond) ∈ zW := zc_12 _ (List.mem_of_getElem? (i := 37) rfl)
theorem zm_518 : (.fieldLink RX16 869 "PolicyHouseModel" "level" "[I" : Cond) ∈ zW := zc_12 _ (List.mem_of_getElem? (i := 38) rfl)
theorem zm_519 : (.fieldLink RX16 2140 "PolicyHouseModel" "withDepth" "[I" : Cond) ∈ zW := zc_12 _ (List.mem_of_getElem? (i := 39) rfl)
theorem zm_520 : (.fieldLink RX16 817 "PolicyHouseModel" "readPath" "[I" : Cond) ∈ zW := zc_13 _ (List.mem_of_getElem? (i := 0) rfl)
theorem zm_521 : (.arrayClass .boolean : Cond) ∈ zW := zc_13 _ (List.mem_of_getElem? (i := 1) rfl)
theorem zm_522 : (.fieldLink RX16 906 "PolicyHouseModel" "rightFirst" "[Z" : Cond) ∈ zW := zc_13 _ (List.mem_of_getElem? (i := 2) rfl)
theorem zm_523 : (.fieldLink RX16 925 "PolicyHouseModel" "ordered" "[I" : Cond) ∈ zW := zc_13 _ (List.mem_of_getElem? (i := 3) rfl)
theorem zm_524 : (.fieldLink RX16 910 "PolicyHouseModel" "orderFrom" "[I" : Cond) ∈ zW := zc_13 _ (List.mem_of_getElem? (i := 4) rfl)
theorem zm_525 : (.fieldLink RX16 916 "PolicyHouseModel" "isPlaced" "[Z" : Cond) ∈ zW := zc_13 _ (List.mem_of_getElem? (i := 5) rfl)
theorem zm_526 : (.fieldLink RX16 802 "PolicyHouseModel" "varName" "[I" : Cond) ∈ zW := zc_13 _ (List.mem_of_getElem? (i := 6) rfl)
theorem zm_527 : (.initialized RX15 : Cond) ∈ zW := zc_13 _ (List.mem_of_getElem? (i := 7) rfl)
theorem zm_528 : (.instantiable RX15 8 : Cond) ∈ zW := zc_13 _ (List.mem_of_getElem? (i := 8) rfl)
theorem zm_529 : (.classLink RX16 127 RX15 : Cond) ∈ zW := zc_13 _ (List.mem_of_getElem? (i := 9) rfl)
theorem zm_530 : (.constant RX16 1684 (100000) : Cond) ∈ zW := zc_13 _ (List.mem_of_getElem? (i := 10) rfl)
theorem zm_531 : (.constant RX16 2188 (90000) : Cond) ∈ zW := zc_13 _ (List.mem_of_getElem? (i := 11) rfl)
theorem zm_532 : (.methodLink RX15 3 objectInit : Cond) ∈ zW := zc_13 _ (List.mem_of_getElem? (i := 12) rfl)
theorem zm_533 : (.fieldLink RX15 9 "PolicyHouseModel$Values" "info" "[J" : Cond) ∈ zW := zc_13 _ (List.mem_of_getElem? (i := 13) rfl)
theorem zm_534 : (.fieldLink RX15 15 "PolicyHouseModel$Values" "pool" "[I" : Cond) ∈ zW := zc_13 _ (List.mem_of_getElem? (i := 14) rfl)
theorem zm_535 : (.fieldLink RX15 19 "PolicyHouseModel$Values" "bytes" "[B" : Cond) ∈ zW := zc_13 _ (List.mem_of_getElem? (i := 15) rfl)
theorem zm_536 : (.fieldLink RX15 23 "PolicyHouseModel$Values" "sorted" "[I" : Cond) ∈ zW := zc_13 _ (List.mem_of_getElem? (i := 16) rfl)
theorem zm_537 : (.fieldLink RX15 26 "PolicyHouseModel$Values" "other" "[I" : Cond) ∈ zW := zc_13 _ (List.mem_of_getElem? (i := 17) rfl)
theorem zm_538 : (.fieldLink RX15 32 "PolicyHouseModel$Values" "count" "I" : Cond) ∈ zW := zc_13 _ (List.mem_of_getElem? (i := 18) rfl)
theorem zm_539 : (.fieldLink RX15 36 "PolicyHouseModel$Values" "pooled" "I" : Cond) ∈ zW := zc_13 _ (List.mem_of_getElem? (i := 19) rfl)
theorem zm_540 : (.fieldLink RX15 39 "PolicyHouseModel$Values" "written" "I" : Cond) ∈ zW := zc_13 _ (List.mem_of_getElem? (i := 20) rfl)
theorem zm_541 : (.methodLink RX15 49 Lib.Math.min.name : Cond) ∈ zW := zc_13 _ (List.mem_of_getElem? (i := 21) rfl)
theorem zm_542 : (.code yX15_node cX15_node 6 (some .int) : Cond) ∈ zW := zc_13 _ (List.mem_of_getElem? (i := 22) rfl)
theorem zm_543 : (.methodLink RX15 42 yX15_node : Cond) ∈ zW := zc_13 _ (List.mem_of_getElem? (i := 23) rfl)
theorem zm_544 : (.instanceMethod yX15_node : Cond) ∈ zW := zc_13 _ (List.mem_of_getElem? (i := 24) rfl)
theorem zm_545 : (.selects RX15 yX15_node yX15_node : Cond) ∈ zW := zc_13 _ (List.mem_of_getElem? (i := 25) rfl)
theorem zm_546 : (.code yX15_clear cX15_clear 2 none : Cond) ∈ zW := zc_13 _ (List.mem_of_getElem? (i := 26) rfl)
theorem zm_547 : (.methodLink RX15 29 yX15_clear : Cond) ∈ zW := zc_13 _ (List.mem_of_getElem? (i := 27) rfl)
theorem zm_548 : (.instanceMethod yX15_clear : Cond) ∈ zW := zc_13 _ (List.mem_of_getElem? (i := 28) rfl)
theorem zm_549 : (.selects RX15 yX15_clear yX15_clear : Cond) ∈ zW := zc_13 _ (List.mem_of_getElem? (i := 29) rfl)
theorem zm_550 : (.code yX15_init cX15_init 5 none : Cond) ∈ zW := zc_13 _ (List.mem_of_getElem? (i := 30) rfl)
theorem zm_551 : (.methodLink RX16 2189 yX15_init : Cond) ∈ zW := zc_13 _ (List.mem_of_getElem? (i := 31) rfl)
theorem zm_552 : (.instanceMethod yX15_init : Cond) ∈ zW := zc_13 _ (List.mem_of_getElem? (i := 32) rfl)
theorem zm_553 : (.fieldLink RX16 973 "PolicyHouseModel" "run" "LPolicyHouseModel$Values;" : Cond) ∈ zW := zc_13 _ (List.mem_of_getElem? (i := 33) rfl)
theorem zm_554 : (.fieldLink RX16 1017 "PolicyHouseModel" "constValue" "[I" : Cond) ∈ zW := zc_13 _ (List.mem_of_getElem? (i := 34) rfl)
theorem zm_555 : (.fieldLink RX16 1014 "PolicyHouseModel" "nameValue" "[I" : Cond) ∈ zW := zc_13 _ (List.mem_of_getElem? (i := 35) rfl)
theorem zm_556 : (.fieldLink RX16 1106 "PolicyHouseModel" "scopeInput" "[I" : Cond) ∈ zW := zc_13 _ (List.mem_of_getElem? (i := 36) rfl)
theorem zm_557 : (.fieldLink RX16 1280 "PolicyHouseModel" "tries" "[I" : Cond) ∈ zW := zc_13 _ (List.mem_of_getElem? (i := 37) rfl)
theorem zm_558 : (.fieldLink RX16 1044 "PolicyHouseModel" "replaced" "[I" : Cond) ∈ zW := zc_13 _ (List.mem_of_getElem? (i := 38) rfl)
theorem zm_559 : (.fieldLink RX16 1065 "PolicyHouseModel" "replacedName" "[I" : Cond) ∈ zW := zc_13 _ (List.mem_of_getElem? (i := 39) rfl)
theorem zm_560 : (.fieldLink RX16 1068 "PolicyHouseModel" "replacedValue" "[I" : Cond) ∈ zW := zc_14 _ (List.mem_of_getElem? (i := 0) rfl)
theorem zm_561 : (.fieldLink RX16 1053 "PolicyHouseModel" "docState" "[I" : Cond) ∈ zW := zc_14 _ (List.mem_of_getElem? (i := 1) rfl)
theorem zm_562 : (.fieldLink RX16 1056 "PolicyHouseModel" "docValue" "[I" : Cond) ∈ zW := zc_14 _ (List.mem_of_getElem? (i := 2) rfl)
theorem zm_563 : (.fieldLink RX16 1392 "PolicyHouseModel" "firstDoc" "[I" : Cond) ∈ zW := zc_14 _ (List.mem_of_getElem? (i := 3) rfl)
theorem zm_564 : (.fieldLink RX16 1395 "PolicyHouseModel" "isMade" "[Z" : Cond) ∈ zW := zc_14 _ (List.mem_of_getElem? (i := 4) rfl)
theorem zm_565 : (.fieldLink RX16 1371 "PolicyHouseModel" "standardValue" "[I" : Cond) ∈ zW := zc_14 _ (List.mem_of_getElem? (i := 5) rfl)
theorem zm_566 : (.fieldLink RX16 1365 "PolicyHouseModel" "isStandardMade" "[Z" : Cond) ∈ zW := zc_14 _ (List.mem_of_getElem? (i := 6) rfl)
theorem zm_567 : (.constant RX16 2191 (96000) : Cond) ∈ zW := zc_14 _ (List.mem_of_getElem? (i := 7) rfl)
theorem zm_568 : (.fieldLink RX16 994 "PolicyHouseModel" "rowEnv" "[I" : Cond) ∈ zW := zc_14 _ (List.mem_of_getElem? (i := 8) rfl)
theorem zm_569 : (.fieldLink RX16 1000 "PolicyHouseModel" "rowValue" "[I" : Cond) ∈ zW := zc_14 _ (List.mem_of_getElem? (i := 9) rfl)
theorem zm_570 : (.constant RX16 2192 (45000) : Cond) ∈ zW := zc_14 _ (List.mem_of_getElem? (i := 10) rfl)
theorem zm_571 : (.fieldLink RX16 1230 "PolicyHouseModel" "outEnv" "[I" : Cond) ∈ zW := zc_14 _ (List.mem_of_getElem? (i := 11) rfl)
theorem zm_572 : (.fieldLink RX16 1233 "PolicyHouseModel" "outValue" "[I" : Cond) ∈ zW := zc_14 _ (List.mem_of_getElem? (i := 12) rfl)
theorem zm_573 : (.constant RX16 2193 (850000) : Cond) ∈ zW := zc_14 _ (List.mem_of_getElem? (i := 13) rfl)
theorem zm_574 : (.fieldLink RX16 1009 "PolicyHouseModel" "env" "[J" : Cond) ∈ zW := zc_14 _ (List.mem_of_getElem? (i := 14) rfl)
theorem zm_575 : (.fieldLink RX16 1190 "PolicyHouseModel" "stepFrom" "[I" : Cond) ∈ zW := zc_14 _ (List.mem_of_getElem? (i := 15) rfl)
theorem zm_576 : (.fieldLink RX16 1196 "PolicyHouseModel" "stepEnd" "[I" : Cond) ∈ zW := zc_14 _ (List.mem_of_getElem? (i := 16) rfl)
theorem zm_577 : (.fieldLink RX16 1199 "PolicyHouseModel" "stepAt" "[I" : Cond) ∈ zW := zc_14 _ (List.mem_of_getElem? (i := 17) rfl)
theorem zm_578 : (.fieldLink RX16 1202 "PolicyHouseModel" "stepEnv" "[I" : Cond) ∈ zW := zc_14 _ (List.mem_of_getElem? (i := 18) rfl)
theorem zm_579 : (.fieldLink RX16 1227 "PolicyHouseModel" "tuple" "[I" : Cond) ∈ zW := zc_14 _ (List.mem_of_getElem? (i := 19) rfl)
theorem zm_580 : (.fieldLink RX16 1221 "PolicyHouseModel" "stepPart" "[I" : Cond) ∈ zW := zc_14 _ (List.mem_of_getElem? (i := 20) rfl)
theorem zm_581 : (.fieldLink RX16 1224 "PolicyHouseModel" "stepSecond" "[Z" : Cond) ∈ zW := zc_14 _ (List.mem_of_getElem? (i := 21) rfl)
theorem zm_582 : (.fieldLink RX16 1023 "PolicyHouseModel" "trieName" "[I" : Cond) ∈ zW := zc_14 _ (List.mem_of_getElem? (i := 22) rfl)
theorem zm_583 : (.fieldLink RX16 1020 "PolicyHouseModel" "trieFirst" "[I" : Cond) ∈ zW := zc_14 _ (List.mem_of_getElem? (i := 23) rfl)
theorem zm_584 : (.fieldLink RX16 1026 "PolicyHouseModel" "trieNext" "[I" : Cond) ∈ zW := zc_14 _ (List.mem_of_getElem? (i := 24) rfl)
theorem zm_585 : (.fieldLink RX16 1032 "PolicyHouseModel" "trieRule" "[I" : Cond) ∈ zW := zc_14 _ (List.mem_of_getElem? (i := 25) rfl)
theorem zm_586 : (.fieldLink RX16 1059 "PolicyHouseModel" "trieBase" "[I" : Cond) ∈ zW := zc_14 _ (List.mem_of_getElem? (i := 26) rfl)
theorem zm_587 : (.constant RX16 2194 (42000) : Cond) ∈ zW := zc_14 _ (List.mem_of_getElem? (i := 27) rfl)
theorem zm_588 : (.fieldLink RX16 1347 "PolicyHouseModel" "keyBefore" "[I" : Cond) ∈ zW := zc_14 _ (List.mem_of_getElem? (i := 28) rfl)
theorem zm_589 : (.fieldLink RX16 1350 "PolicyHouseModel" "keyPlace" "[I" : Cond) ∈ zW := zc_14 _ (List.mem_of_getElem? (i := 29) rfl)
theorem zm_590 : (.fieldLink RX16 1383 "PolicyHouseModel" "needs" "[J" : Cond) ∈ zW := zc_14 _ (List.mem_of_getElem? (i := 30) rfl)
theorem zm_591 : (.fieldLink RX16 1611 "PolicyHouseModel" "here" "LPolicyHouseModel$Values;" : Cond) ∈ zW := zc_14 _ (List.mem_of_getElem? (i := 31) rfl)
theorem zm_592 : (.fieldLink RX16 1631 "PolicyHouseModel" "beside" "LPolicyHouseModel$Values;" : Cond) ∈ zW := zc_14 _ (List.mem_of_getElem? (i := 32) rfl)
theorem zm_593 : (.fieldLink RX16 2195 "PolicyHouseModel" "texts" "LPolicyHouseModel$Values;" : Cond) ∈ zW := zc_14 _ (List.mem_of_getElem? (i := 33) rfl)
theorem zm_594 : (.fieldLink RX16 1644 "PolicyHouseModel" "pointer" "[B" : Cond) ∈ zW := zc_14 _ (List.mem_of_getElem? (i := 34) rfl)
theorem zm_595 : (.fieldLink RX16 1638 "PolicyHouseModel" "nameStart" "[I" : Cond) ∈ zW := zc_14 _ (List.mem_of_getElem? (i := 35) rfl)
theorem zm_596 : (.fieldLink RX16 1811 "PolicyHouseModel" "pOp" "[I" : Cond) ∈ zW := zc_14 _ (List.mem_of_getElem? (i := 36) rfl)
theorem zm_597 : (.fieldLink RX16 1814 "PolicyHouseModel" "pOne" "[I" : Cond) ∈ zW := zc_14 _ (List.mem_of_getElem? (i := 37) rfl)
theorem zm_598 : (.fieldLink RX16 1817 "PolicyHouseModel" "pTwo" "[I" : Cond) ∈ zW := zc_14 _ (List.mem_of_getElem? (i := 38) rfl)
theorem zm_599 : (.fieldLink RX16 1829 "PolicyHouseModel" "pMark" "[I" : Cond) ∈ zW := zc_14 _ (List.mem_of_getElem? (i := 39) rfl)
theorem zm_600 : (.fieldLink RX16 1838 "PolicyHouseModel" "pList" "[I" : Cond) ∈ zW := zc_15 _ (List.mem_of_getElem? (i := 0) rfl)
theorem zm_601 : (.fieldLink RX16 1841 "PolicyHouseModel" "pNext" "[I" : Cond) ∈ zW := zc_15 _ (List.mem_of_getElem? (i := 1) rfl)
theorem zm_602 : (.fieldLink RX16 1826 "PolicyHouseModel" "pPile" "[I" : Cond) ∈ zW := zc_15 _ (List.mem_of_getElem? (i := 2) rfl)
theorem zm_603 : (.fieldLink RX16 1731 "PolicyHouseModel" "classBits" "[J" : Cond) ∈ zW := zc_15 _ (List.mem_of_getElem? (i := 3) rfl)
theorem zm_604 : (.fieldLink RX16 1713 "PolicyHouseModel" "xKind" "[I" : Cond) ∈ zW := zc_15 _ (List.mem_of_getElem? (i := 4) rfl)
theorem zm_605 : (.fieldLink RX16 1719 "PolicyHouseModel" "xFirst" "[I" : Cond) ∈ zW := zc_15 _ (List.mem_of_getElem? (i := 5) rfl)
theorem zm_606 : (.fieldLink RX16 1722 "PolicyHouseModel" "xLeast" "[I" : Cond) ∈ zW := zc_15 _ (List.mem_of_getElem? (i := 6) rfl)
theorem zm_607 : (.fieldLink RX16 1725 "PolicyHouseModel" "xMost" "[I" : Cond) ∈ zW := zc_15 _ (List.mem_of_getElem? (i := 7) rfl)
theorem zm_608 : (.fieldLink RX16 1728 "PolicyHouseModel" "xNext" "[I" : Cond) ∈ zW := zc_15 _ (List.mem_of_getElem? (i := 8) rfl)
theorem zm_609 : (.fieldLink RX16 1907 "PolicyHouseModel" "versionAt" "[I" : Cond) ∈ zW := zc_15 _ (List.mem_of_getElem? (i := 9) rfl)
theorem zm_610 : (.fieldLink RX16 2028 "PolicyHouseModel" "walkPath" "[I" : Cond) ∈ zW := zc_15 _ (List.mem_of_getElem? (i := 10) rfl)
theorem zm_611 : (.fieldLink RX16 2085 "PolicyHouseModel" "moduleText" "[J" : Cond) ∈ zW := zc_15 _ (List.mem_of_getElem? (i := 11) rfl)
theorem zm_612 : (.fieldLink RX16 2161 "PolicyHouseModel" "queryText" "[B" : Cond) ∈ zW := zc_15 _ (List.mem_of_getElem? (i := 12) rfl)
theorem zm_613 : (.fieldLink RX16 2082 "PolicyHouseModel" "piece" "[B" : Cond) ∈ zW := zc_15 _ (List.mem_of_getElem? (i := 13) rfl)
theorem zm_614 : (.fieldLink RX16 2079 "PolicyHouseModel" "moduleLength" "[I" : Cond) ∈ zW := zc_15 _ (List.mem_of_getElem? (i := 14) rfl)
theorem zm_615 : (.fieldLink RX16 2076 "PolicyHouseModel" "moduleMany" "[I" : Cond) ∈ zW := zc_15 _ (List.mem_of_getElem? (i := 15) rfl)
theorem zm_616 : (.fieldLink RX16 2070 "PolicyHouseModel" "stamp" "[I" : Cond) ∈ zW := zc_15 _ (List.mem_of_getElem? (i := 16) rfl)
theorem zm_617 : (.fieldLink RX16 2158 "PolicyHouseModel" "queryLength" "[I" : Cond) ∈ zW := zc_15 _ (List.mem_of_getElem? (i := 17) rfl)
theorem zm_618 : (.fieldLink RX16 2198 "PolicyHouseModel" "isPrepared" "[Z" : Cond) ∈ zW := zc_15 _ (List.mem_of_getElem? (i := 18) rfl)
theorem zm_619 : (.fieldLink RX16 2201 "PolicyHouseModel" "stamps" "I" : Cond) ∈ zW := zc_15 _ (List.mem_of_getElem? (i := 19) rfl)
theorem zm_620 : (.fieldLink RX16 2067 "PolicyHouseModel" "loaded" "I" : Cond) ∈ zW := zc_15 _ (List.mem_of_getElem? (i := 20) rfl)
theorem zm_621 : (.fieldLink RX16 2173 "PolicyHouseModel" "lastModule" "I" : Cond) ∈ zW := zc_15 _ (List.mem_of_getElem? (i := 21) rfl)
theorem zm_622 : (.fieldLink RX16 2176 "PolicyHouseModel" "lastPlace" "I" : Cond) ∈ zW := zc_15 _ (List.mem_of_getElem? (i := 22) rfl)
theorem zm_623 : (.fieldLink RX16 2204 "PolicyHouseModel" "tape" "[B" : Cond) ∈ zW := zc_15 _ (List.mem_of_getElem? (i := 23) rfl)
theorem zm_624 : (.fieldLink RX16 2207 "PolicyHouseModel" "data" "LPolicyHouseModel$Values;" : Cond) ∈ zW := zc_15 _ (List.mem_of_getElem? (i := 24) rfl)
theorem zm_625 : (.fieldLink RX16 2209 "PolicyHouseModel" "input" "LPolicyHouseModel$Values;" : Cond) ∈ zW := zc_15 _ (List.mem_of_getElem? (i := 25) rfl)
theorem zm_626 : (.fieldLink RX16 2211 "PolicyHouseModel" "queryData" "[LPolicyHouseModel$Values;" : Cond) ∈ zW := zc_15 _ (List.mem_of_getElem? (i := 26) rfl)
theorem zm_627 : (.fieldLink RX16 2215 "PolicyHouseModel" "queryRoot" "[I" : Cond) ∈ zW := zc_15 _ (List.mem_of_getElem? (i := 27) rfl)
theorem zm_628 : (.constant RX16 2218 (40001) : Cond) ∈ zW := zc_15 _ (List.mem_of_getElem? (i := 28) rfl)
theorem zm_629 : (.fieldLink RX16 2219 "PolicyHouseModel" "results" "[I" : Cond) ∈ zW := zc_15 _ (List.mem_of_getElem? (i := 29) rfl)
theorem zm_630 : (.fieldLink RX16 2222 "PolicyHouseModel" "inputRoot" "I" : Cond) ∈ zW := zc_15 _ (List.mem_of_getElem? (i := 30) rfl)
theorem zm_631 : (.code yX15_sort cX15_sort 7 none : Cond) ∈ zW := zc_15 _ (List.mem_of_getElem? (i := 31) rfl)
theorem zm_632 : (.methodLink RX15 145 yX15_sort : Cond) ∈ zW := zc_15 _ (List.mem_of_getElem? (i := 32) rfl)
theorem zm_633 : (.instanceMethod yX15_sort : Cond) ∈ zW := zc_15 _ (List.mem_of_getElem? (i := 33) rfl)
theorem zm_634 : (.selects RX15 yX15_sort yX15_sort : Cond) ∈ zW := zc_15 _ (List.mem_of_getElem? (i := 34) rfl)
theorem zm_635 : (.code yX15_parted cX15_parted 10 (some .int) : Cond) ∈ zW := zc_15 _ (List.mem_of_getElem? (i := 35) rfl)
theorem zm_636 : (.methodLink RX15 122 yX15_parted : Cond) ∈ zW := zc_15 _ (List.mem_of_getElem? (i := 36) rfl)
theorem zm_637 : (.instanceMethod yX15_parted : Cond) ∈ zW := zc_15 _ (List.mem_of_getElem? (i := 37) rfl)
theorem zm_638 : (.selects RX15 yX15_parted yX15_parted : Cond) ∈ zW := zc_15 _ (List.mem_of_getElem? (i := 38) rfl)
theorem zm_639 : (.code yX15_object cX15_object 8 (some .int) : Cond) ∈ zW := zc_15 _ (List.mem_of_getElem? (i := 39) rfl)
theorem zm_640 : (.methodLink RX16 163 yX15_object : Cond) ∈ zW := zc_16 _ (List.mem_of_getElem? (i := 0) rfl)
theorem zm_641 : (.instanceMethod yX15_object : Cond) ∈ zW := zc_16 _ (List.mem_of_getElem? (i := 1) rfl)
theorem zm_642 : (.selects RX15 yX15_object yX15_object : Cond) ∈ zW := zc_16 _ (List.mem_of_getElem? (i := 2) rfl)
theorem zm_643 : (.fieldLink RX16 2225 "PolicyHouseModel" "dataRoot" "I" : Cond) ∈ zW := zc_16 _ (List.mem_of_getElem? (i := 3) rfl)
theorem zm_644 : (.code yX16_init cX16_init 1 none : Cond) ∈ zW := zc_16 _ (List.mem_of_getElem? (i := 4) rfl)
theorem zm_645 : (.methodLink RL 18 yX16_init : Cond) ∈ zW := zc_16 _ (List.mem_of_getElem? (i := 5) rfl)
theorem zm_646 : (.instanceMethod yX16_init : Cond) ∈ zW := zc_16 _ (List.mem_of_getElem? (i := 6) rfl)
theorem zm_647 : (.code yX13_put cX13_put 3 none : Cond) ∈ zW := zc_16 _ (List.mem_of_getElem? (i := 7) rfl)
theorem zm_648 : (.methodLink RX13 155 yX13_put : Cond) ∈ zW := zc_16 _ (List.mem_of_getElem? (i := 8) rfl)
theorem zm_649 : (.instanceMethod yX13_put : Cond) ∈ zW := zc_16 _ (List.mem_of_getElem? (i := 9) rfl)
theorem zm_650 : (.selects RX13 yX13_put yX13_put : Cond) ∈ zW := zc_16 _ (List.mem_of_getElem? (i := 10) rfl)
theorem zm_651 : (.code yX13_feed cX13_feed 6 (some .boolean) : Cond) ∈ zW := zc_16 _ (List.mem_of_getElem? (i := 11) rfl)
theorem zm_652 : (.methodLink RL 19 yX13_feed : Cond) ∈ zW := zc_16 _ (List.mem_of_getElem? (i := 12) rfl)
theorem zm_653 : (.instanceMethod yX13_feed : Cond) ∈ zW := zc_16 _ (List.mem_of_getElem? (i := 13) rfl)
theorem zm_654 : (.selects RX13 yX13_feed yX13_feed : Cond) ∈ zW := zc_16 _ (List.mem_of_getElem? (i := 14) rfl)
theorem zm_655 : (.fieldLink RX16 2228 "PolicyHouseModel" "thrown" "I" : Cond) ∈ zW := zc_16 _ (List.mem_of_getElem? (i := 15) rfl)
theorem zm_656 : (.fieldLink RX16 2231 "PolicyHouseModel" "tapeSize" "I" : Cond) ∈ zW := zc_16 _ (List.mem_of_getElem? (i := 16) rfl)
theorem zm_657 : (.code yX16_feed cX16_feed 8 (some .boolean) : Cond) ∈ zW := zc_16 _ (List.mem_of_getElem? (i := 17) rfl)
theorem zm_658 : (.methodLink RL 23 yX16_feed : Cond) ∈ zW := zc_16 _ (List.mem_of_getElem? (i := 18) rfl)
theorem zm_659 : (.instanceMethod yX16_feed : Cond) ∈ zW := zc_16 _ (List.mem_of_getElem? (i := 19) rfl)
theorem zm_660 : (.selects RX16 yX16_feed yX16_feed : Cond) ∈ zW := zc_16 _ (List.mem_of_getElem? (i := 20) rfl)
theorem zm_661 : (.code yX13_end cX13_end 2 (some .boolean) : Cond) ∈ zW := zc_16 _ (List.mem_of_getElem? (i := 21) rfl)
theorem zm_662 : (.methodLink RL 24 yX13_end : Cond) ∈ zW := zc_16 _ (List.mem_of_getElem? (i := 22) rfl)
theorem zm_663 : (.instanceMethod yX13_end : Cond) ∈ zW := zc_16 _ (List.mem_of_getElem? (i := 23) rfl)
theorem zm_664 : (.selects RX13 yX13_end yX13_end : Cond) ∈ zW := zc_16 _ (List.mem_of_getElem? (i := 24) rfl)
theorem zm_665 : (.code yX16_end cX16_end 2 (some .boolean) : Cond) ∈ zW := zc_16 _ (List.mem_of_getElem? (i := 25) rfl)
theorem zm_666 : (.methodLink RL 28 yX16_end : Cond) ∈ zW := zc_16 _ (List.mem_of_getElem? (i := 26) rfl)
theorem zm_667 : (.instanceMethod yX16_end : Cond) ∈ zW := zc_16 _ (List.mem_of_getElem? (i := 27) rfl)
theorem zm_668 : (.selects RX16 yX16_end yX16_end : Cond) ∈ zW := zc_16 _ (List.mem_of_getElem? (i := 28) rfl)
theorem zm_669 : (.code yX13_emptied cX13_emptied 2 (some .int) : Cond) ∈ zW := zc_16 _ (List.mem_of_getElem? (i := 29) rfl)
theorem zm_670 : (.methodLink RX13 158 yX13_emptied : Cond) ∈ zW := zc_16 _ (List.mem_of_getElem? (i := 30) rfl)
theorem zm_671 : (.instanceMethod yX13_emptied : Cond) ∈ zW := zc_16 _ (List.mem_of_getElem? (i := 31) rfl)
theorem zm_672 : (.selects RX13 yX13_emptied yX13_emptied : Cond) ∈ zW := zc_16 _ (List.mem_of_getElem? (i := 32) rfl)
theorem zm_673 : (.code yX8_behindBlanks cX8_behindBlanks 6 (some .int) : Cond) ∈ zW := zc_16 _ (List.mem_of_getElem? (i := 33) rfl)
theorem zm_674 : (.methodLink RX8 78 yX8_behindBlanks : Cond) ∈ zW := zc_16 _ (List.mem_of_getElem? (i := 34) rfl)
theorem zm_675 : (.instanceMethod yX8_behindBlanks : Cond) ∈ zW := zc_16 _ (List.mem_of_getElem? (i := 35) rfl)
theorem zm_676 : (.selects RX8 yX8_behindBlanks yX8_behindBlanks : Cond) ∈ zW := zc_16 _ (List.mem_of_getElem? (i := 36) rfl)
theorem zm_677 : (.code yX8_split cX8_split 5 none : Cond) ∈ zW := zc_16 _ (List.mem_of_getElem? (i := 37) rfl)
theorem zm_678 : (.methodLink RX8 181 yX8_split : Cond) ∈ zW := zc_16 _ (List.mem_of_getElem? (i := 38) rfl)
theorem zm_679 : (.instanceMethod yX8_split : Cond) ∈ zW := zc_16 _ (List.mem_of_getElem? (i := 39) rfl)
theorem zm_680 : (.selects RX8 yX8_split yX8_split : Cond) ∈ zW := zc_17 _ (List.mem_of_getElem? (i := 0) rfl)
theorem zm_681 : (.initialized RX12 : Cond) ∈ zW := zc_17 _ (List.mem_of_getElem? (i := 1) rfl)
theorem zm_682 : (.instantiable RX12 15 : Cond) ∈ zW := zc_17 _ (List.mem_of_getElem? (i := 2) rfl)
theorem zm_683 : (.classLink RX8 158 RX12 : Cond) ∈ zW := zc_17 _ (List.mem_of_getElem? (i := 3) rfl)
theorem zm_684 : (.methodLink RX12 1 objectInit : Cond) ∈ zW := zc_17 _ (List.mem_of_getElem? (i := 4) rfl)
theorem zm_685 : (.fieldLink RX12 7 "PolicyHouse$Tree" "size" "I" : Cond) ∈ zW := zc_17 _ (List.mem_of_getElem? (i := 5) rfl)
theorem zm_686 : (.fieldLink RX12 13 "PolicyHouse$Tree" "pack" "I" : Cond) ∈ zW := zc_17 _ (List.mem_of_getElem? (i := 6) rfl)
theorem zm_687 : (.fieldLink RX12 16 "PolicyHouse$Tree" "root" "I" : Cond) ∈ zW := zc_17 _ (List.mem_of_getElem? (i := 7) rfl)
theorem zm_688 : (.fieldLink RX12 19 "PolicyHouse$Tree" "imports" "I" : Cond) ∈ zW := zc_17 _ (List.mem_of_getElem? (i := 8) rfl)
theorem zm_689 : (.fieldLink RX12 22 "PolicyHouse$Tree" "rules" "I" : Cond) ∈ zW := zc_17 _ (List.mem_of_getElem? (i := 9) rfl)
theorem zm_690 : (.fieldLink RX12 25 "PolicyHouse$Tree" "kind" "[I" : Cond) ∈ zW := zc_17 _ (List.mem_of_getElem? (i := 10) rfl)
theorem zm_691 : (.fieldLink RX12 29 "PolicyHouse$Tree" "at" "[I" : Cond) ∈ zW := zc_17 _ (List.mem_of_getElem? (i := 11) rfl)
theorem zm_692 : (.fieldLink RX12 32 "PolicyHouse$Tree" "a" "[I" : Cond) ∈ zW := zc_17 _ (List.mem_of_getElem? (i := 12) rfl)
theorem zm_693 : (.fieldLink RX12 35 "PolicyHouse$Tree" "b" "[I" : Cond) ∈ zW := zc_17 _ (List.mem_of_getElem? (i := 13) rfl)
theorem zm_694 : (.fieldLink RX12 38 "PolicyHouse$Tree" "c" "[I" : Cond) ∈ zW := zc_17 _ (List.mem_of_getElem? (i := 14) rfl)
theorem zm_695 : (.fieldLink RX12 41 "PolicyHouse$Tree" "first" "[I" : Cond) ∈ zW := zc_17 _ (List.mem_of_getElem? (i := 15) rfl)
theorem zm_696 : (.fieldLink RX12 44 "PolicyHouse$Tree" "next" "[I" : Cond) ∈ zW := zc_17 _ (List.mem_of_getElem? (i := 16) rfl)
theorem zm_697 : (.fieldLink RX12 47 "PolicyHouse$Tree" "last" "[I" : Cond) ∈ zW := zc_17 _ (List.mem_of_getElem? (i := 17) rfl)
theorem zm_698 : (.fieldLink RX12 50 "PolicyHouse$Tree" "res" "[I" : Cond) ∈ zW := zc_17 _ (List.mem_of_getElem? (i := 18) rfl)
theorem zm_699 : (.fieldLink RX12 53 "PolicyHouse$Tree" "ref" "[I" : Cond) ∈ zW := zc_17 _ (List.mem_of_getElem? (i := 19) rfl)
theorem zm_700 : (.code yX12_init cX12_init 2 none : Cond) ∈ zW := zc_17 _ (List.mem_of_getElem? (i := 20) rfl)
theorem zm_701 : (.methodLink RX8 185 yX12_init : Cond) ∈ zW := zc_17 _ (List.mem_of_getElem? (i := 21) rfl)
theorem zm_702 : (.instanceMethod yX12_init : Cond) ∈ zW := zc_17 _ (List.mem_of_getElem? (i := 22) rfl)
theorem zm_703 : (.code yX8_is cX8_is 2 (some .boolean) : Cond) ∈ zW := zc_17 _ (List.mem_of_getElem? (i := 23) rfl)
theorem zm_704 : (.methodLink RX8 137 yX8_is : Cond) ∈ zW := zc_17 _ (List.mem_of_getElem? (i := 24) rfl)
theorem zm_705 : (.instanceMethod yX8_is : Cond) ∈ zW := zc_17 _ (List.mem_of_getElem? (i := 25) rfl)
theorem zm_706 : (.selects RX8 yX8_is yX8_is : Cond) ∈ zW := zc_17 _ (List.mem_of_getElem? (i := 26) rfl)
theorem zm_707 : (.code yX8_fail cX8_fail 1 none : Cond) ∈ zW := zc_17 _ (List.mem_of_getElem? (i := 27) rfl)
theorem zm_708 : (.methodLink RX8 143 yX8_fail : Cond) ∈ zW := zc_17 _ (List.mem_of_getElem? (i := 28) rfl)
theorem zm_709 : (.instanceMethod yX8_fail : Cond) ∈ zW := zc_17 _ (List.mem_of_getElem? (i := 29) rfl)
theorem zm_710 : (.selects RX8 yX8_fail yX8_fail : Cond) ∈ zW := zc_17 _ (List.mem_of_getElem? (i := 30) rfl)
theorem zm_711 : (.code yX8_need cX8_need 2 none : Cond) ∈ zW := zc_17 _ (List.mem_of_getElem? (i := 31) rfl)
theorem zm_712 : (.methodLink RX8 146 yX8_need : Cond) ∈ zW := zc_17 _ (List.mem_of_getElem? (i := 32) rfl)
theorem zm_713 : (.instanceMethod yX8_need : Cond) ∈ zW := zc_17 _ (List.mem_of_getElem? (i := 33) rfl)
theorem zm_714 : (.selects RX8 yX8_need yX8_need : Cond) ∈ zW := zc_17 _ (List.mem_of_getElem? (i := 34) rfl)
theorem zm_715 : (.code yX12_add cX12_add 4 (some .int) : Cond) ∈ zW := zc_17 _ (List.mem_of_getElem? (i := 35) rfl)
theorem zm_716 : (.methodLink RX8 157 yX12_add : Cond) ∈ zW := zc_17 _ (List.mem_of_getElem? (i := 36) rfl)
theorem zm_717 : (.instanceMethod yX12_add : Cond) ∈ zW := zc_17 _ (List.mem_of_getElem? (i := 37) rfl)
theorem zm_718 : (.selects RX12 yX12_add yX12_add : Cond) ∈ zW := zc_17 _ (List.mem_of_getElem? (i := 38) rfl)
theorem zm_719 : (.code yX8_node cX8_node 2 (some .int) : Cond) ∈ zW := zc_17 _ (List.mem_of_getElem? (i := 39) rfl)
theorem zm_720 : (.methodLink RX8 162 yX8_node : Cond) ∈ zW := zc_18 _ (List.mem_of_getElem? (i := 0) rfl)
theorem zm_721 : (.instanceMethod yX8_node : Cond) ∈ zW := zc_18 _ (List.mem_of_getElem? (i := 1) rfl)
theorem zm_722 : (.selects RX8 yX8_node yX8_node : Cond) ∈ zW := zc_18 _ (List.mem_of_getElem? (i := 2) rfl)
theorem zm_723 : (.fieldLink RX8 165 "PolicyHouse$Tree" "a" "[I" : Cond) ∈ zW := zc_18 _ (List.mem_of_getElem? (i := 3) rfl)
theorem zm_724 : (.code yX8_take cX8_take 1 none : Cond) ∈ zW := zc_18 _ (List.mem_of_getElem? (i := 4) rfl)
theorem zm_725 : (.methodLink RX8 140 yX8_take : Cond) ∈ zW := zc_18 _ (List.mem_of_getElem? (i := 5) rfl)
theorem zm_726 : (.instanceMethod yX8_take : Cond) ∈ zW := zc_18 _ (List.mem_of_getElem? (i := 6) rfl)
theorem zm_727 : (.selects RX8 yX8_take yX8_take : Cond) ∈ zW := zc_18 _ (List.mem_of_getElem? (i := 7) rfl)
theorem zm_728 : (.code yX8_plainName cX8_plainName 2 (some .int) : Cond) ∈ zW := zc_18 _ (List.mem_of_getElem? (i := 8) rfl)
theorem zm_729 : (.methodLink RX8 168 yX8_plainName : Cond) ∈ zW := zc_18 _ (List.mem_of_getElem? (i := 9) rfl)
theorem zm_730 : (.instanceMethod yX8_plainName : Cond) ∈ zW := zc_18 _ (List.mem_of_getElem? (i := 10) rfl)
theorem zm_731 : (.selects RX8 yX8_plainName yX8_plainName : Cond) ∈ zW := zc_18 _ (List.mem_of_getElem? (i := 11) rfl)
theorem zm_732 : (.code yX12_append cX12_append 3 none : Cond) ∈ zW := zc_18 _ (List.mem_of_getElem? (i := 12) rfl)
theorem zm_733 : (.methodLink RX8 172 yX12_append : Cond) ∈ zW := zc_18 _ (List.mem_of_getElem? (i := 13) rfl)
theorem zm_734 : (.instanceMethod yX12_append : Cond) ∈ zW := zc_18 _ (List.mem_of_getElem? (i := 14) rfl)
theorem zm_735 : (.selects RX12 yX12_append yX12_append : Cond) ∈ zW := zc_18 _ (List.mem_of_getElem? (i := 15) rfl)
theorem zm_736 : (.code yX8_path cX8_path 6 (some .int) : Cond) ∈ zW := zc_18 _ (List.mem_of_getElem? (i := 16) rfl)
theorem zm_737 : (.methodLink RX8 187 yX8_path : Cond) ∈ zW := zc_18 _ (List.mem_of_getElem? (i := 17) rfl)
theorem zm_738 : (.instanceMethod yX8_path : Cond) ∈ zW := zc_18 _ (List.mem_of_getElem? (i := 18) rfl)
theorem zm_739 : (.selects RX8 yX8_path yX8_path : Cond) ∈ zW := zc_18 _ (List.mem_of_getElem? (i := 19) rfl)
theorem zm_740 : (.fieldLink RX8 190 "PolicyHouse$Tree" "pack" "I" : Cond) ∈ zW := zc_18 _ (List.mem_of_getElem? (i := 20) rfl)
theorem zm_741 : (.fieldLink RX8 193 "PolicyHouse$Tree" "root" "I" : Cond) ∈ zW := zc_18 _ (List.mem_of_getElem? (i := 21) rfl)
theorem zm_742 : (.fieldLink RX8 199 "PolicyHouse$Tree" "first" "[I" : Cond) ∈ zW := zc_18 _ (List.mem_of_getElem? (i := 22) rfl)
theorem zm_743 : (.fieldLink RX8 202 "PolicyHouse$Tree" "imports" "I" : Cond) ∈ zW := zc_18 _ (List.mem_of_getElem? (i := 23) rfl)
theorem zm_744 : (.code yX8_readModule cX8_readModule 5 (some (.object "PolicyHouse$Tree")) : Cond) ∈ zW := zc_18 _ (List.mem_of_getElem? (i := 24) rfl)
theorem zm_745 : (.methodLink RX13 162 yX8_readModule : Cond) ∈ zW := zc_18 _ (List.mem_of_getElem? (i := 25) rfl)
theorem zm_746 : (.instanceMethod yX8_readModule : Cond) ∈ zW := zc_18 _ (List.mem_of_getElem? (i := 26) rfl)
theorem zm_747 : (.selects RX8 yX8_readModule yX8_readModule : Cond) ∈ zW := zc_18 _ (List.mem_of_getElem? (i := 27) rfl)
theorem zm_748 : (.fieldLink RX13 166 "PolicyHouse$Reader" "wrong" "I" : Cond) ∈ zW := zc_18 _ (List.mem_of_getElem? (i := 28) rfl)
theorem zm_749 : (.code yX13_module cX13_module 2 (some .int) : Cond) ∈ zW := zc_18 _ (List.mem_of_getElem? (i := 29) rfl)
theorem zm_750 : (.methodLink RL 29 yX13_module : Cond) ∈ zW := zc_18 _ (List.mem_of_getElem? (i := 30) rfl)
theorem zm_751 : (.instanceMethod yX13_module : Cond) ∈ zW := zc_18 _ (List.mem_of_getElem? (i := 31) rfl)
theorem zm_752 : (.selects RX13 yX13_module yX13_module : Cond) ∈ zW := zc_18 _ (List.mem_of_getElem? (i := 32) rfl)
theorem zm_753 : (.code yX16_take cX16_take 2 (some .int) : Cond) ∈ zW := zc_18 _ (List.mem_of_getElem? (i := 33) rfl)
theorem zm_754 : (.methodLink RX16 2234 yX16_take : Cond) ∈ zW := zc_18 _ (List.mem_of_getElem? (i := 34) rfl)
theorem zm_755 : (.instanceMethod yX16_take : Cond) ∈ zW := zc_18 _ (List.mem_of_getElem? (i := 35) rfl)
theorem zm_756 : (.selects RX16 yX16_take yX16_take : Cond) ∈ zW := zc_18 _ (List.mem_of_getElem? (i := 36) rfl)
theorem zm_757 : (.fieldLink RX16 338 "PolicyHouseModel" "nodes" "I" : Cond) ∈ zW := zc_18 _ (List.mem_of_getElem? (i := 37) rfl)
theorem zm_758 : (.fieldLink RX16 359 "PolicyHouseModel" "consts" "I" : Cond) ∈ zW := zc_18 _ (List.mem_of_getElem? (i := 38) rfl)
theorem zm_759 : (.fieldLink RX16 458 "PolicyHouseModel" "bodies" "I" : Cond) ∈ zW := zc_18 _ (List.mem_of_getElem? (i := 39) rfl)
theorem zm_760 : (.fieldLink RX16 259 "PolicyHouseModel" "names" "I" : Cond) ∈ zW := zc_19 _ (List.mem_of_getElem? (i := 0) rfl)
theorem zm_761 : (.fieldLink RX16 519 "PolicyHouseModel" "modules" "I" : Cond) ∈ zW := zc_19 _ (List.mem_of_getElem? (i := 1) rfl)
theorem zm_762 : (.fieldLink RX16 522 "PolicyHouseModel" "imports" "I" : Cond) ∈ zW := zc_19 _ (List.mem_of_getElem? (i := 2) rfl)
theorem zm_763 : (.fieldLink RX16 525 "PolicyHouseModel" "parts" "I" : Cond) ∈ zW := zc_19 _ (List.mem_of_getElem? (i := 3) rfl)
theorem zm_764 : (.methodLink RX16 104 yJ0_length_8abf5 : Cond) ∈ zW := zc_19 _ (List.mem_of_getElem? (i := 4) rfl)
theorem zm_765 : (.methodLink RX16 109 yJ0_charAt_5068e : Cond) ∈ zW := zc_19 _ (List.mem_of_getElem? (i := 5) rfl)
theorem zm_766 : (.code yX16_name cX16_name 6 (some .int) : Cond) ∈ zW := zc_19 _ (List.mem_of_getElem? (i := 6) rfl)
theorem zm_767 : (.methodLink RX16 262 yX16_name : Cond) ∈ zW := zc_19 _ (List.mem_of_getElem? (i := 7) rfl)
theorem zm_768 : (.instanceMethod yX16_name : Cond) ∈ zW := zc_19 _ (List.mem_of_getElem? (i := 8) rfl)
theorem zm_769 : (.selects RX16 yX16_name yX16_name : Cond) ∈ zW := zc_19 _ (List.mem_of_getElem? (i := 9) rfl)
theorem zm_770 : (.code yX16_nameOf cX16_nameOf 3 (some .int) : Cond) ∈ zW := zc_19 _ (List.mem_of_getElem? (i := 10) rfl)
theorem zm_771 : (.methodLink RX16 530 yX16_nameOf : Cond) ∈ zW := zc_19 _ (List.mem_of_getElem? (i := 11) rfl)
theorem zm_772 : (.instanceMethod yX16_nameOf : Cond) ∈ zW := zc_19 _ (List.mem_of_getElem? (i := 12) rfl)
theorem zm_773 : (.selects RX16 yX16_nameOf yX16_nameOf : Cond) ∈ zW := zc_19 _ (List.mem_of_getElem? (i := 13) rfl)
theorem zm_774 : (.fieldLink RX16 385 "PolicyHouseModel" "underName" "I" : Cond) ∈ zW := zc_19 _ (List.mem_of_getElem? (i := 14) rfl)
theorem zm_775 : (.fieldLink RX16 432 "PolicyHouseModel" "setName" "I" : Cond) ∈ zW := zc_19 _ (List.mem_of_getElem? (i := 15) rfl)
theorem zm_776 : (.fieldLink RX16 497 "PolicyHouseModel" "inputName" "I" : Cond) ∈ zW := zc_19 _ (List.mem_of_getElem? (i := 16) rfl)
theorem zm_777 : (.fieldLink RX16 500 "PolicyHouseModel" "dataName" "I" : Cond) ∈ zW := zc_19 _ (List.mem_of_getElem? (i := 17) rfl)
theorem zm_778 : (.code yX16_clearTrees cX16_clearTrees 2 none : Cond) ∈ zW := zc_19 _ (List.mem_of_getElem? (i := 18) rfl)
theorem zm_779 : (.methodLink RX16 2073 yX16_clearTrees : Cond) ∈ zW := zc_19 _ (List.mem_of_getElem? (i := 19) rfl)
theorem zm_780 : (.instanceMethod yX16_clearTrees : Cond) ∈ zW := zc_19 _ (List.mem_of_getElem? (i := 20) rfl)
theorem zm_781 : (.selects RX16 yX16_clearTrees yX16_clearTrees : Cond) ∈ zW := zc_19 _ (List.mem_of_getElem? (i := 21) rfl)
theorem zm_782 : (.fieldLink RX16 270 "PolicyHouseModel" "source" "[B" : Cond) ∈ zW := zc_19 _ (List.mem_of_getElem? (i := 22) rfl)
theorem zm_783 : (.fieldLink RX16 273 "PolicyHouseModel" "sourceEnd" "I" : Cond) ∈ zW := zc_19 _ (List.mem_of_getElem? (i := 23) rfl)
theorem zm_784 : (.fieldLink RX16 267 "PolicyHouseModel" "wrong" "I" : Cond) ∈ zW := zc_19 _ (List.mem_of_getElem? (i := 24) rfl)
theorem zm_785 : (.fieldLink RX16 276 "PolicyHouseModel" "tokenEnd" "I" : Cond) ∈ zW := zc_19 _ (List.mem_of_getElem? (i := 25) rfl)
theorem zm_786 : (.fieldLink RX16 291 "PolicyHouseModel" "blankAhead" "Z" : Cond) ∈ zW := zc_19 _ (List.mem_of_getElem? (i := 26) rfl)
theorem zm_787 : (.fieldLink RX16 295 "PolicyHouseModel" "lineAhead" "Z" : Cond) ∈ zW := zc_19 _ (List.mem_of_getElem? (i := 27) rfl)
theorem zm_788 : (.code yX16_see cX16_see 3 (some .int) : Cond) ∈ zW := zc_19 _ (List.mem_of_getElem? (i := 28) rfl)
theorem zm_789 : (.methodLink RX16 29 yX16_see : Cond) ∈ zW := zc_19 _ (List.mem_of_getElem? (i := 29) rfl)
theorem zm_790 : (.static yX16_see : Cond) ∈ zW := zc_19 _ (List.mem_of_getElem? (i := 30) rfl)
theorem zm_791 : (.fieldLink RX16 298 "PolicyHouseModel" "tokenAt" "I" : Cond) ∈ zW := zc_19 _ (List.mem_of_getElem? (i := 31) rfl)
theorem zm_792 : (.fieldLink RX16 285 "PolicyHouseModel" "tokenWrong" "I" : Cond) ∈ zW := zc_19 _ (List.mem_of_getElem? (i := 32) rfl)
theorem zm_793 : (.fieldLink RX16 25 "PolicyHouseModel" "textWrong" "I" : Cond) ∈ zW := zc_19 _ (List.mem_of_getElem? (i := 33) rfl)
theorem zm_794 : (.fieldLink RX16 301 "PolicyHouseModel" "tokenKind" "I" : Cond) ∈ zW := zc_19 _ (List.mem_of_getElem? (i := 34) rfl)
theorem zm_795 : (.code yX16_lex cX16_lex 3 none : Cond) ∈ zW := zc_19 _ (List.mem_of_getElem? (i := 35) rfl)
theorem zm_796 : (.methodLink RX16 279 yX16_lex : Cond) ∈ zW := zc_19 _ (List.mem_of_getElem? (i := 36) rfl)
theorem zm_797 : (.instanceMethod yX16_lex : Cond) ∈ zW := zc_19 _ (List.mem_of_getElem? (i := 37) rfl)
theorem zm_798 : (.selects RX16 yX16_lex yX16_lex : Cond) ∈ zW := zc_19 _ (List.mem_of_getElem? (i := 38) rfl)
theorem zm_799 : (.code yX16_begin cX16_begin 3 none : Cond) ∈ zW := zc_19 _ (List.mem_of_getElem? (i := 39) rfl)
theorem zm_800 : (.methodLink RX16 540 yX16_begin : Cond) ∈ zW := zc_20 _ (List.mem_of_getElem? (i := 0) rfl)
theorem zm_801 : (.instanceMethod yX16_begin : Cond) ∈ zW := zc_20 _ (List.mem_of_getElem? (i := 1) rfl)
theorem zm_802 : (.selects RX16 yX16_begin yX16_begin : Cond) ∈ zW := zc_20 _ (List.mem_of_getElem? (i := 2) rfl)
theorem zm_803 : (.fieldLink RX16 470 "PolicyHouseModel" "unit" "I" : Cond) ∈ zW := zc_20 _ (List.mem_of_getElem? (i := 3) rfl)
theorem zm_804 : (.code yX16_bad cX16_bad 1 (some .boolean) : Cond) ∈ zW := zc_20 _ (List.mem_of_getElem? (i := 4) rfl)
theorem zm_805 : (.methodLink RX16 282 yX16_bad : Cond) ∈ zW := zc_20 _ (List.mem_of_getElem? (i := 5) rfl)
theorem zm_806 : (.instanceMethod yX16_bad : Cond) ∈ zW := zc_20 _ (List.mem_of_getElem? (i := 6) rfl)
theorem zm_807 : (.selects RX16 yX16_bad yX16_bad : Cond) ∈ zW := zc_20 _ (List.mem_of_getElem? (i := 7) rfl)
theorem zm_808 : (.code yX16_isKey cX16_isKey 2 (some .boolean) : Cond) ∈ zW := zc_20 _ (List.mem_of_getElem? (i := 8) rfl)
theorem zm_809 : (.methodLink RX16 333 yX16_isKey : Cond) ∈ zW := zc_20 _ (List.mem_of_getElem? (i := 9) rfl)
theorem zm_810 : (.instanceMethod yX16_isKey : Cond) ∈ zW := zc_20 _ (List.mem_of_getElem? (i := 10) rfl)
theorem zm_811 : (.selects RX16 yX16_isKey yX16_isKey : Cond) ∈ zW := zc_20 _ (List.mem_of_getElem? (i := 11) rfl)
theorem zm_812 : (.code yX16_fail cX16_fail 2 none : Cond) ∈ zW := zc_20 _ (List.mem_of_getElem? (i := 12) rfl)
theorem zm_813 : (.methodLink RX16 288 yX16_fail : Cond) ∈ zW := zc_20 _ (List.mem_of_getElem? (i := 13) rfl)
theorem zm_814 : (.instanceMethod yX16_fail : Cond) ∈ zW := zc_20 _ (List.mem_of_getElem? (i := 14) rfl)
theorem zm_815 : (.selects RX16 yX16_fail yX16_fail : Cond) ∈ zW := zc_20 _ (List.mem_of_getElem? (i := 15) rfl)
theorem zm_816 : (.code yX16_needKey cX16_needKey 2 none : Cond) ∈ zW := zc_20 _ (List.mem_of_getElem? (i := 16) rfl)
theorem zm_817 : (.methodLink RX16 506 yX16_needKey : Cond) ∈ zW := zc_20 _ (List.mem_of_getElem? (i := 17) rfl)
theorem zm_818 : (.instanceMethod yX16_needKey : Cond) ∈ zW := zc_20 _ (List.mem_of_getElem? (i := 18) rfl)
theorem zm_819 : (.selects RX16 yX16_needKey yX16_needKey : Cond) ∈ zW := zc_20 _ (List.mem_of_getElem? (i := 19) rfl)
theorem zm_820 : (.code yX16_isName cX16_isName 1 (some .boolean) : Cond) ∈ zW := zc_20 _ (List.mem_of_getElem? (i := 20) rfl)
theorem zm_821 : (.methodLink RX16 382 yX16_isName : Cond) ∈ zW := zc_20 _ (List.mem_of_getElem? (i := 21) rfl)
theorem zm_822 : (.instanceMethod yX16_isName : Cond) ∈ zW := zc_20 _ (List.mem_of_getElem? (i := 22) rfl)
theorem zm_823 : (.selects RX16 yX16_isName yX16_isName : Cond) ∈ zW := zc_20 _ (List.mem_of_getElem? (i := 23) rfl)
theorem zm_824 : (.code yX16_path cX16_path 4 (some .int) : Cond) ∈ zW := zc_20 _ (List.mem_of_getElem? (i := 24) rfl)
theorem zm_825 : (.methodLink RX16 503 yX16_path : Cond) ∈ zW := zc_20 _ (List.mem_of_getElem? (i := 25) rfl)
theorem zm_826 : (.instanceMethod yX16_path : Cond) ∈ zW := zc_20 _ (List.mem_of_getElem? (i := 26) rfl)
theorem zm_827 : (.selects RX16 yX16_path yX16_path : Cond) ∈ zW := zc_20 _ (List.mem_of_getElem? (i := 27) rfl)
theorem zm_828 : (.code yX16_readModule cX16_readModule 5 (some .int) : Cond) ∈ zW := zc_20 _ (List.mem_of_getElem? (i := 28) rfl)
theorem zm_829 : (.methodLink RX16 2088 yX16_readModule : Cond) ∈ zW := zc_20 _ (List.mem_of_getElem? (i := 29) rfl)
theorem zm_830 : (.instanceMethod yX16_readModule : Cond) ∈ zW := zc_20 _ (List.mem_of_getElem? (i := 30) rfl)
theorem zm_831 : (.selects RX16 yX16_readModule yX16_readModule : Cond) ∈ zW := zc_20 _ (List.mem_of_getElem? (i := 31) rfl)
theorem zm_832 : (.code yX16_module cX16_module 5 (some .int) : Cond) ∈ zW := zc_20 _ (List.mem_of_getElem? (i := 32) rfl)
theorem zm_833 : (.methodLink RL 33 yX16_module : Cond) ∈ zW := zc_20 _ (List.mem_of_getElem? (i := 33) rfl)
theorem zm_834 : (.instanceMethod yX16_module : Cond) ∈ zW := zc_20 _ (List.mem_of_getElem? (i := 34) rfl)
theorem zm_835 : (.selects RX16 yX16_module yX16_module : Cond) ∈ zW := zc_20 _ (List.mem_of_getElem? (i := 35) rfl)
theorem zm_836 : (.code yX13_drop cX13_drop 2 (some .int) : Cond) ∈ zW := zc_20 _ (List.mem_of_getElem? (i := 36) rfl)
theorem zm_837 : (.methodLink RL 34 yX13_drop : Cond) ∈ zW := zc_20 _ (List.mem_of_getElem? (i := 37) rfl)
theorem zm_838 : (.instanceMethod yX13_drop : Cond) ∈ zW := zc_20 _ (List.mem_of_getElem? (i := 38) rfl)
theorem zm_839 : (.selects RX13 yX13_drop yX13_drop : Cond) ∈ zW := zc_20 _ (List.mem_of_getElem? (i := 39) rfl)
theorem zm_840 : (.code yX16_drop cX16_drop 2 (some .int) : Cond) ∈ zW := zc_21 _ (List.mem_of_getElem? (i := 0) rfl)
theorem zm_841 : (.methodLink RL 37 yX16_drop : Cond) ∈ zW := zc_21 _ (List.mem_of_getElem? (i := 1) rfl)
theorem zm_842 : (.instanceMethod yX16_drop : Cond) ∈ zW := zc_21 _ (List.mem_of_getElem? (i := 2) rfl)
theorem zm_843 : (.selects RX16 yX16_drop yX16_drop : Cond) ∈ zW := zc_21 _ (List.mem_of_getElem? (i := 3) rfl)
theorem zm_844 : (.fieldLink RX13 188 "PolicyHouse$Bundle" "module" "I" : Cond) ∈ zW := zc_21 _ (List.mem_of_getElem? (i := 4) rfl)
theorem zm_845 : (.fieldLink RX13 191 "PolicyHouse$Bundle" "place" "I" : Cond) ∈ zW := zc_21 _ (List.mem_of_getElem? (i := 5) rfl)
theorem zm_846 : (.code yX13_find cX13_find 4 (some .int) : Cond) ∈ zW := zc_21 _ (List.mem_of_getElem? (i := 6) rfl)
theorem zm_847 : (.methodLink RX13 194 yX13_find : Cond) ∈ zW := zc_21 _ (List.mem_of_getElem? (i := 7) rfl)
theorem zm_848 : (.instanceMethod yX13_find : Cond) ∈ zW := zc_21 _ (List.mem_of_getElem? (i := 8) rfl)
theorem zm_849 : (.selects RX13 yX13_find yX13_find : Cond) ∈ zW := zc_21 _ (List.mem_of_getElem? (i := 9) rfl)
theorem zm_850 : (.code yX13_check cX13_check 2 (some .int) : Cond) ∈ zW := zc_21 _ (List.mem_of_getElem? (i := 10) rfl)
theorem zm_851 : (.methodLink RL 38 yX13_check : Cond) ∈ zW := zc_21 _ (List.mem_of_getElem? (i := 11) rfl)
theorem zm_852 : (.instanceMethod yX13_check : Cond) ∈ zW := zc_21 _ (List.mem_of_getElem? (i := 12) rfl)
theorem zm_853 : (.selects RX13 yX13_check yX13_check : Cond) ∈ zW := zc_21 _ (List.mem_of_getElem? (i := 13) rfl)
theorem zm_854 : (.fieldLink RX16 663 "PolicyHouseModel" "faultKind" "I" : Cond) ∈ zW := zc_21 _ (List.mem_of_getElem? (i := 14) rfl)
theorem zm_855 : (.fieldLink RX16 913 "PolicyHouseModel" "orders" "I" : Cond) ∈ zW := zc_21 _ (List.mem_of_getElem? (i := 15) rfl)
theorem zm_856 : (.fieldLink RX16 623 "PolicyHouseModel" "rules" "I" : Cond) ∈ zW := zc_21 _ (List.mem_of_getElem? (i := 16) rfl)
theorem zm_857 : (.code yX16_gatherRules cX16_gatherRules 5 none : Cond) ∈ zW := zc_21 _ (List.mem_of_getElem? (i := 17) rfl)
theorem zm_858 : (.methodLink RX16 2116 yX16_gatherRules : Cond) ∈ zW := zc_21 _ (List.mem_of_getElem? (i := 18) rfl)
theorem zm_859 : (.instanceMethod yX16_gatherRules : Cond) ∈ zW := zc_21 _ (List.mem_of_getElem? (i := 19) rfl)
theorem zm_860 : (.selects RX16 yX16_gatherRules yX16_gatherRules : Cond) ∈ zW := zc_21 _ (List.mem_of_getElem? (i := 20) rfl)
theorem zm_861 : (.code yX16_findClash cX16_findClash 3 none : Cond) ∈ zW := zc_21 _ (List.mem_of_getElem? (i := 21) rfl)
theorem zm_862 : (.methodLink RX16 2119 yX16_findClash : Cond) ∈ zW := zc_21 _ (List.mem_of_getElem? (i := 22) rfl)
theorem zm_863 : (.instanceMethod yX16_findClash : Cond) ∈ zW := zc_21 _ (List.mem_of_getElem? (i := 23) rfl)
theorem zm_864 : (.selects RX16 yX16_findClash yX16_findClash : Cond) ∈ zW := zc_21 _ (List.mem_of_getElem? (i := 24) rfl)
theorem zm_865 : (.code yX16_isFaulty cX16_isFaulty 1 (some .boolean) : Cond) ∈ zW := zc_21 _ (List.mem_of_getElem? (i := 25) rfl)
theorem zm_866 : (.methodLink RX16 666 yX16_isFaulty : Cond) ∈ zW := zc_21 _ (List.mem_of_getElem? (i := 26) rfl)
theorem zm_867 : (.instanceMethod yX16_isFaulty : Cond) ∈ zW := zc_21 _ (List.mem_of_getElem? (i := 27) rfl)
theorem zm_868 : (.selects RX16 yX16_isFaulty yX16_isFaulty : Cond) ∈ zW := zc_21 _ (List.mem_of_getElem? (i := 28) rfl)
theorem zm_869 : (.code yX16_findReads cX16_findReads 4 none : Cond) ∈ zW := zc_21 _ (List.mem_of_getElem? (i := 29) rfl)
theorem zm_870 : (.methodLink RX16 2125 yX16_findReads : Cond) ∈ zW := zc_21 _ (List.mem_of_getElem? (i := 30) rfl)
theorem zm_871 : (.instanceMethod yX16_findReads : Cond) ∈ zW := zc_21 _ (List.mem_of_getElem? (i := 31) rfl)
theorem zm_872 : (.selects RX16 yX16_findReads yX16_findReads : Cond) ∈ zW := zc_21 _ (List.mem_of_getElem? (i := 32) rfl)
theorem zm_873 : (.code yX16_checkReads cX16_checkReads 4 none : Cond) ∈ zW := zc_21 _ (List.mem_of_getElem? (i := 33) rfl)
theorem zm_874 : (.methodLink RX16 2128 yX16_checkReads : Cond) ∈ zW := zc_21 _ (List.mem_of_getElem? (i := 34) rfl)
theorem zm_875 : (.instanceMethod yX16_checkReads : Cond) ∈ zW := zc_21 _ (List.mem_of_getElem? (i := 35) rfl)
theorem zm_876 : (.selects RX16 yX16_checkReads yX16_checkReads : Cond) ∈ zW := zc_21 _ (List.mem_of_getElem? (i := 36) rfl)
theorem zm_877 : (.code yX16_findDepths cX16_findDepths 4 none : Cond) ∈ zW := zc_21 _ (List.mem_of_getElem? (i := 37) rfl)
theorem zm_878 : (.methodLink RX16 2137 yX16_findDepths : Cond) ∈ zW := zc_21 _ (List.mem_of_getElem? (i := 38) rfl)
theorem zm_879 : (.instanceMethod yX16_findDepths : Cond) ∈ zW := zc_21 _ (List.mem_of_getElem? (i := 39) rfl)
theorem zm_880 : (.selects RX16 yX16_findDepths yX16_findDepths : Cond) ∈ zW := zc_22 _ (List.mem_of_getElem? (i := 0) rfl)
theorem zm_881 : (.code yX16_checkBundle cX16_checkBundle 2 none : Cond) ∈ zW := zc_22 _ (List.mem_of_getElem? (i := 1) rfl)
theorem zm_882 : (.methodLink RX16 2092 yX16_checkBundle : Cond) ∈ zW := zc_22 _ (List.mem_of_getElem? (i := 2) rfl)
theorem zm_883 : (.instanceMethod yX16_checkBundle : Cond) ∈ zW := zc_22 _ (List.mem_of_getElem? (i := 3) rfl)
theorem zm_884 : (.selects RX16 yX16_checkBundle yX16_checkBundle : Cond) ∈ zW := zc_22 _ (List.mem_of_getElem? (i := 4) rfl)
theorem zm_885 : (.fieldLink RX16 2095 "PolicyHouseModel" "bundleKind" "I" : Cond) ∈ zW := zc_22 _ (List.mem_of_getElem? (i := 5) rfl)
theorem zm_886 : (.fieldLink RX16 669 "PolicyHouseModel" "faultModule" "I" : Cond) ∈ zW := zc_22 _ (List.mem_of_getElem? (i := 6) rfl)
theorem zm_887 : (.fieldLink RX16 2098 "PolicyHouseModel" "bundleModule" "I" : Cond) ∈ zW := zc_22 _ (List.mem_of_getElem? (i := 7) rfl)
theorem zm_888 : (.fieldLink RX16 672 "PolicyHouseModel" "faultPlace" "I" : Cond) ∈ zW := zc_22 _ (List.mem_of_getElem? (i := 8) rfl)
theorem zm_889 : (.fieldLink RX16 2101 "PolicyHouseModel" "bundlePlace" "I" : Cond) ∈ zW := zc_22 _ (List.mem_of_getElem? (i := 9) rfl)
theorem zm_890 : (.fieldLink RX16 2104 "PolicyHouseModel" "markNodes" "I" : Cond) ∈ zW := zc_22 _ (List.mem_of_getElem? (i := 10) rfl)
theorem zm_891 : (.fieldLink RX16 2107 "PolicyHouseModel" "markConsts" "I" : Cond) ∈ zW := zc_22 _ (List.mem_of_getElem? (i := 11) rfl)
theorem zm_892 : (.fieldLink RX16 2110 "PolicyHouseModel" "markBodies" "I" : Cond) ∈ zW := zc_22 _ (List.mem_of_getElem? (i := 12) rfl)
theorem zm_893 : (.fieldLink RX16 2113 "PolicyHouseModel" "markOrders" "I" : Cond) ∈ zW := zc_22 _ (List.mem_of_getElem? (i := 13) rfl)
theorem zm_894 : (.code yX16_loadBundle cX16_loadBundle 5 none : Cond) ∈ zW := zc_22 _ (List.mem_of_getElem? (i := 14) rfl)
theorem zm_895 : (.methodLink RX16 2155 yX16_loadBundle : Cond) ∈ zW := zc_22 _ (List.mem_of_getElem? (i := 15) rfl)
theorem zm_896 : (.instanceMethod yX16_loadBundle : Cond) ∈ zW := zc_22 _ (List.mem_of_getElem? (i := 16) rfl)
theorem zm_897 : (.selects RX16 yX16_loadBundle yX16_loadBundle : Cond) ∈ zW := zc_22 _ (List.mem_of_getElem? (i := 17) rfl)
theorem zm_898 : (.fieldLink RX16 2170 "PolicyHouseModel" "lastKind" "I" : Cond) ∈ zW := zc_22 _ (List.mem_of_getElem? (i := 18) rfl)
theorem zm_899 : (.code yX16_keepFault cX16_keepFault 1 none : Cond) ∈ zW := zc_22 _ (List.mem_of_getElem? (i := 19) rfl)
theorem zm_900 : (.methodLink RX16 2239 yX16_keepFault : Cond) ∈ zW := zc_22 _ (List.mem_of_getElem? (i := 20) rfl)
theorem zm_901 : (.instanceMethod yX16_keepFault : Cond) ∈ zW := zc_22 _ (List.mem_of_getElem? (i := 21) rfl)
theorem zm_902 : (.selects RX16 yX16_keepFault yX16_keepFault : Cond) ∈ zW := zc_22 _ (List.mem_of_getElem? (i := 22) rfl)
theorem zm_903 : (.code yX16_check cX16_check 1 (some .int) : Cond) ∈ zW := zc_22 _ (List.mem_of_getElem? (i := 23) rfl)
theorem zm_904 : (.methodLink RL 41 yX16_check : Cond) ∈ zW := zc_22 _ (List.mem_of_getElem? (i := 24) rfl)
theorem zm_905 : (.instanceMethod yX16_check : Cond) ∈ zW := zc_22 _ (List.mem_of_getElem? (i := 25) rfl)
theorem zm_906 : (.selects RX16 yX16_check yX16_check : Cond) ∈ zW := zc_22 _ (List.mem_of_getElem? (i := 26) rfl)
theorem zm_907 : (.fieldLink RX13 198 "PolicyHouse$Bundle" "rules" "I" : Cond) ∈ zW := zc_22 _ (List.mem_of_getElem? (i := 27) rfl)
theorem zm_908 : (.code yX13_activate cX13_activate 2 (some .int) : Cond) ∈ zW := zc_22 _ (List.mem_of_getElem? (i := 28) rfl)
theorem zm_909 : (.methodLink RL 42 yX13_activate : Cond) ∈ zW := zc_22 _ (List.mem_of_getElem? (i := 29) rfl)
theorem zm_910 : (.instanceMethod yX13_activate : Cond) ∈ zW := zc_22 _ (List.mem_of_getElem? (i := 30) rfl)
theorem zm_911 : (.selects RX13 yX13_activate yX13_activate : Cond) ∈ zW := zc_22 _ (List.mem_of_getElem? (i := 31) rfl)
theorem zm_912 : (.code yX16_copyBundle cX16_copyBundle 5 none : Cond) ∈ zW := zc_22 _ (List.mem_of_getElem? (i := 32) rfl)
theorem zm_913 : (.methodLink RX16 2242 yX16_copyBundle : Cond) ∈ zW := zc_22 _ (List.mem_of_getElem? (i := 33) rfl)
theorem zm_914 : (.instanceMethod yX16_copyBundle : Cond) ∈ zW := zc_22 _ (List.mem_of_getElem? (i := 34) rfl)
theorem zm_915 : (.selects RX16 yX16_copyBundle yX16_copyBundle : Cond) ∈ zW := zc_22 _ (List.mem_of_getElem? (i := 35) rfl)
theorem zm_916 : (.code yX16_activate cX16_activate 1 (some .int) : Cond) ∈ zW := zc_22 _ (List.mem_of_getElem? (i := 36) rfl)
theorem zm_917 : (.methodLink RL 45 yX16_activate : Cond) ∈ zW := zc_22 _ (List.mem_of_getElem? (i := 37) rfl)
theorem zm_918 : (.instanceMethod yX16_activate : Cond) ∈ zW := zc_22 _ (List.mem_of_getElem? (i := 38) rfl)
theorem zm_919 : (.selects RX16 yX16_activate yX16_activate : Cond) ∈ zW := zc_22 _ (List.mem_of_getElem? (i := 39) rfl)
theorem zm_920 : (.code yX13_fault cX13_fault 2 (some .int) : Cond) ∈ zW := zc_23 _ (List.mem_of_getElem? (i := 0) rfl)
theorem zm_921 : (.methodLink RL 46 yX13_fault : Cond) ∈ zW := zc_23 _ (List.mem_of_getElem? (i := 1) rfl)
theorem zm_922 : (.instanceMethod yX13_fault : Cond) ∈ zW := zc_23 _ (List.mem_of_getElem? (i := 2) rfl)
theorem zm_923 : (.selects RX13 yX13_fault yX13_fault : Cond) ∈ zW := zc_23 _ (List.mem_of_getElem? (i := 3) rfl)
theorem zm_924 : (.code yX16_fault cX16_fault 2 (some .int) : Cond) ∈ zW := zc_23 _ (List.mem_of_getElem? (i := 4) rfl)
theorem zm_925 : (.methodLink RL 50 yX16_fault : Cond) ∈ zW := zc_23 _ (List.mem_of_getElem? (i := 5) rfl)
theorem zm_926 : (.instanceMethod yX16_fault : Cond) ∈ zW := zc_23 _ (List.mem_of_getElem? (i := 6) rfl)
theorem zm_927 : (.selects RX16 yX16_fault yX16_fault : Cond) ∈ zW := zc_23 _ (List.mem_of_getElem? (i := 7) rfl)
theorem zm_928 : (.fieldLink RX13 207 "PolicyHouse$Heap" "top" "I" : Cond) ∈ zW := zc_23 _ (List.mem_of_getElem? (i := 8) rfl)
theorem zm_929 : (.code yX11_skip cX11_skip 1 none : Cond) ∈ zW := zc_23 _ (List.mem_of_getElem? (i := 9) rfl)
theorem zm_930 : (.methodLink RX11 110 yX11_skip : Cond) ∈ zW := zc_23 _ (List.mem_of_getElem? (i := 10) rfl)
theorem zm_931 : (.instanceMethod yX11_skip : Cond) ∈ zW := zc_23 _ (List.mem_of_getElem? (i := 11) rfl)
theorem zm_932 : (.selects RX11 yX11_skip yX11_skip : Cond) ∈ zW := zc_23 _ (List.mem_of_getElem? (i := 12) rfl)
theorem zm_933 : (.code yX11_fail cX11_fail 2 none : Cond) ∈ zW := zc_23 _ (List.mem_of_getElem? (i := 13) rfl)
theorem zm_934 : (.methodLink RX11 119 yX11_fail : Cond) ∈ zW := zc_23 _ (List.mem_of_getElem? (i := 14) rfl)
theorem zm_935 : (.instanceMethod yX11_fail : Cond) ∈ zW := zc_23 _ (List.mem_of_getElem? (i := 15) rfl)
theorem zm_936 : (.selects RX11 yX11_fail yX11_fail : Cond) ∈ zW := zc_23 _ (List.mem_of_getElem? (i := 16) rfl)
theorem zm_937 : (.code yX11_readValue cX11_readValue 4 (some .int) : Cond) ∈ zW := zc_23 _ (List.mem_of_getElem? (i := 17) rfl)
theorem zm_938 : (.methodLink RX11 107 yX11_readValue : Cond) ∈ zW := zc_23 _ (List.mem_of_getElem? (i := 18) rfl)
theorem zm_939 : (.instanceMethod yX11_readValue : Cond) ∈ zW := zc_23 _ (List.mem_of_getElem? (i := 19) rfl)
theorem zm_940 : (.selects RX11 yX11_readValue yX11_readValue : Cond) ∈ zW := zc_23 _ (List.mem_of_getElem? (i := 20) rfl)
theorem zm_941 : (.code yX11_readJson cX11_readJson 5 (some .int) : Cond) ∈ zW := zc_23 _ (List.mem_of_getElem? (i := 21) rfl)
theorem zm_942 : (.methodLink RX13 210 yX11_readJson : Cond) ∈ zW := zc_23 _ (List.mem_of_getElem? (i := 22) rfl)
theorem zm_943 : (.instanceMethod yX11_readJson : Cond) ∈ zW := zc_23 _ (List.mem_of_getElem? (i := 23) rfl)
theorem zm_944 : (.selects RX11 yX11_readJson yX11_readJson : Cond) ∈ zW := zc_23 _ (List.mem_of_getElem? (i := 24) rfl)
theorem zm_945 : (.fieldLink RX13 214 "PolicyHouse$Texts" "wrong" "I" : Cond) ∈ zW := zc_23 _ (List.mem_of_getElem? (i := 25) rfl)
theorem zm_946 : (.code yX13_data cX13_data 3 (some .int) : Cond) ∈ zW := zc_23 _ (List.mem_of_getElem? (i := 26) rfl)
theorem zm_947 : (.methodLink RL 51 yX13_data : Cond) ∈ zW := zc_23 _ (List.mem_of_getElem? (i := 27) rfl)
theorem zm_948 : (.instanceMethod yX13_data : Cond) ∈ zW := zc_23 _ (List.mem_of_getElem? (i := 28) rfl)
theorem zm_949 : (.selects RX13 yX13_data yX13_data : Cond) ∈ zW := zc_23 _ (List.mem_of_getElem? (i := 29) rfl)
theorem zm_950 : (.methodLink RX16 1614 yX15_clear : Cond) ∈ zW := zc_23 _ (List.mem_of_getElem? (i := 30) rfl)
theorem zm_951 : (.fieldLink RX16 80 "PolicyHouseModel" "into" "LPolicyHouseModel$Values;" : Cond) ∈ zW := zc_23 _ (List.mem_of_getElem? (i := 31) rfl)
theorem zm_952 : (.fieldLink RX16 84 "PolicyHouseModel" "json" "[B" : Cond) ∈ zW := zc_23 _ (List.mem_of_getElem? (i := 32) rfl)
theorem zm_953 : (.fieldLink RX16 87 "PolicyHouseModel" "jsonAt" "I" : Cond) ∈ zW := zc_23 _ (List.mem_of_getElem? (i := 33) rfl)
theorem zm_954 : (.fieldLink RX16 90 "PolicyHouseModel" "jsonEnd" "I" : Cond) ∈ zW := zc_23 _ (List.mem_of_getElem? (i := 34) rfl)
theorem zm_955 : (.fieldLink RX16 77 "PolicyHouseModel" "top" "I" : Cond) ∈ zW := zc_23 _ (List.mem_of_getElem? (i := 35) rfl)
theorem zm_956 : (.code yX16_jsonNext cX16_jsonNext 1 (some .int) : Cond) ∈ zW := zc_23 _ (List.mem_of_getElem? (i := 36) rfl)
theorem zm_957 : (.methodLink RX16 100 yX16_jsonNext : Cond) ∈ zW := zc_23 _ (List.mem_of_getElem? (i := 37) rfl)
theorem zm_958 : (.instanceMethod yX16_jsonNext : Cond) ∈ zW := zc_23 _ (List.mem_of_getElem? (i := 38) rfl)
theorem zm_959 : (.selects RX16 yX16_jsonNext yX16_jsonNext : Cond) ∈ zW := zc_23 _ (List.mem_of_getElem? (i := 39) rfl)
theorem zm_960 : (.code yX16_jsonBlanks cX16_jsonBlanks 1 none : Cond) ∈ zW := zc_24 _ (List.mem_of_getElem? (i := 0) rfl)
theorem zm_961 : (.methodLink RX16 96 yX16_jsonBlanks : Cond) ∈ zW := zc_24 _ (List.mem_of_getElem? (i := 1) rfl)
theorem zm_962 : (.instanceMethod yX16_jsonBlanks : Cond) ∈ zW := zc_24 _ (List.mem_of_getElem? (i := 2) rfl)
theorem zm_963 : (.selects RX16 yX16_jsonBlanks yX16_jsonBlanks : Cond) ∈ zW := zc_24 _ (List.mem_of_getElem? (i := 3) rfl)
theorem zm_964 : (.code yX16_isDigit cX16_isDigit 1 (some .boolean) : Cond) ∈ zW := zc_24 _ (List.mem_of_getElem? (i := 4) rfl)
theorem zm_965 : (.methodLink RX16 33 yX16_isDigit : Cond) ∈ zW := zc_24 _ (List.mem_of_getElem? (i := 5) rfl)
theorem zm_966 : (.static yX16_isDigit : Cond) ∈ zW := zc_24 _ (List.mem_of_getElem? (i := 6) rfl)
theorem zm_967 : (.code yX16_wrongAt cX16_wrongAt 2 none : Cond) ∈ zW := zc_24 _ (List.mem_of_getElem? (i := 7) rfl)
theorem zm_968 : (.methodLink RX16 37 yX16_wrongAt : Cond) ∈ zW := zc_24 _ (List.mem_of_getElem? (i := 8) rfl)
theorem zm_969 : (.instanceMethod yX16_wrongAt : Cond) ∈ zW := zc_24 _ (List.mem_of_getElem? (i := 9) rfl)
theorem zm_970 : (.selects RX16 yX16_wrongAt yX16_wrongAt : Cond) ∈ zW := zc_24 _ (List.mem_of_getElem? (i := 10) rfl)
theorem zm_971 : (.code yX16_jsonValue cX16_jsonValue 6 (some .int) : Cond) ∈ zW := zc_24 _ (List.mem_of_getElem? (i := 11) rfl)
theorem zm_972 : (.methodLink RX16 93 yX16_jsonValue : Cond) ∈ zW := zc_24 _ (List.mem_of_getElem? (i := 12) rfl)
theorem zm_973 : (.instanceMethod yX16_jsonValue : Cond) ∈ zW := zc_24 _ (List.mem_of_getElem? (i := 13) rfl)
theorem zm_974 : (.selects RX16 yX16_jsonValue yX16_jsonValue : Cond) ∈ zW := zc_24 _ (List.mem_of_getElem? (i := 14) rfl)
theorem zm_975 : (.code yX16_readJson cX16_readJson 7 (some .int) : Cond) ∈ zW := zc_24 _ (List.mem_of_getElem? (i := 15) rfl)
theorem zm_976 : (.methodLink RX16 1601 yX16_readJson : Cond) ∈ zW := zc_24 _ (List.mem_of_getElem? (i := 16) rfl)
theorem zm_977 : (.instanceMethod yX16_readJson : Cond) ∈ zW := zc_24 _ (List.mem_of_getElem? (i := 17) rfl)
theorem zm_978 : (.selects RX16 yX16_readJson yX16_readJson : Cond) ∈ zW := zc_24 _ (List.mem_of_getElem? (i := 18) rfl)
theorem zm_979 : (.code yX16_data cX16_data 3 (some .int) : Cond) ∈ zW := zc_24 _ (List.mem_of_getElem? (i := 19) rfl)
theorem zm_980 : (.methodLink RL 54 yX16_data : Cond) ∈ zW := zc_24 _ (List.mem_of_getElem? (i := 20) rfl)
theorem zm_981 : (.instanceMethod yX16_data : Cond) ∈ zW := zc_24 _ (List.mem_of_getElem? (i := 21) rfl)
theorem zm_982 : (.selects RX16 yX16_data yX16_data : Cond) ∈ zW := zc_24 _ (List.mem_of_getElem? (i := 22) rfl)
theorem zm_983 : (.code yX13_patch cX13_patch 4 (some .int) : Cond) ∈ zW := zc_24 _ (List.mem_of_getElem? (i := 23) rfl)
theorem zm_984 : (.methodLink RL 55 yX13_patch : Cond) ∈ zW := zc_24 _ (List.mem_of_getElem? (i := 24) rfl)
theorem zm_985 : (.instanceMethod yX13_patch : Cond) ∈ zW := zc_24 _ (List.mem_of_getElem? (i := 25) rfl)
theorem zm_986 : (.selects RX13 yX13_patch yX13_patch : Cond) ∈ zW := zc_24 _ (List.mem_of_getElem? (i := 26) rfl)
theorem zm_987 : (.code yX16_patch cX16_patch 3 (some .int) : Cond) ∈ zW := zc_24 _ (List.mem_of_getElem? (i := 27) rfl)
theorem zm_988 : (.methodLink RL 58 yX16_patch : Cond) ∈ zW := zc_24 _ (List.mem_of_getElem? (i := 28) rfl)
theorem zm_989 : (.instanceMethod yX16_patch : Cond) ∈ zW := zc_24 _ (List.mem_of_getElem? (i := 29) rfl)
theorem zm_990 : (.selects RX16 yX16_patch yX16_patch : Cond) ∈ zW := zc_24 _ (List.mem_of_getElem? (i := 30) rfl)
theorem zm_991 : (.code yX13_input cX13_input 3 (some .int) : Cond) ∈ zW := zc_24 _ (List.mem_of_getElem? (i := 31) rfl)
theorem zm_992 : (.methodLink RL 59 yX13_input : Cond) ∈ zW := zc_24 _ (List.mem_of_getElem? (i := 32) rfl)
theorem zm_993 : (.instanceMethod yX13_input : Cond) ∈ zW := zc_24 _ (List.mem_of_getElem? (i := 33) rfl)
theorem zm_994 : (.selects RX13 yX13_input yX13_input : Cond) ∈ zW := zc_24 _ (List.mem_of_getElem? (i := 34) rfl)
theorem zm_995 : (.code yX16_input cX16_input 3 (some .int) : Cond) ∈ zW := zc_24 _ (List.mem_of_getElem? (i := 35) rfl)
theorem zm_996 : (.methodLink RL 62 yX16_input : Cond) ∈ zW := zc_24 _ (List.mem_of_getElem? (i := 36) rfl)
theorem zm_997 : (.instanceMethod yX16_input : Cond) ∈ zW := zc_24 _ (List.mem_of_getElem? (i := 37) rfl)
theorem zm_998 : (.selects RX16 yX16_input yX16_input : Cond) ∈ zW := zc_24 _ (List.mem_of_getElem? (i := 38) rfl)
theorem zm_999 : (.code yX8_readScalar cX8_readScalar 3 (some .int) : Cond) ∈ zW := zc_24 _ (List.mem_of_getElem? (i := 39) rfl)
theorem zm_1000 : (.methodLink RX8 298 yX8_readScalar : Cond) ∈ zW := zc_25 _ (List.mem_of_getElem? (i := 0) rfl)
theorem zm_1001 : (.instanceMethod yX8_readScalar : Cond) ∈ zW := zc_25 _ (List.mem_of_getElem? (i := 1) rfl)
theorem zm_1002 : (.selects RX8 yX8_readScalar yX8_readScalar : Cond) ∈ zW := zc_25 _ (List.mem_of_getElem? (i := 2) rfl)
theorem zm_1003 : (.code yX8_readTerm cX8_readTerm 2 (some .int) : Cond) ∈ zW := zc_25 _ (List.mem_of_getElem? (i := 3) rfl)
theorem zm_1004 : (.methodLink RX8 253 yX8_readTerm : Cond) ∈ zW := zc_25 _ (List.mem_of_getElem? (i := 4) rfl)
theorem zm_1005 : (.instanceMethod yX8_readTerm : Cond) ∈ zW := zc_25 _ (List.mem_of_getElem? (i := 5) rfl)
theorem zm_1006 : (.selects RX8 yX8_readTerm yX8_readTerm : Cond) ∈ zW := zc_25 _ (List.mem_of_getElem? (i := 6) rfl)
theorem zm_1007 : (.code yX8_readLevel cX8_readLevel 5 none : Cond) ∈ zW := zc_25 _ (List.mem_of_getElem? (i := 7) rfl)
theorem zm_1008 : (.methodLink RX8 283 yX8_readLevel : Cond) ∈ zW := zc_25 _ (List.mem_of_getElem? (i := 8) rfl)
theorem zm_1009 : (.instanceMethod yX8_readLevel : Cond) ∈ zW := zc_25 _ (List.mem_of_getElem? (i := 9) rfl)
theorem zm_1010 : (.selects RX8 yX8_readLevel yX8_readLevel : Cond) ∈ zW := zc_25 _ (List.mem_of_getElem? (i := 10) rfl)
theorem zm_1011 : (.fieldLink RX8 277 "PolicyHouse$Tree" "next" "[I" : Cond) ∈ zW := zc_25 _ (List.mem_of_getElem? (i := 11) rfl)
theorem zm_1012 : (.code yX8_readExpression cX8_readExpression 4 (some .int) : Cond) ∈ zW := zc_25 _ (List.mem_of_getElem? (i := 12) rfl)
theorem zm_1013 : (.methodLink RX8 268 yX8_readExpression : Cond) ∈ zW := zc_25 _ (List.mem_of_getElem? (i := 13) rfl)
theorem zm_1014 : (.instanceMethod yX8_readExpression : Cond) ∈ zW := zc_25 _ (List.mem_of_getElem? (i := 14) rfl)
theorem zm_1015 : (.selects RX8 yX8_readExpression yX8_readExpression : Cond) ∈ zW := zc_25 _ (List.mem_of_getElem? (i := 15) rfl)
theorem zm_1016 : (.fieldLink RX8 271 "PolicyHouse$Tree" "kind" "[I" : Cond) ∈ zW := zc_25 _ (List.mem_of_getElem? (i := 16) rfl)
theorem zm_1017 : (.code yX8_readWiths cX8_readWiths 6 none : Cond) ∈ zW := zc_25 _ (List.mem_of_getElem? (i := 17) rfl)
theorem zm_1018 : (.methodLink RX8 274 yX8_readWiths : Cond) ∈ zW := zc_25 _ (List.mem_of_getElem? (i := 18) rfl)
theorem zm_1019 : (.instanceMethod yX8_readWiths : Cond) ∈ zW := zc_25 _ (List.mem_of_getElem? (i := 19) rfl)
theorem zm_1020 : (.selects RX8 yX8_readWiths yX8_readWiths : Cond) ∈ zW := zc_25 _ (List.mem_of_getElem? (i := 20) rfl)
theorem zm_1021 : (.code yX8_readLiteral cX8_readLiteral 4 (some .int) : Cond) ∈ zW := zc_25 _ (List.mem_of_getElem? (i := 21) rfl)
theorem zm_1022 : (.methodLink RX8 259 yX8_readLiteral : Cond) ∈ zW := zc_25 _ (List.mem_of_getElem? (i := 22) rfl)
theorem zm_1023 : (.instanceMethod yX8_readLiteral : Cond) ∈ zW := zc_25 _ (List.mem_of_getElem? (i := 23) rfl)
theorem zm_1024 : (.selects RX8 yX8_readLiteral yX8_readLiteral : Cond) ∈ zW := zc_25 _ (List.mem_of_getElem? (i := 24) rfl)
theorem zm_1025 : (.code yX8_takes cX8_takes 2 (some .boolean) : Cond) ∈ zW := zc_25 _ (List.mem_of_getElem? (i := 25) rfl)
theorem zm_1026 : (.methodLink RX8 229 yX8_takes : Cond) ∈ zW := zc_25 _ (List.mem_of_getElem? (i := 26) rfl)
theorem zm_1027 : (.instanceMethod yX8_takes : Cond) ∈ zW := zc_25 _ (List.mem_of_getElem? (i := 27) rfl)
theorem zm_1028 : (.selects RX8 yX8_takes yX8_takes : Cond) ∈ zW := zc_25 _ (List.mem_of_getElem? (i := 28) rfl)
theorem zm_1029 : (.code yX8_readLiterals cX8_readLiterals 5 none : Cond) ∈ zW := zc_25 _ (List.mem_of_getElem? (i := 29) rfl)
theorem zm_1030 : (.methodLink RX8 211 yX8_readLiterals : Cond) ∈ zW := zc_25 _ (List.mem_of_getElem? (i := 30) rfl)
theorem zm_1031 : (.instanceMethod yX8_readLiterals : Cond) ∈ zW := zc_25 _ (List.mem_of_getElem? (i := 31) rfl)
theorem zm_1032 : (.selects RX8 yX8_readLiterals yX8_readLiterals : Cond) ∈ zW := zc_25 _ (List.mem_of_getElem? (i := 32) rfl)
theorem zm_1033 : (.code yX8_readQuery cX8_readQuery 3 (some (.object "PolicyHouse$Tree")) : Cond) ∈ zW := zc_25 _ (List.mem_of_getElem? (i := 33) rfl)
theorem zm_1034 : (.methodLink RX13 245 yX8_readQuery : Cond) ∈ zW := zc_25 _ (List.mem_of_getElem? (i := 34) rfl)
theorem zm_1035 : (.instanceMethod yX8_readQuery : Cond) ∈ zW := zc_25 _ (List.mem_of_getElem? (i := 35) rfl)
theorem zm_1036 : (.selects RX8 yX8_readQuery yX8_readQuery : Cond) ∈ zW := zc_25 _ (List.mem_of_getElem? (i := 36) rfl)
theorem zm_1037 : (.code yX13_prepare cX13_prepare 4 (some .int) : Cond) ∈ zW := zc_25 _ (List.mem_of_getElem? (i := 37) rfl)
theorem zm_1038 : (.methodLink RL 63 yX13_prepare : Cond) ∈ zW := zc_25 _ (List.mem_of_getElem? (i := 38) rfl)
theorem zm_1039 : (.instanceMethod yX13_prepare : Cond) ∈ zW := zc_25 _ (List.mem_of_getElem? (i := 39) rfl)
theorem zm_1040 : (.selects RX13 yX13_prepare yX13_prepare : Cond) ∈ zW := zc_26 _ (List.mem_of_getElem? (i := 0) rfl)
theorem zm_1041 : (.fieldLink RX16 376 "PolicyHouseModel" "brackets" "I" : Cond) ∈ zW := zc_26 _ (List.mem_of_getElem? (i := 1) rfl)
theorem zm_1042 : (.code yX16_newBody cX16_newBody 3 (some .int) : Cond) ∈ zW := zc_26 _ (List.mem_of_getElem? (i := 2) rfl)
theorem zm_1043 : (.methodLink RX16 479 yX16_newBody : Cond) ∈ zW := zc_26 _ (List.mem_of_getElem? (i := 3) rfl)
theorem zm_1044 : (.instanceMethod yX16_newBody : Cond) ∈ zW := zc_26 _ (List.mem_of_getElem? (i := 4) rfl)
theorem zm_1045 : (.selects RX16 yX16_newBody yX16_newBody : Cond) ∈ zW := zc_26 _ (List.mem_of_getElem? (i := 5) rfl)
theorem zm_1046 : (.code yX16_isSign cX16_isSign 2 (some .boolean) : Cond) ∈ zW := zc_26 _ (List.mem_of_getElem? (i := 6) rfl)
theorem zm_1047 : (.methodLink RX16 327 yX16_isSign : Cond) ∈ zW := zc_26 _ (List.mem_of_getElem? (i := 7) rfl)
theorem zm_1048 : (.instanceMethod yX16_isSign : Cond) ∈ zW := zc_26 _ (List.mem_of_getElem? (i := 8) rfl)
theorem zm_1049 : (.selects RX16 yX16_isSign yX16_isSign : Cond) ∈ zW := zc_26 _ (List.mem_of_getElem? (i := 9) rfl)
theorem zm_1050 : (.code yX16_term cX16_term 3 (some .int) : Cond) ∈ zW := zc_26 _ (List.mem_of_getElem? (i := 10) rfl)
theorem zm_1051 : (.methodLink RX16 411 yX16_term : Cond) ∈ zW := zc_26 _ (List.mem_of_getElem? (i := 11) rfl)
theorem zm_1052 : (.instanceMethod yX16_term : Cond) ∈ zW := zc_26 _ (List.mem_of_getElem? (i := 12) rfl)
theorem zm_1053 : (.selects RX16 yX16_term yX16_term : Cond) ∈ zW := zc_26 _ (List.mem_of_getElem? (i := 13) rfl)
theorem zm_1054 : (.code yX16_isOf cX16_isOf 2 (some .boolean) : Cond) ∈ zW := zc_26 _ (List.mem_of_getElem? (i := 14) rfl)
theorem zm_1055 : (.methodLink RX16 452 yX16_isOf : Cond) ∈ zW := zc_26 _ (List.mem_of_getElem? (i := 15) rfl)
theorem zm_1056 : (.instanceMethod yX16_isOf : Cond) ∈ zW := zc_26 _ (List.mem_of_getElem? (i := 16) rfl)
theorem zm_1057 : (.selects RX16 yX16_isOf yX16_isOf : Cond) ∈ zW := zc_26 _ (List.mem_of_getElem? (i := 17) rfl)
theorem zm_1058 : (.code yX16_chain cX16_chain 10 (some .int) : Cond) ∈ zW := zc_26 _ (List.mem_of_getElem? (i := 18) rfl)
theorem zm_1059 : (.methodLink RX16 438 yX16_chain : Cond) ∈ zW := zc_26 _ (List.mem_of_getElem? (i := 19) rfl)
theorem zm_1060 : (.instanceMethod yX16_chain : Cond) ∈ zW := zc_26 _ (List.mem_of_getElem? (i := 20) rfl)
theorem zm_1061 : (.selects RX16 yX16_chain yX16_chain : Cond) ∈ zW := zc_26 _ (List.mem_of_getElem? (i := 21) rfl)
theorem zm_1062 : (.code yX16_isComparison cX16_isComparison 1 (some .boolean) : Cond) ∈ zW := zc_26 _ (List.mem_of_getElem? (i := 22) rfl)
theorem zm_1063 : (.methodLink RX16 455 yX16_isComparison : Cond) ∈ zW := zc_26 _ (List.mem_of_getElem? (i := 23) rfl)
theorem zm_1064 : (.instanceMethod yX16_isComparison : Cond) ∈ zW := zc_26 _ (List.mem_of_getElem? (i := 24) rfl)
theorem zm_1065 : (.selects RX16 yX16_isComparison yX16_isComparison : Cond) ∈ zW := zc_26 _ (List.mem_of_getElem? (i := 25) rfl)
theorem zm_1066 : (.code yX16_expression cX16_expression 7 (some .int) : Cond) ∈ zW := zc_26 _ (List.mem_of_getElem? (i := 26) rfl)
theorem zm_1067 : (.methodLink RX16 414 yX16_expression : Cond) ∈ zW := zc_26 _ (List.mem_of_getElem? (i := 27) rfl)
theorem zm_1068 : (.instanceMethod yX16_expression : Cond) ∈ zW := zc_26 _ (List.mem_of_getElem? (i := 28) rfl)
theorem zm_1069 : (.selects RX16 yX16_expression yX16_expression : Cond) ∈ zW := zc_26 _ (List.mem_of_getElem? (i := 29) rfl)
theorem zm_1070 : (.code yX16_node cX16_node 6 (some .int) : Cond) ∈ zW := zc_26 _ (List.mem_of_getElem? (i := 30) rfl)
theorem zm_1071 : (.methodLink RX16 372 yX16_node : Cond) ∈ zW := zc_26 _ (List.mem_of_getElem? (i := 31) rfl)
theorem zm_1072 : (.instanceMethod yX16_node : Cond) ∈ zW := zc_26 _ (List.mem_of_getElem? (i := 32) rfl)
theorem zm_1073 : (.selects RX16 yX16_node yX16_node : Cond) ∈ zW := zc_26 _ (List.mem_of_getElem? (i := 33) rfl)
theorem zm_1074 : (.code yX16_withs cX16_withs 10 none : Cond) ∈ zW := zc_26 _ (List.mem_of_getElem? (i := 34) rfl)
theorem zm_1075 : (.methodLink RX16 494 yX16_withs : Cond) ∈ zW := zc_26 _ (List.mem_of_getElem? (i := 35) rfl)
theorem zm_1076 : (.instanceMethod yX16_withs : Cond) ∈ zW := zc_26 _ (List.mem_of_getElem? (i := 36) rfl)
theorem zm_1077 : (.selects RX16 yX16_withs yX16_withs : Cond) ∈ zW := zc_26 _ (List.mem_of_getElem? (i := 37) rfl)
theorem zm_1078 : (.code yX16_literal cX16_literal 4 (some .int) : Cond) ∈ zW := zc_26 _ (List.mem_of_getElem? (i := 38) rfl)
theorem zm_1079 : (.methodLink RX16 482 yX16_literal : Cond) ∈ zW := zc_26 _ (List.mem_of_getElem? (i := 39) rfl)
theorem zm_1080 : (.instanceMethod yX16_literal : Cond) ∈ zW := zc_27 _ (List.mem_of_getElem? (i := 0) rfl)
theorem zm_1081 : (.selects RX16 yX16_literal yX16_literal : Cond) ∈ zW := zc_27 _ (List.mem_of_getElem? (i := 1) rfl)
theorem zm_1082 : (.code yX16_hang cX16_hang 3 (some .int) : Cond) ∈ zW := zc_27 _ (List.mem_of_getElem? (i := 2) rfl)
theorem zm_1083 : (.methodLink RX16 391 yX16_hang : Cond) ∈ zW := zc_27 _ (List.mem_of_getElem? (i := 3) rfl)
theorem zm_1084 : (.instanceMethod yX16_hang : Cond) ∈ zW := zc_27 _ (List.mem_of_getElem? (i := 4) rfl)
theorem zm_1085 : (.selects RX16 yX16_hang yX16_hang : Cond) ∈ zW := zc_27 _ (List.mem_of_getElem? (i := 5) rfl)
theorem zm_1086 : (.code yX16_literals cX16_literals 6 (some .int) : Cond) ∈ zW := zc_27 _ (List.mem_of_getElem? (i := 6) rfl)
theorem zm_1087 : (.methodLink RX16 444 yX16_literals : Cond) ∈ zW := zc_27 _ (List.mem_of_getElem? (i := 7) rfl)
theorem zm_1088 : (.instanceMethod yX16_literals : Cond) ∈ zW := zc_27 _ (List.mem_of_getElem? (i := 8) rfl)
theorem zm_1089 : (.selects RX16 yX16_literals yX16_literals : Cond) ∈ zW := zc_27 _ (List.mem_of_getElem? (i := 9) rfl)
theorem zm_1090 : (.fieldLink RX16 1274 "PolicyHouseModel" "queryBody" "I" : Cond) ∈ zW := zc_27 _ (List.mem_of_getElem? (i := 10) rfl)
theorem zm_1091 : (.code yX16_readQuery cX16_readQuery 3 none : Cond) ∈ zW := zc_27 _ (List.mem_of_getElem? (i := 11) rfl)
theorem zm_1092 : (.methodLink RX16 2164 yX16_readQuery : Cond) ∈ zW := zc_27 _ (List.mem_of_getElem? (i := 12) rfl)
theorem zm_1093 : (.instanceMethod yX16_readQuery : Cond) ∈ zW := zc_27 _ (List.mem_of_getElem? (i := 13) rfl)
theorem zm_1094 : (.selects RX16 yX16_readQuery yX16_readQuery : Cond) ∈ zW := zc_27 _ (List.mem_of_getElem? (i := 14) rfl)
theorem zm_1095 : (.code yX16_prepare cX16_prepare 4 (some .int) : Cond) ∈ zW := zc_27 _ (List.mem_of_getElem? (i := 15) rfl)
theorem zm_1096 : (.methodLink RL 66 yX16_prepare : Cond) ∈ zW := zc_27 _ (List.mem_of_getElem? (i := 16) rfl)
theorem zm_1097 : (.instanceMethod yX16_prepare : Cond) ∈ zW := zc_27 _ (List.mem_of_getElem? (i := 17) rfl)
theorem zm_1098 : (.selects RX16 yX16_prepare yX16_prepare : Cond) ∈ zW := zc_27 _ (List.mem_of_getElem? (i := 18) rfl)
theorem zm_1099 : (.code yX13_query cX13_query 2 (some (.object "PolicyHouse$Query")) : Cond) ∈ zW := zc_27 _ (List.mem_of_getElem? (i := 19) rfl)
theorem zm_1100 : (.methodLink RX13 291 yX13_query : Cond) ∈ zW := zc_27 _ (List.mem_of_getElem? (i := 20) rfl)
theorem zm_1101 : (.instanceMethod yX13_query : Cond) ∈ zW := zc_27 _ (List.mem_of_getElem? (i := 21) rfl)
theorem zm_1102 : (.selects RX13 yX13_query yX13_query : Cond) ∈ zW := zc_27 _ (List.mem_of_getElem? (i := 22) rfl)
theorem zm_1103 : (.code yX13_renew cX13_renew 4 (some .int) : Cond) ∈ zW := zc_27 _ (List.mem_of_getElem? (i := 23) rfl)
theorem zm_1104 : (.methodLink RL 67 yX13_renew : Cond) ∈ zW := zc_27 _ (List.mem_of_getElem? (i := 24) rfl)
theorem zm_1105 : (.instanceMethod yX13_renew : Cond) ∈ zW := zc_27 _ (List.mem_of_getElem? (i := 25) rfl)
theorem zm_1106 : (.selects RX13 yX13_renew yX13_renew : Cond) ∈ zW := zc_27 _ (List.mem_of_getElem? (i := 26) rfl)
theorem zm_1107 : (.code yX16_isQuery cX16_isQuery 2 (some .boolean) : Cond) ∈ zW := zc_27 _ (List.mem_of_getElem? (i := 27) rfl)
theorem zm_1108 : (.methodLink RX16 2248 yX16_isQuery : Cond) ∈ zW := zc_27 _ (List.mem_of_getElem? (i := 28) rfl)
theorem zm_1109 : (.instanceMethod yX16_isQuery : Cond) ∈ zW := zc_27 _ (List.mem_of_getElem? (i := 29) rfl)
theorem zm_1110 : (.selects RX16 yX16_isQuery yX16_isQuery : Cond) ∈ zW := zc_27 _ (List.mem_of_getElem? (i := 30) rfl)
theorem zm_1111 : (.code yX16_renew cX16_renew 2 (some .int) : Cond) ∈ zW := zc_27 _ (List.mem_of_getElem? (i := 31) rfl)
theorem zm_1112 : (.methodLink RL 70 yX16_renew : Cond) ∈ zW := zc_27 _ (List.mem_of_getElem? (i := 32) rfl)
theorem zm_1113 : (.instanceMethod yX16_renew : Cond) ∈ zW := zc_27 _ (List.mem_of_getElem? (i := 33) rfl)
theorem zm_1114 : (.selects RX16 yX16_renew yX16_renew : Cond) ∈ zW := zc_27 _ (List.mem_of_getElem? (i := 34) rfl)
theorem zm_1115 : (.code yX13_release cX13_release 2 (some .boolean) : Cond) ∈ zW := zc_27 _ (List.mem_of_getElem? (i := 35) rfl)
theorem zm_1116 : (.methodLink RL 71 yX13_release : Cond) ∈ zW := zc_27 _ (List.mem_of_getElem? (i := 36) rfl)
theorem zm_1117 : (.instanceMethod yX13_release : Cond) ∈ zW := zc_27 _ (List.mem_of_getElem? (i := 37) rfl)
theorem zm_1118 : (.selects RX13 yX13_release yX13_release : Cond) ∈ zW := zc_27 _ (List.mem_of_getElem? (i := 38) rfl)
theorem zm_1119 : (.code yX16_release cX16_release 2 (some .boolean) : Cond) ∈ zW := zc_27 _ (List.mem_of_getElem? (i := 39) rfl)
theorem zm_1120 : (.methodLink RL 74 yX16_release : Cond) ∈ zW := zc_28 _ (List.mem_of_getElem? (i := 0) rfl)
theorem zm_1121 : (.instanceMethod yX16_release : Cond) ∈ zW := zc_28 _ (List.mem_of_getElem? (i := 1) rfl)
theorem zm_1122 : (.selects RX16 yX16_release yX16_release : Cond) ∈ zW := zc_28 _ (List.mem_of_getElem? (i := 2) rfl)
theorem zm_1123 : (.code yX13_run cX13_run 5 (some .int) : Cond) ∈ zW := zc_28 _ (List.mem_of_getElem? (i := 3) rfl)
theorem zm_1124 : (.methodLink RL 75 yX13_run : Cond) ∈ zW := zc_28 _ (List.mem_of_getElem? (i := 4) rfl)
theorem zm_1125 : (.instanceMethod yX13_run : Cond) ∈ zW := zc_28 _ (List.mem_of_getElem? (i := 5) rfl)
theorem zm_1126 : (.selects RX13 yX13_run yX13_run : Cond) ∈ zW := zc_28 _ (List.mem_of_getElem? (i := 6) rfl)
theorem zm_1127 : (.codeWith yX16_run cX16_run 6 (some .int) [(35, 90, 93, 962)] : Cond) ∈ zW := zc_28 _ (List.mem_of_getElem? (i := 7) rfl)
theorem zm_1128 : (.methodLink RL 79 yX16_run : Cond) ∈ zW := zc_28 _ (List.mem_of_getElem? (i := 8) rfl)
theorem zm_1129 : (.instanceMethod yX16_run : Cond) ∈ zW := zc_28 _ (List.mem_of_getElem? (i := 9) rfl)
theorem zm_1130 : (.selects RX16 yX16_run yX16_run : Cond) ∈ zW := zc_28 _ (List.mem_of_getElem? (i := 10) rfl)
theorem zm_1131 : (.fieldLink RX13 306 "PolicyHouse$Machine" "bundle" "LPolicyHouse$Bundle;" : Cond) ∈ zW := zc_28 _ (List.mem_of_getElem? (i := 11) rfl)
theorem zm_1132 : (.code yX13_hasRun cX13_hasRun 1 (some .boolean) : Cond) ∈ zW := zc_28 _ (List.mem_of_getElem? (i := 12) rfl)
theorem zm_1133 : (.methodLink RX13 311 yX13_hasRun : Cond) ∈ zW := zc_28 _ (List.mem_of_getElem? (i := 13) rfl)
theorem zm_1134 : (.instanceMethod yX13_hasRun : Cond) ∈ zW := zc_28 _ (List.mem_of_getElem? (i := 14) rfl)
theorem zm_1135 : (.selects RX13 yX13_hasRun yX13_hasRun : Cond) ∈ zW := zc_28 _ (List.mem_of_getElem? (i := 15) rfl)
theorem zm_1136 : (.code yX13_about cX13_about 3 (some .int) : Cond) ∈ zW := zc_28 _ (List.mem_of_getElem? (i := 16) rfl)
theorem zm_1137 : (.methodLink RL 80 yX13_about : Cond) ∈ zW := zc_28 _ (List.mem_of_getElem? (i := 17) rfl)
theorem zm_1138 : (.instanceMethod yX13_about : Cond) ∈ zW := zc_28 _ (List.mem_of_getElem? (i := 18) rfl)
theorem zm_1139 : (.selects RX13 yX13_about yX13_about : Cond) ∈ zW := zc_28 _ (List.mem_of_getElem? (i := 19) rfl)
theorem zm_1140 : (.fieldLink RX16 2263 "PolicyHouseModel" "hasRun" "Z" : Cond) ∈ zW := zc_28 _ (List.mem_of_getElem? (i := 20) rfl)
theorem zm_1141 : (.code yX16_about cX16_about 2 (some .int) : Cond) ∈ zW := zc_28 _ (List.mem_of_getElem? (i := 21) rfl)
theorem zm_1142 : (.methodLink RL 83 yX16_about : Cond) ∈ zW := zc_28 _ (List.mem_of_getElem? (i := 22) rfl)
theorem zm_1143 : (.instanceMethod yX16_about : Cond) ∈ zW := zc_28 _ (List.mem_of_getElem? (i := 23) rfl)
theorem zm_1144 : (.selects RX16 yX16_about yX16_about : Cond) ∈ zW := zc_28 _ (List.mem_of_getElem? (i := 24) rfl)
theorem zm_1145 : (.code yX13_hasRunOut cX13_hasRunOut 1 (some .boolean) : Cond) ∈ zW := zc_28 _ (List.mem_of_getElem? (i := 25) rfl)
theorem zm_1146 : (.methodLink RX13 324 yX13_hasRunOut : Cond) ∈ zW := zc_28 _ (List.mem_of_getElem? (i := 26) rfl)
theorem zm_1147 : (.instanceMethod yX13_hasRunOut : Cond) ∈ zW := zc_28 _ (List.mem_of_getElem? (i := 27) rfl)
theorem zm_1148 : (.selects RX13 yX13_hasRunOut yX13_hasRunOut : Cond) ∈ zW := zc_28 _ (List.mem_of_getElem? (i := 28) rfl)
theorem zm_1149 : (.code yX13_covered cX13_covered 2 (some .int) : Cond) ∈ zW := zc_28 _ (List.mem_of_getElem? (i := 29) rfl)
theorem zm_1150 : (.methodLink RL 84 yX13_covered : Cond) ∈ zW := zc_28 _ (List.mem_of_getElem? (i := 30) rfl)
theorem zm_1151 : (.instanceMethod yX13_covered : Cond) ∈ zW := zc_28 _ (List.mem_of_getElem? (i := 31) rfl)
theorem zm_1152 : (.selects RX13 yX13_covered yX13_covered : Cond) ∈ zW := zc_28 _ (List.mem_of_getElem? (i := 32) rfl)
theorem zm_1153 : (.code yX16_covered cX16_covered 2 (some .int) : Cond) ∈ zW := zc_28 _ (List.mem_of_getElem? (i := 33) rfl)
theorem zm_1154 : (.methodLink RL 87 yX16_covered : Cond) ∈ zW := zc_28 _ (List.mem_of_getElem? (i := 34) rfl)
theorem zm_1155 : (.instanceMethod yX16_covered : Cond) ∈ zW := zc_28 _ (List.mem_of_getElem? (i := 35) rfl)
theorem zm_1156 : (.selects RX16 yX16_covered yX16_covered : Cond) ∈ zW := zc_28 _ (List.mem_of_getElem? (i := 36) rfl)
theorem zm_1157 : (.code yX13_result cX13_result 3 (some .int) : Cond) ∈ zW := zc_28 _ (List.mem_of_getElem? (i := 37) rfl)
theorem zm_1158 : (.methodLink RL 88 yX13_result : Cond) ∈ zW := zc_28 _ (List.mem_of_getElem? (i := 38) rfl)
theorem zm_1159 : (.instanceMethod yX13_result : Cond) ∈ zW := zc_28 _ (List.mem_of_getElem? (i := 39) rfl)
theorem zm_1160 : (.selects RX13 yX13_result yX13_result : Cond) ∈ zW := zc_29 _ (List.mem_of_getElem? (i := 0) rfl)
theorem zm_1161 : (.code yX16_result cX16_result 3 (some .int) : Cond) ∈ zW := zc_29 _ (List.mem_of_getElem? (i := 1) rfl)
theorem zm_1162 : (.methodLink RL 91 yX16_result : Cond) ∈ zW := zc_29 _ (List.mem_of_getElem? (i := 2) rfl)
theorem zm_1163 : (.instanceMethod yX16_result : Cond) ∈ zW := zc_29 _ (List.mem_of_getElem? (i := 3) rfl)
theorem zm_1164 : (.selects RX16 yX16_result yX16_result : Cond) ∈ zW := zc_29 _ (List.mem_of_getElem? (i := 4) rfl)
theorem zm_1165 : (.code yX13_document cX13_document 3 (some .int) : Cond) ∈ zW := zc_29 _ (List.mem_of_getElem? (i := 5) rfl)
theorem zm_1166 : (.methodLink RL 92 yX13_document : Cond) ∈ zW := zc_29 _ (List.mem_of_getElem? (i := 6) rfl)
theorem zm_1167 : (.instanceMethod yX13_document : Cond) ∈ zW := zc_29 _ (List.mem_of_getElem? (i := 7) rfl)
theorem zm_1168 : (.selects RX13 yX13_document yX13_document : Cond) ∈ zW := zc_29 _ (List.mem_of_getElem? (i := 8) rfl)
theorem zm_1169 : (.code yX16_document cX16_document 2 (some .int) : Cond) ∈ zW := zc_29 _ (List.mem_of_getElem? (i := 9) rfl)
theorem zm_1170 : (.methodLink RL 95 yX16_document : Cond) ∈ zW := zc_29 _ (List.mem_of_getElem? (i := 10) rfl)
theorem zm_1171 : (.instanceMethod yX16_document : Cond) ∈ zW := zc_29 _ (List.mem_of_getElem? (i := 11) rfl)
theorem zm_1172 : (.selects RX16 yX16_document yX16_document : Cond) ∈ zW := zc_29 _ (List.mem_of_getElem? (i := 12) rfl)
theorem zm_1173 : (.code yX13_output cX13_output 2 (some .int) : Cond) ∈ zW := zc_29 _ (List.mem_of_getElem? (i := 13) rfl)
theorem zm_1174 : (.methodLink RL 96 yX13_output : Cond) ∈ zW := zc_29 _ (List.mem_of_getElem? (i := 14) rfl)
theorem zm_1175 : (.instanceMethod yX13_output : Cond) ∈ zW := zc_29 _ (List.mem_of_getElem? (i := 15) rfl)
theorem zm_1176 : (.selects RX13 yX13_output yX13_output : Cond) ∈ zW := zc_29 _ (List.mem_of_getElem? (i := 16) rfl)
theorem zm_1177 : (.fieldLink RX16 2278 "PolicyHouseModel" "outputSize" "I" : Cond) ∈ zW := zc_29 _ (List.mem_of_getElem? (i := 17) rfl)
theorem zm_1178 : (.code yX16_output cX16_output 2 (some .int) : Cond) ∈ zW := zc_29 _ (List.mem_of_getElem? (i := 18) rfl)
theorem zm_1179 : (.methodLink RL 99 yX16_output : Cond) ∈ zW := zc_29 _ (List.mem_of_getElem? (i := 19) rfl)
theorem zm_1180 : (.instanceMethod yX16_output : Cond) ∈ zW := zc_29 _ (List.mem_of_getElem? (i := 20) rfl)
theorem zm_1181 : (.selects RX16 yX16_output yX16_output : Cond) ∈ zW := zc_29 _ (List.mem_of_getElem? (i := 21) rfl)
theorem zm_1182 : (.classLink RX13 367 "java/util/NoSuchElementException" : Cond) ∈ zW := zc_29 _ (List.mem_of_getElem? (i := 22) rfl)
theorem zm_1183 : (.initialized "java/util/NoSuchElementException" : Cond) ∈ zW := zc_29 _ (List.mem_of_getElem? (i := 23) rfl)
theorem zm_1184 : (.code yX13_rule cX13_rule 5 (some .int) : Cond) ∈ zW := zc_29 _ (List.mem_of_getElem? (i := 24) rfl)
theorem zm_1185 : (.methodLink RL 7 yX13_rule : Cond) ∈ zW := zc_29 _ (List.mem_of_getElem? (i := 25) rfl)
theorem zm_1186 : (.instanceMethod yX13_rule : Cond) ∈ zW := zc_29 _ (List.mem_of_getElem? (i := 26) rfl)
theorem zm_1187 : (.selects RX13 yX13_rule yX13_rule : Cond) ∈ zW := zc_29 _ (List.mem_of_getElem? (i := 27) rfl)
theorem zm_1188 : (.classLink RL 13 "java/util/NoSuchElementException" : Cond) ∈ zW := zc_29 _ (List.mem_of_getElem? (i := 28) rfl)
theorem zm_1189 : (.codeWith yL_rule cL_rule 5 (some .int) [(0, 10, 13, 13)] : Cond) ∈ zW := zc_29 _ (List.mem_of_getElem? (i := 29) rfl)
theorem zm_1190 : (.methodLink RL 100 yL_rule : Cond) ∈ zW := zc_29 _ (List.mem_of_getElem? (i := 30) rfl)
theorem zm_1191 : (.static yL_rule : Cond) ∈ zW := zc_29 _ (List.mem_of_getElem? (i := 31) rfl)
theorem zm_1192 : (.initialized RL : Cond) ∈ zW := zc_29 _ (List.mem_of_getElem? (i := 32) rfl)
theorem zm_1193 : (.code yX16_rule cX16_rule 5 (some .int) : Cond) ∈ zW := zc_29 _ (List.mem_of_getElem? (i := 33) rfl)
theorem zm_1194 : (.methodLink RL 105 yX16_rule : Cond) ∈ zW := zc_29 _ (List.mem_of_getElem? (i := 34) rfl)
theorem zm_1195 : (.instanceMethod yX16_rule : Cond) ∈ zW := zc_29 _ (List.mem_of_getElem? (i := 35) rfl)
theorem zm_1196 : (.selects RX16 yX16_rule yX16_rule : Cond) ∈ zW := zc_29 _ (List.mem_of_getElem? (i := 36) rfl)
theorem zm_1197 : (.code yX16_thrown cX16_thrown 1 (some .int) : Cond) ∈ zW := zc_29 _ (List.mem_of_getElem? (i := 37) rfl)
theorem zm_1198 : (.methodLink RL 106 yX16_thrown : Cond) ∈ zW := zc_29 _ (List.mem_of_getElem? (i := 38) rfl)
theorem zm_1199 : (.instanceMethod yX16_thrown : Cond) ∈ zW := zc_29 _ (List.mem_of_getElem? (i := 39) rfl)
theorem zm_1200 : (.selects RX16 yX16_thrown yX16_thrown : Cond) ∈ zW := zc_30 _ (List.mem_of_getElem? (i := 0) rfl)
theorem zm_1201 : (.code yX13_order cX13_order 4 (some .int) : Cond) ∈ zW := zc_30 _ (List.mem_of_getElem? (i := 1) rfl)
theorem zm_1202 : (.methodLink RL 109 yX13_order : Cond) ∈ zW := zc_30 _ (List.mem_of_getElem? (i := 2) rfl)
theorem zm_1203 : (.instanceMethod yX13_order : Cond) ∈ zW := zc_30 _ (List.mem_of_getElem? (i := 3) rfl)
theorem zm_1204 : (.selects RX13 yX13_order yX13_order : Cond) ∈ zW := zc_30 _ (List.mem_of_getElem? (i := 4) rfl)
theorem zm_1205 : (.code yX16_order cX16_order 5 (some .int) : Cond) ∈ zW := zc_30 _ (List.mem_of_getElem? (i := 5) rfl)
theorem zm_1206 : (.methodLink RL 112 yX16_order : Cond) ∈ zW := zc_30 _ (List.mem_of_getElem? (i := 6) rfl)
theorem zm_1207 : (.instanceMethod yX16_order : Cond) ∈ zW := zc_30 _ (List.mem_of_getElem? (i := 7) rfl)
theorem zm_1208 : (.selects RX16 yX16_order yX16_order : Cond) ∈ zW := zc_30 _ (List.mem_of_getElem? (i := 8) rfl)
theorem zm_1209 : (.code yX4_weight cX4_weight 3 (some .int) : Cond) ∈ zW := zc_30 _ (List.mem_of_getElem? (i := 9) rfl)
theorem zm_1210 : (.methodLink RX13 228 yX4_weight : Cond) ∈ zW := zc_30 _ (List.mem_of_getElem? (i := 10) rfl)
theorem zm_1211 : (.instanceMethod yX4_weight : Cond) ∈ zW := zc_30 _ (List.mem_of_getElem? (i := 11) rfl)
theorem zm_1212 : (.selects RX4 yX4_weight yX4_weight : Cond) ∈ zW := zc_30 _ (List.mem_of_getElem? (i := 12) rfl)
theorem zm_1213 : (.code yX13_count cX13_count 4 (some .int) : Cond) ∈ zW := zc_30 _ (List.mem_of_getElem? (i := 13) rfl)
theorem zm_1214 : (.methodLink RL 113 yX13_count : Cond) ∈ zW := zc_30 _ (List.mem_of_getElem? (i := 14) rfl)
theorem zm_1215 : (.instanceMethod yX13_count : Cond) ∈ zW := zc_30 _ (List.mem_of_getElem? (i := 15) rfl)
theorem zm_1216 : (.selects RX13 yX13_count yX13_count : Cond) ∈ zW := zc_30 _ (List.mem_of_getElem? (i := 16) rfl)
theorem zm_1217 : (.constantLong RX15 61 (7) : Cond) ∈ zW := zc_30 _ (List.mem_of_getElem? (i := 17) rfl)
theorem zm_1218 : (.code yX15_kind cX15_kind 2 (some .int) : Cond) ∈ zW := zc_30 _ (List.mem_of_getElem? (i := 18) rfl)
theorem zm_1219 : (.methodLink RX15 65 yX15_kind : Cond) ∈ zW := zc_30 _ (List.mem_of_getElem? (i := 19) rfl)
theorem zm_1220 : (.instanceMethod yX15_kind : Cond) ∈ zW := zc_30 _ (List.mem_of_getElem? (i := 20) rfl)
theorem zm_1221 : (.selects RX15 yX15_kind yX15_kind : Cond) ∈ zW := zc_30 _ (List.mem_of_getElem? (i := 21) rfl)
theorem zm_1222 : (.constantLong RX15 69 (1048575) : Cond) ∈ zW := zc_30 _ (List.mem_of_getElem? (i := 22) rfl)
theorem zm_1223 : (.code yX15_weight cX15_weight 2 (some .int) : Cond) ∈ zW := zc_30 _ (List.mem_of_getElem? (i := 23) rfl)
theorem zm_1224 : (.methodLink RX16 991 yX15_weight : Cond) ∈ zW := zc_30 _ (List.mem_of_getElem? (i := 24) rfl)
theorem zm_1225 : (.instanceMethod yX15_weight : Cond) ∈ zW := zc_30 _ (List.mem_of_getElem? (i := 25) rfl)
theorem zm_1226 : (.selects RX15 yX15_weight yX15_weight : Cond) ∈ zW := zc_30 _ (List.mem_of_getElem? (i := 26) rfl)
theorem zm_1227 : (.code yX16_count cX16_count 4 (some .int) : Cond) ∈ zW := zc_30 _ (List.mem_of_getElem? (i := 27) rfl)
theorem zm_1228 : (.methodLink RL 116 yX16_count : Cond) ∈ zW := zc_30 _ (List.mem_of_getElem? (i := 28) rfl)
theorem zm_1229 : (.instanceMethod yX16_count : Cond) ∈ zW := zc_30 _ (List.mem_of_getElem? (i := 29) rfl)
theorem zm_1230 : (.selects RX16 yX16_count yX16_count : Cond) ∈ zW := zc_30 _ (List.mem_of_getElem? (i := 30) rfl)
theorem zm_1231 : (.instantiable RX7 7 : Cond) ∈ zW := zc_30 _ (List.mem_of_getElem? (i := 31) rfl)
theorem zm_1232 : (.instantiable RX14 6 : Cond) ∈ zW := zc_30 _ (List.mem_of_getElem? (i := 32) rfl)
abbrev zwJ0_coder_7d493 : List Cond := .code yJ0_coder_7d493 cJ0_coder_7d493 1 (some .byte) :: zW
abbrev zwJ0_isLatin1_aae02 : List Cond := .code yJ0_isLatin1_aae02 cJ0_isLatin1_aae02 1 (some .boolean) :: zW
abbrev zwJ0_length_8abf5 : List Cond := .code yJ0_length_8abf5 cJ0_length_8abf5 1 (some .int) :: zW
abbrev zwJ3_checkIndex_8e157 : List Cond := .code yJ3_checkIndex_8e157 cJ3_checkIndex_8e157 3 (some .int) :: zW
abbrev zwJ0_checkIndex_df160 : List Cond := .code yJ0_checkIndex_df160 cJ0_checkIndex_df160 2 none :: zW
abbrev zwJ1_charAt_3b067 : List Cond := .code yJ1_charAt_3b067 cJ1_charAt_3b067 2 (some .char) :: zW
abbrev zwJ0_charAt_5068e : List Cond := .code yJ0_charAt_5068e cJ0_charAt_5068e 2 (some .char) :: zW
abbrev zwX6_stopOf : List Cond := .code yX6_stopOf cX6_stopOf 3 (some .int) :: zW
abbrev zwX6_same : List Cond := .code yX6_same cX6_same 6 (some .boolean) :: zW
abbrev zwX4_keepString : List Cond := .code yX4_keepString cX4_keepString 5 (some .int) :: zW
abbrev zwX6_sym : List Cond := .code yX6_sym cX6_sym 8 (some .int) :: zW
abbrev zwX6_symOf : List Cond := .code yX6_symOf cX6_symOf 6 (some .int) :: zW
abbrev zwX6_find : List Cond := .code yX6_find cX6_find 4 (some .int) :: zW
abbrev zwX6_node : List Cond := .code yX6_node cX6_node 4 (some .int) :: zW
abbrev zwX6_nodeOf : List Cond := .code yX6_nodeOf cX6_nodeOf 7 (some .int) :: zW
abbrev zwX6_init : List Cond := .code yX6_init cX6_init 6 none :: zW
abbrev zwX0_init : List Cond := .code yX0_init cX0_init 9 none :: zW
abbrev zwX4_empty : List Cond := .code yX4_empty cX4_empty 1 (some .int) :: zW
abbrev zwX4_init : List Cond := .code yX4_init cX4_init 2 none :: zW
abbrev zwX11_init : List Cond := .code yX11_init cX11_init 2 none :: zW
abbrev zwX8_init : List Cond := .code yX8_init cX8_init 4 none :: zW
abbrev zwX2_init : List Cond := .code yX2_init cX2_init 3 none :: zW
abbrev zwX3_init : List Cond := .code yX3_init cX3_init 4 none :: zW
abbrev zwX9_init : List Cond := .code yX9_init cX9_init 3 none :: zW
abbrev zwX10_init : List Cond := .code yX10_init cX10_init 4 none :: zW
abbrev zwX5_init : List Cond := .code yX5_init cX5_init 4 none :: zW
abbrev zwX4_made : List Cond := .code yX4_made cX4_made 11 (some .int) :: zW
abbrev zwX4_kind : List Cond := .code yX4_kind cX4_kind 2 (some .int) :: zW
abbrev zwX4_size : List Cond := .code yX4_size cX4_size 2 (some .int) :: zW
abbrev zwX4_room : List Cond := .code yX4_room cX4_room 3 (some .int) :: zW
abbrev zwX4_copy : List Cond := .code yX4_copy cX4_copy 7 (some .int) :: zW
abbrev zwX4_copyTo : List Cond := .code yX4_copyTo cX4_copyTo 5 (some .int) :: zW
abbrev zwX4_reset : List Cond := .code yX4_reset cX4_reset 2 none :: zW
abbrev zwX1_init : List Cond := .code yX1_init cX1_init 6 none :: zW
abbrev zwX2_gather : List Cond := .code yX2_gather cX2_gather 4 none :: zW
abbrev zwX2_findClash : List Cond := .code yX2_findClash cX2_findClash 5 none :: zW
abbrev zwX2_findReads : List Cond := .code yX2_findReads cX2_findReads 4 none :: zW
abbrev zwX2_findDepth : List Cond := .code yX2_findDepth cX2_findDepth 5 none :: zW
abbrev zwX2_bundle : List Cond := .code yX2_bundle cX2_bundle 4 (some (.object "PolicyHouse$Bundle")) :: zW
abbrev zwX3_finish : List Cond := .code yX3_finish cX3_finish 6 none :: zW
abbrev zwJ7_copyOf_59c91 : List Cond := .code yJ7_copyOf_59c91 cJ7_copyOf_59c91 3 (some (.array .int)) :: zW
abbrev zwX3_encode : List Cond := .code yX3_encode cX3_encode 9 none :: zW
abbrev zwX13_bundleOfDraft : List Cond := .code yX13_bundleOfDraft cX13_bundleOfDraft 2 (some (.object "PolicyHouse$Bundle")) :: zW
abbrev zwX13_init : List Cond := .code yX13_init cX13_init 2 none :: zW
abbrev zwX13_put : List Cond := .code yX13_put cX13_put 3 none :: zW
abbrev zwX13_feed : List Cond := .code yX13_feed cX13_feed 6 (some .boolean) :: zW
abbrev zwX13_end : List Cond := .code yX13_end cX13_end 2 (some .boolean) :: zW
abbrev zwX13_emptied : List Cond := .code yX13_emptied cX13_emptied 2 (some .int) :: zW
abbrev zwX8_behindBlanks : List Cond := .code yX8_behindBlanks cX8_behindBlanks 6 (some .int) :: zW
abbrev zwX8_split : List Cond := .code yX8_split cX8_split 5 none :: zW
abbrev zwX12_init : List Cond := .code yX12_init cX12_init 2 none :: zW
abbrev zwX8_is : List Cond := .code yX8_is cX8_is 2 (some .boolean) :: zW
abbrev zwX8_fail : List Cond := .code yX8_fail cX8_fail 1 none :: zW
abbrev zwX8_need : List Cond := .code yX8_need cX8_need 2 none :: zW
abbrev zwX12_add : List Cond := .code yX12_add cX12_add 4 (some .int) :: zW
abbrev zwX8_node : List Cond := .code yX8_node cX8_node 2 (some .int) :: zW
abbrev zwX8_take : List Cond := .code yX8_take cX8_take 1 none :: zW
abbrev zwX8_plainName : List Cond := .code yX8_plainName cX8_plainName 2 (some .int) :: zW
abbrev zwX12_append : List Cond := .code yX12_append cX12_append 3 none :: zW
abbrev zwX8_path : List Cond := .code yX8_path cX8_path 6 (some .int) :: zW
abbrev zwX8_readModule : List Cond := .code yX8_readModule cX8_readModule 5 (some (.object "PolicyHouse$Tree")) :: zW
abbrev zwX13_module : List Cond := .code yX13_module cX13_module 2 (some .int) :: zW
abbrev zwX13_drop : List Cond := .code yX13_drop cX13_drop 2 (some .int) :: zW
abbrev zwX13_find : List Cond := .code yX13_find cX13_find 4 (some .int) :: zW
abbrev zwX13_check : List Cond := .code yX13_check cX13_check 2 (some .int) :: zW
abbrev zwX13_activate : List Cond := .code yX13_activate cX13_activate 2 (some .int) :: zW
abbrev zwX13_fault : List Cond := .code yX13_fault cX13_fault 2 (some .int) :: zW
abbrev zwX11_skip : List Cond := .code yX11_skip cX11_skip 1 none :: zW
abbrev zwX11_fail : List Cond := .code yX11_fail cX11_fail 2 none :: zW
abbrev zwX11_readValue : List Cond := .code yX11_readValue cX11_readValue 4 (some .int) :: zW
abbrev zwX11_readJson : List Cond := .code yX11_readJson cX11_readJson 5 (some .int) :: zW
abbrev zwX13_data : List Cond := .code yX13_data cX13_data 3 (some .int) :: zW
abbrev zwX13_patch : List Cond := .code yX13_patch cX13_patch 4 (some .int) :: zW
abbrev zwX13_input : List Cond := .code yX13_input cX13_input 3 (some .int) :: zW
abbrev zwX8_readScalar : List Cond := .code yX8_readScalar cX8_readScalar 3 (some .int) :: zW
abbrev zwX8_readTerm : List Cond := .code yX8_readTerm cX8_readTerm 2 (some .int) :: zW
abbrev zwX8_readLevel : List Cond := .code yX8_readLevel cX8_readLevel 5 none :: zW
abbrev zwX8_readExpression : List Cond := .code yX8_readExpression cX8_readExpression 4 (some .int) :: zW
abbrev zwX8_readWiths : List Cond := .code yX8_readWiths cX8_readWiths 6 none :: zW
abbrev zwX8_readLiteral : List Cond := .code yX8_readLiteral cX8_readLiteral 4 (some .int) :: zW
abbrev zwX8_takes : List Cond := .code yX8_takes cX8_takes 2 (some .boolean) :: zW
abbrev zwX8_readLiterals : List Cond := .code yX8_readLiterals cX8_readLiterals 5 none :: zW
abbrev zwX8_readQuery : List Cond := .code yX8_readQuery cX8_readQuery 3 (some (.object "PolicyHouse$Tree")) :: zW
abbrev zwX13_prepare : List Cond := .code yX13_prepare cX13_prepare 4 (some .int) :: zW
abbrev zwX13_query : List Cond := .code yX13_query cX13_query 2 (some (.object "PolicyHouse$Query")) :: zW
abbrev zwX13_renew : List Cond := .code yX13_renew cX13_renew 4 (some .int) :: zW
abbrev zwX13_release : List Cond := .code yX13_release cX13_release 2 (some .boolean) :: zW
abbrev zwX13_run : List Cond := .code yX13_run cX13_run 5 (some .int) :: zW
abbrev zwX13_hasRun : List Cond := .code yX13_hasRun cX13_hasRun 1 (some .boolean) :: zW
abbrev zwX13_about : List Cond := .code yX13_about cX13_about 3 (some .int) :: zW
abbrev zwX13_hasRunOut : List Cond := .code yX13_hasRunOut cX13_hasRunOut 1 (some .boolean) :: zW
abbrev zwX13_covered : List Cond := .code yX13_covered cX13_covered 2 (some .int) :: zW
abbrev zwX13_result : List Cond := .code yX13_result cX13_result 3 (some .int) :: zW
abbrev zwX13_document : List Cond := .code yX13_document cX13_document 3 (some .int) :: zW
abbrev zwX13_output : List Cond := .code yX13_output cX13_output 2 (some .int) :: zW
abbrev zwX13_rule : List Cond := .code yX13_rule cX13_rule 5 (some .int) :: zW
abbrev zwL_rule : List Cond := .codeWith yL_rule cL_rule 5 (some .int) [(0, 10, 13, 13)] :: zW
abbrev zwX13_order : List Cond := .code yX13_order cX13_order 4 (some .int) :: zW
abbrev zwX4_weight : List Cond := .code yX4_weight cX4_weight 3 (some .int) :: zW
abbrev zwX13_count : List Cond := .code yX13_count cX13_count 4 (some .int) :: zW
abbrev zwX15_node : List Cond := .code yX15_node cX15_node 6 (some .int) :: zW
abbrev zwX15_clear : List Cond := .code yX15_clear cX15_clear 2 none :: zW
abbrev zwX15_init : List Cond := .code yX15_init cX15_init 5 none :: zW
abbrev zwX15_sort : List Cond := .code yX15_sort cX15_sort 7 none :: zW
abbrev zwX15_parted : List Cond := .code yX15_parted cX15_parted 10 (some .int) :: zW
abbrev zwX15_object : List Cond := .code yX15_object cX15_object 8 (some .int) :: zW
abbrev zwX16_init : List Cond := .code yX16_init cX16_init 1 none :: zW
abbrev zwX16_feed : List Cond := .code yX16_feed cX16_feed 8 (some .boolean) :: zW
abbrev zwX16_end : List Cond := .code yX16_end cX16_end 2 (some .boolean) :: zW
abbrev zwX16_take : List Cond := .code yX16_take cX16_take 2 (some .int) :: zW
abbrev zwX16_name : List Cond := .code yX16_name cX16_name 6 (some .int) :: zW
abbrev zwX16_nameOf : List Cond := .code yX16_nameOf cX16_nameOf 3 (some .int) :: zW
abbrev zwX16_clearTrees : List Cond := .code yX16_clearTrees cX16_clearTrees 2 none :: zW
abbrev zwX16_see : List Cond := .code yX16_see cX16_see 3 (some .int) :: zW
abbrev zwX16_lex : List Cond := .code yX16_lex cX16_lex 3 none :: zW
abbrev zwX16_begin : List Cond := .code yX16_begin cX16_begin 3 none :: zW
abbrev zwX16_bad : List Cond := .code yX16_bad cX16_bad 1 (some .boolean) :: zW
abbrev zwX16_isKey : List Cond := .code yX16_isKey cX16_isKey 2 (some .boolean) :: zW
abbrev zwX16_fail : List Cond := .code yX16_fail cX16_fail 2 none :: zW
abbrev zwX16_needKey : List Cond := .code yX16_needKey cX16_needKey 2 none :: zW
abbrev zwX16_isName : List Cond := .code yX16_isName cX16_isName 1 (some .boolean) :: zW
abbrev zwX16_path : List Cond := .code yX16_path cX16_path 4 (some .int) :: zW
abbrev zwX16_readModule : List Cond := .code yX16_readModule cX16_readModule 5 (some .int) :: zW
abbrev zwX16_module : List Cond := .code yX16_module cX16_module 5 (some .int) :: zW
abbrev zwX16_drop : List Cond := .code yX16_drop cX16_drop 2 (some .int) :: zW
abbrev zwX16_gatherRules : List Cond := .code yX16_gatherRules cX16_gatherRules 5 none :: zW
abbrev zwX16_findClash : List Cond := .code yX16_findClash cX16_findClash 3 none :: zW
abbrev zwX16_isFaulty : List Cond := .code yX16_isFaulty cX16_isFaulty 1 (some .boolean) :: zW
abbrev zwX16_findReads : List Cond := .code yX16_findReads cX16_findReads 4 none :: zW
abbrev zwX16_checkReads : List Cond := .code yX16_checkReads cX16_checkReads 4 none :: zW
abbrev zwX16_findDepths : List Cond := .code yX16_findDepths cX16_findDepths 4 none :: zW
abbrev zwX16_checkBundle : List Cond := .code yX16_checkBundle cX16_checkBundle 2 none :: zW
abbrev zwX16_loadBundle : List Cond := .code yX16_loadBundle cX16_loadBundle 5 none :: zW
abbrev zwX16_keepFault : List Cond := .code yX16_keepFault cX16_keepFault 1 none :: zW
abbrev zwX16_check : List Cond := .code yX16_check cX16_check 1 (some .int) :: zW
abbrev zwX16_copyBundle : List Cond := .code yX16_copyBundle cX16_copyBundle 5 none :: zW
abbrev zwX16_activate : List Cond := .code yX16_activate cX16_activate 1 (some .int) :: zW
abbrev zwX16_fault : List Cond := .code yX16_fault cX16_fault 2 (some .int) :: zW
abbrev zwX16_jsonNext : List Cond := .code yX16_jsonNext cX16_jsonNext 1 (some .int) :: zW
abbrev zwX16_jsonBlanks : List Cond := .code yX16_jsonBlanks cX16_jsonBlanks 1 none :: zW
abbrev zwX16_isDigit : List Cond := .code yX16_isDigit cX16_isDigit 1 (some .boolean) :: zW
abbrev zwX16_wrongAt : List Cond := .code yX16_wrongAt cX16_wrongAt 2 none :: zW
abbrev zwX16_jsonValue : List Cond := .code yX16_jsonValue cX16_jsonValue 6 (some .int) :: zW
abbrev zwX16_readJson : List Cond := .code yX16_readJson cX16_readJson 7 (some .int) :: zW
abbrev zwX16_data : List Cond := .code yX16_data cX16_data 3 (some .int) :: zW
abbrev zwX16_patch : List Cond := .code yX16_patch cX16_patch 3 (some .int) :: zW
abbrev zwX16_input : List Cond := .code yX16_input cX16_input 3 (some .int) :: zW
abbrev zwX16_newBody : List Cond := .code yX16_newBody cX16_newBody 3 (some .int) :: zW
abbrev zwX16_isSign : List Cond := .code yX16_isSign cX16_isSign 2 (some .boolean) :: zW
abbrev zwX16_term : List Cond := .code yX16_term cX16_term 3 (some .int) :: zW
abbrev zwX16_isOf : List Cond := .code yX16_isOf cX16_isOf 2 (some .boolean) :: zW
abbrev zwX16_chain : List Cond := .code yX16_chain cX16_chain 10 (some .int) :: zW
abbrev zwX16_isComparison : List Cond := .code yX16_isComparison cX16_isComparison 1 (some .boolean) :: zW
abbrev zwX16_expression : List Cond := .code yX16_expression cX16_expression 7 (some .int) :: zW
abbrev zwX16_node : List Cond := .code yX16_node cX16_node 6 (some .int) :: zW
abbrev zwX16_withs : List Cond := .code yX16_withs cX16_withs 10 none :: zW
abbrev zwX16_literal : List Cond := .code yX16_literal cX16_literal 4 (some .int) :: zW
abbrev zwX16_hang : List Cond := .code yX16_hang cX16_hang 3 (some .int) :: zW
abbrev zwX16_literals : List Cond := .code yX16_literals cX16_literals 6 (some .int) :: zW
abbrev zwX16_readQuery : List Cond := .code yX16_readQuery cX16_readQuery 3 none :: zW
abbrev zwX16_prepare : List Cond := .code yX16_prepare cX16_prepare 4 (some .int) :: zW
abbrev zwX16_isQuery : List Cond := .code yX16_isQuery cX16_isQuery 2 (some .boolean) :: zW
abbrev zwX16_renew : List Cond := .code yX16_renew cX16_renew 2 (some .int) :: zW
abbrev zwX16_release : List Cond := .code yX16_release cX16_release 2 (some .boolean) :: zW
abbrev zwX16_run : List Cond := .codeWith yX16_run cX16_run 6 (some .int) [(35, 90, 93, 962)] :: zW
abbrev zwX16_about : List Cond := .code yX16_about cX16_about 2 (some .int) :: zW
abbrev zwX16_covered : List Cond := .code yX16_covered cX16_covered 2 (some .int) :: zW
abbrev zwX16_result : List Cond := .code yX16_result cX16_result 3 (some .int) :: zW
abbrev zwX16_document : List Cond := .code yX16_document cX16_document 2 (some .int) :: zW
abbrev zwX16_output : List Cond := .code yX16_output cX16_output 2 (some .int) :: zW
abbrev zwX16_rule : List Cond := .code yX16_rule cX16_rule 5 (some .int) :: zW
abbrev zwX16_thrown : List Cond := .code yX16_thrown cX16_thrown 1 (some .int) :: zW
abbrev zwX16_order : List Cond := .code yX16_order cX16_order 5 (some .int) :: zW
abbrev zwX15_kind : List Cond := .code yX15_kind cX15_kind 2 (some .int) :: zW
abbrev zwX15_weight : List Cond := .code yX15_weight cX15_weight 2 (some .int) :: zW
abbrev zwX16_count : List Cond := .code yX16_count cX16_count 4 (some .int) :: zW
abbrev zwL_law : List Cond := Cond.initialized RL :: zW
