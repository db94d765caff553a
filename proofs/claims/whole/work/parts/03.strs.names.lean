theorem goodIn_r {big : List Cond} (ws : List Cond) (ps : List Nat) (hp : ws = ps.filterMap (fun i => big[i]?)) (h : ws.all goodWord = true) : GoodIn big ws := by
  intro w hw
  have h1 := List.all_eq_true.mp h w hw
  rw [hp] at hw
  obtain ⟨i, -, hi⟩ := List.mem_filterMap.mp hw
  have hm : w ∈ big := by first | exact List.mem_of_getElem? hi | exact List.getElem?_mem hi
  exact ⟨hm, good_of_word h1⟩
theorem goodIn_app {big a b : List Cond} (ha : GoodIn big a) (hb : GoodIn big b) : GoodIn big (a ++ b) := fun w h => (List.mem_append.mp h).elim (ha w) (hb w)
theorem goodIn_ca {big a b : List Cond} {c : Cond} (ha : GoodIn big (c :: a)) (hb : GoodIn big b) : GoodIn big (c :: (a ++ b)) := fun w h => (List.mem_cons.mp h).elim (fun e => ha w (List.mem_cons.mpr (Or.inl e))) (fun h => (List.mem_append.mp h).elim (fun h => ha w (List.mem_cons.mpr (Or.inr h))) (hb w))
theorem goodIn_sub {big ws : List Cond} (hm : ∀ w ∈ ws, w ∈ big) (h : ws.all goodWord = true) : GoodIn big ws := fun w hw => ⟨hm w hw, good_of_word (List.all_eq_true.mp h w hw)⟩
abbrev zT (cA : Nat → ClassId) : List (ClassId × FieldType) := [(cA 0, .byte), (cA 1, .int), (cA 2, .long), (cA 3, .boolean), (cA 4, .object "PolicyHouse$Query"), (cA 5, .object "PolicyHouse$Tree"), (cA 6, .object "PolicyHouseModel$Values")]
def RX0 : String := "PolicyHouse$Builtins"
def TX0 : u_T := fun k => match k with
  | 0 => ("PolicyHouse$Builtins", "heap", "LPolicyHouse$Heap;", true)
  | 1 => ("PolicyHouse$Builtins", "texts", "LPolicyHouse$Texts;", true)
  | 2 => ("PolicyHouse$Builtins", "strings", "LPolicyHouse$Strings;", true)
  | 3 => ("PolicyHouse$Builtins", "arg", "[I", true)
  | 4 => ("PolicyHouse$Builtins", "spent", "I", false)
  | 5 => ("PolicyHouse$Builtins", "path", "[I", true)
  | 6 => ("PolicyHouse$Builtins", "from", "[I", true)
  | 7 => ("PolicyHouse$Builtins", "member", "[I", true)
  | _ => ("PolicyHouse$Builtins", "heavy", "I", false)
def RX1 : String := "PolicyHouse$Bundle"
def TX1 : u_T := fun k => match k with
  | 0 => ("PolicyHouse$Bundle", "mods", "[LPolicyHouse$Tree;", true)
  | 1 => ("PolicyHouse$Bundle", "count", "I", true)
  | 2 => ("PolicyHouse$Bundle", "rules", "I", false)
  | 3 => ("PolicyHouse$Bundle", "parts", "I", false)
  | 4 => ("PolicyHouse$Bundle", "rule", "[I", true)
  | 5 => ("PolicyHouse$Bundle", "part", "[I", true)
  | 6 => ("PolicyHouse$Bundle", "nodeRule", "[I", true)
  | 7 => ("PolicyHouse$Bundle", "inner", "[I", true)
  | 8 => ("PolicyHouse$Bundle", "words", "I", false)
  | 9 => ("PolicyHouse$Bundle", "reads", "[I", false)
  | 10 => ("PolicyHouse$Bundle", "rank", "[I", false)
  | 11 => ("PolicyHouse$Bundle", "branch", "[I", false)
  | 12 => ("PolicyHouse$Bundle", "code", "[I", false)
  | 13 => ("PolicyHouse$Bundle", "kind", "I", false)
  | 14 => ("PolicyHouse$Bundle", "module", "I", false)
  | _ => ("PolicyHouse$Bundle", "place", "I", false)
def RX2 : String := "PolicyHouse$Checker"
def TX2 : u_T := fun k => match k with
  | 0 => ("PolicyHouse$Checker", "heap", "LPolicyHouse$Heap;", true)
  | 1 => ("PolicyHouse$Checker", "names", "LPolicyHouse$Names;", true)
  | 2 => ("PolicyHouse$Checker", "b", "LPolicyHouse$Bundle;", false)
  | 3 => ("PolicyHouse$Checker", "t", "LPolicyHouse$Tree;", false)
  | 4 => ("PolicyHouse$Checker", "module", "I", false)
  | 5 => ("PolicyHouse$Checker", "declared", "[I", true)
  | 6 => ("PolicyHouse$Checker", "scopeOf", "[I", true)
  | 7 => ("PolicyHouse$Checker", "placeOf", "[I", true)
  | 8 => ("PolicyHouse$Checker", "count", "I", false)
  | 9 => ("PolicyHouse$Checker", "around", "[I", true)
  | 10 => ("PolicyHouse$Checker", "scopes", "I", false)
  | 11 => ("PolicyHouse$Checker", "badKind", "I", false)
  | 12 => ("PolicyHouse$Checker", "badPlace", "I", false)
  | 13 => ("PolicyHouse$Checker", "bits", "[I", true)
  | 14 => ("PolicyHouse$Checker", "direct", "[I", true)
  | _ => ("PolicyHouse$Checker", "all", "[I", true)
def RX3 : String := "PolicyHouse$Coder"
def TX3 : u_T := fun k => match k with
  | 0 => ("PolicyHouse$Coder", "heap", "LPolicyHouse$Heap;", true)
  | 1 => ("PolicyHouse$Coder", "names", "LPolicyHouse$Names;", true)
  | 2 => ("PolicyHouse$Coder", "checker", "LPolicyHouse$Checker;", true)
  | 3 => ("PolicyHouse$Coder", "b", "LPolicyHouse$Bundle;", false)
  | 4 => ("PolicyHouse$Coder", "t", "LPolicyHouse$Tree;", false)
  | 5 => ("PolicyHouse$Coder", "code", "[I", true)
  | 6 => ("PolicyHouse$Coder", "size", "I", false)
  | 7 => ("PolicyHouse$Coder", "registers", "I", false)
  | 8 => ("PolicyHouse$Coder", "owner", "I", false)
  | 9 => ("PolicyHouse$Coder", "known", "I", false)
  | 10 => ("PolicyHouse$Coder", "scope", "I", false)
  | 11 => ("PolicyHouse$Coder", "badKind", "I", false)
  | 12 => ("PolicyHouse$Coder", "badPlace", "I", false)
  | 13 => ("PolicyHouse$Coder", "ops", "[I", true)
  | _ => ("PolicyHouse$Coder", "used", "I", false)
def RX4 : String := "PolicyHouse$Heap"
def TX4 : u_T := fun k => match k with
  | 0 => ("PolicyHouse$Heap", "cell", "[I", true)
  | 1 => ("PolicyHouse$Heap", "acc", "[I", true)
  | 2 => ("PolicyHouse$Heap", "spare", "[I", true)
  | 3 => ("PolicyHouse$Heap", "used", "I", false)
  | 4 => ("PolicyHouse$Heap", "kept", "I", false)
  | 5 => ("PolicyHouse$Heap", "top", "I", false)
  | 6 => ("PolicyHouse$Heap", "end", "I", false)
  | _ => ("PolicyHouse$Heap", "full", "Z", false)
def RX5 : String := "PolicyHouse$Machine"
def TX5 : u_T := fun k => match k with
  | 0 => ("PolicyHouse$Machine", "heap", "LPolicyHouse$Heap;", true)
  | 1 => ("PolicyHouse$Machine", "scopes", "LPolicyHouse$Scopes;", true)
  | 2 => ("PolicyHouse$Machine", "builtins", "LPolicyHouse$Builtins;", true)
  | 3 => ("PolicyHouse$Machine", "regs", "[I", true)
  | 4 => ("PolicyHouse$Machine", "cp", "[I", true)
  | 5 => ("PolicyHouse$Machine", "choices", "I", false)
  | 6 => ("PolicyHouse$Machine", "pc", "I", false)
  | 7 => ("PolicyHouse$Machine", "fp", "I", false)
  | 8 => ("PolicyHouse$Machine", "top", "I", false)
  | 9 => ("PolicyHouse$Machine", "failing", "Z", false)
  | 10 => ("PolicyHouse$Machine", "stopped", "Z", false)
  | 11 => ("PolicyHouse$Machine", "pending", "Z", false)
  | 12 => ("PolicyHouse$Machine", "bundle", "LPolicyHouse$Bundle;", false)
  | 13 => ("PolicyHouse$Machine", "own", "[I", false)
  | 14 => ("PolicyHouse$Machine", "c", "[I", false)
  | 15 => ("PolicyHouse$Machine", "p", "I", false)
  | 16 => ("PolicyHouse$Machine", "scope", "I", false)
  | 17 => ("PolicyHouse$Machine", "results", "I", false)
  | _ => ("PolicyHouse$Machine", "fixed", "[I", true)
def RX6 : String := "PolicyHouse$Names"
def TX6 : u_T := fun k => match k with
  | 0 => ("PolicyHouse$Names", "heap", "LPolicyHouse$Heap;", true)
  | 1 => ("PolicyHouse$Names", "table", "[I", true)
  | 2 => ("PolicyHouse$Names", "parent", "[I", true)
  | 3 => ("PolicyHouse$Names", "name", "[I", true)
  | 4 => ("PolicyHouse$Names", "child", "[I", true)
  | 5 => ("PolicyHouse$Names", "sibling", "[I", true)
  | 6 => ("PolicyHouse$Names", "nodes", "I", false)
  | 7 => ("PolicyHouse$Names", "words", "[I", true)
  | 8 => ("PolicyHouse$Names", "builtin", "[I", true)
  | 9 => ("PolicyHouse$Names", "kinds", "[I", true)
  | 10 => ("PolicyHouse$Names", "arity", "[I", true)
  | 11 => ("PolicyHouse$Names", "letters", "[I", true)
  | 12 => ("PolicyHouse$Names", "input", "I", true)
  | 13 => ("PolicyHouse$Names", "data", "I", true)
  | 14 => ("PolicyHouse$Names", "set", "I", true)
  | _ => ("PolicyHouse$Names", "blank", "I", true)
def RX7 : String := "PolicyHouse$Query"
def TX7 : u_T := fun k => match k with
  | 0 => ("PolicyHouse$Query", "tree", "LPolicyHouse$Tree;", true)
  | 1 => ("PolicyHouse$Query", "bundle", "LPolicyHouse$Bundle;", false)
  | 2 => ("PolicyHouse$Query", "value", "I", false)
  | 3 => ("PolicyHouse$Query", "frame", "I", false)
  | 4 => ("PolicyHouse$Query", "code", "[I", false)
  | 5 => ("PolicyHouse$Query", "reads", "[I", false)
  | _ => ("PolicyHouse$Query", "order", "[I", false)
def RX8 : String := "PolicyHouse$Reader"
def TX8 : u_T := fun k => match k with
  | 0 => ("PolicyHouse$Reader", "heap", "LPolicyHouse$Heap;", true)
  | 1 => ("PolicyHouse$Reader", "texts", "LPolicyHouse$Texts;", true)
  | 2 => ("PolicyHouse$Reader", "names", "LPolicyHouse$Names;", true)
  | 3 => ("PolicyHouse$Reader", "sort", "[I", true)
  | 4 => ("PolicyHouse$Reader", "place", "[I", true)
  | 5 => ("PolicyHouse$Reader", "gap", "[I", true)
  | 6 => ("PolicyHouse$Reader", "worth", "[I", true)
  | 7 => ("PolicyHouse$Reader", "bad", "I", false)
  | 8 => ("PolicyHouse$Reader", "tokens", "I", false)
  | 9 => ("PolicyHouse$Reader", "now", "I", false)
  | 10 => ("PolicyHouse$Reader", "deep", "I", false)
  | 11 => ("PolicyHouse$Reader", "wrong", "I", false)
  | 12 => ("PolicyHouse$Reader", "skipped", "I", false)
  | 13 => ("PolicyHouse$Reader", "stop", "I", false)
  | _ => ("PolicyHouse$Reader", "tree", "LPolicyHouse$Tree;", false)
def RX9 : String := "PolicyHouse$Scopes"
def TX9 : u_T := fun k => match k with
  | 0 => ("PolicyHouse$Scopes", "heap", "LPolicyHouse$Heap;", true)
  | 1 => ("PolicyHouse$Scopes", "names", "LPolicyHouse$Names;", true)
  | 2 => ("PolicyHouse$Scopes", "bundle", "LPolicyHouse$Bundle;", false)
  | 3 => ("PolicyHouse$Scopes", "now", "I", false)
  | 4 => ("PolicyHouse$Scopes", "outNode", "I", false)
  | 5 => ("PolicyHouse$Scopes", "outValue", "I", false)
  | 6 => ("PolicyHouse$Scopes", "path", "[I", true)
  | 7 => ("PolicyHouse$Scopes", "need", "[I", true)
  | 8 => ("PolicyHouse$Scopes", "fuel", "I", false)
  | 9 => ("PolicyHouse$Scopes", "free", "Z", false)
  | 10 => ("PolicyHouse$Scopes", "strict", "Z", false)
  | 11 => ("PolicyHouse$Scopes", "limit", "Z", false)
  | 12 => ("PolicyHouse$Scopes", "notes", "I", false)
  | 13 => ("PolicyHouse$Scopes", "leastRule", "I", false)
  | 14 => ("PolicyHouse$Scopes", "leastBuiltin", "I", false)
  | _ => ("PolicyHouse$Scopes", "tries", "[I", true)
def RX10 : String := "PolicyHouse$Strings"
def TX10 : u_T := fun k => match k with
  | 0 => ("PolicyHouse$Strings", "heap", "LPolicyHouse$Heap;", true)
  | 1 => ("PolicyHouse$Strings", "texts", "LPolicyHouse$Texts;", true)
  | 2 => ("PolicyHouse$Strings", "names", "LPolicyHouse$Names;", true)
  | 3 => ("PolicyHouse$Strings", "buf", "[I", true)
  | 4 => ("PolicyHouse$Strings", "size", "I", false)
  | 5 => ("PolicyHouse$Strings", "over", "Z", false)
  | 6 => ("PolicyHouse$Strings", "code", "[I", true)
  | 7 => ("PolicyHouse$Strings", "jump", "[I", true)
  | 8 => ("PolicyHouse$Strings", "mark", "[I", true)
  | 9 => ("PolicyHouse$Strings", "here", "[I", true)
  | 10 => ("PolicyHouse$Strings", "there", "[I", true)
  | 11 => ("PolicyHouse$Strings", "stack", "[I", true)
  | 12 => ("PolicyHouse$Strings", "length", "I", false)
  | 13 => ("PolicyHouse$Strings", "sets", "[I", true)
  | 14 => ("PolicyHouse$Strings", "count", "I", false)
  | 15 => ("PolicyHouse$Strings", "pos", "I", false)
  | 16 => ("PolicyHouse$Strings", "end", "I", false)
  | 17 => ("PolicyHouse$Strings", "bad", "Z", false)
  | _ => ("PolicyHouse$Strings", "threads", "I", false)
def RX11 : String := "PolicyHouse$Texts"
def TX11 : u_T := fun k => match k with
  | 0 => ("PolicyHouse$Texts", "heap", "LPolicyHouse$Heap;", true)
  | 1 => ("PolicyHouse$Texts", "in", "[I", false)
  | 2 => ("PolicyHouse$Texts", "to", "I", false)
  | 3 => ("PolicyHouse$Texts", "pos", "I", false)
  | 4 => ("PolicyHouse$Texts", "wrong", "I", false)
  | 5 => ("PolicyHouse$Texts", "stop", "I", false)
  | 6 => ("PolicyHouse$Texts", "value", "J", false)
  | 7 => ("PolicyHouse$Texts", "buf", "[I", true)
  | 8 => ("PolicyHouse$Texts", "size", "I", false)
  | 9 => ("PolicyHouse$Texts", "out", "[I", true)
  | 10 => ("PolicyHouse$Texts", "stored", "Z", false)
  | 11 => ("PolicyHouse$Texts", "packed", "[J", false)
  | 12 => ("PolicyHouse$Texts", "length", "I", false)
  | 13 => ("PolicyHouse$Texts", "limit", "I", false)
  | _ => ("PolicyHouse$Texts", "over", "Z", false)
def RX12 : String := "PolicyHouse$Tree"
def TX12 : u_T := fun k => match k with
  | 0 => ("PolicyHouse$Tree", "kind", "[I", true)
  | 1 => ("PolicyHouse$Tree", "at", "[I", true)
  | 2 => ("PolicyHouse$Tree", "a", "[I", true)
  | 3 => ("PolicyHouse$Tree", "b", "[I", true)
  | 4 => ("PolicyHouse$Tree", "c", "[I", true)
  | 5 => ("PolicyHouse$Tree", "first", "[I", true)
  | 6 => ("PolicyHouse$Tree", "next", "[I", true)
  | 7 => ("PolicyHouse$Tree", "last", "[I", true)
  | 8 => ("PolicyHouse$Tree", "res", "[I", true)
  | 9 => ("PolicyHouse$Tree", "ref", "[I", true)
  | 10 => ("PolicyHouse$Tree", "size", "I", false)
  | 11 => ("PolicyHouse$Tree", "pack", "I", false)
  | 12 => ("PolicyHouse$Tree", "root", "I", false)
  | 13 => ("PolicyHouse$Tree", "imports", "I", false)
  | _ => ("PolicyHouse$Tree", "rules", "I", false)
def RX13 : String := "PolicyHouse"
def TX13 : u_T := fun k => match k with
  | 0 => ("PolicyHouse", "heap", "LPolicyHouse$Heap;", true)
  | 1 => ("PolicyHouse", "texts", "LPolicyHouse$Texts;", true)
  | 2 => ("PolicyHouse", "names", "LPolicyHouse$Names;", true)
  | 3 => ("PolicyHouse", "reader", "LPolicyHouse$Reader;", true)
  | 4 => ("PolicyHouse", "checker", "LPolicyHouse$Checker;", true)
  | 5 => ("PolicyHouse", "coder", "LPolicyHouse$Coder;", true)
  | 6 => ("PolicyHouse", "scopes", "LPolicyHouse$Scopes;", true)
  | 7 => ("PolicyHouse", "machine", "LPolicyHouse$Machine;", true)
  | 8 => ("PolicyHouse", "tape", "[I", true)
  | 9 => ("PolicyHouse", "taped", "I", false)
  | 10 => ("PolicyHouse", "feeds", "I", false)
  | 11 => ("PolicyHouse", "draft", "[LPolicyHouse$Tree;", true)
  | 12 => ("PolicyHouse", "drafts", "I", false)
  | 13 => ("PolicyHouse", "built", "LPolicyHouse$Bundle;", false)
  | 14 => ("PolicyHouse", "active", "LPolicyHouse$Bundle;", false)
  | 15 => ("PolicyHouse", "queries", "[LPolicyHouse$Query;", true)
  | 16 => ("PolicyHouse", "found", "[I", true)
  | 17 => ("PolicyHouse", "data", "I", false)
  | 18 => ("PolicyHouse", "input", "I", false)
  | 19 => ("PolicyHouse", "ranData", "I", false)
  | 20 => ("PolicyHouse", "ranInput", "I", false)
  | 21 => ("PolicyHouse", "shown", "[J", false)
  | _ => ("PolicyHouse", "bytes", "I", false)
def RX14 : String := "PolicyHouseModel$Limit"
def TX14 : u_T := fun k => match k with
  | 0 => ("java/lang/Throwable", "cause", "Ljava/lang/Throwable;", false)
  | 1 => ("java/lang/Throwable", "stackTrace", "[Ljava/lang/StackTraceElement;", false)
  | 2 => ("java/lang/Throwable", "suppressedExceptions", "Ljava/util/List;", false)
  | 3 => ("java/lang/Throwable", "detailMessage", "Ljava/lang/String;", false)
  | 4 => ("java/lang/Throwable", "backtrace", "Ljava/lang/Object;", false)
  | _ => ("java/lang/Throwable", "depth", "I", false)
def RX15 : String := "PolicyHouseModel$Values"
def TX15 : u_T := fun k => match k with
  | 0 => ("PolicyHouseModel$Values", "info", "[J", false)
  | 1 => ("PolicyHouseModel$Values", "pool", "[I", false)
  | 2 => ("PolicyHouseModel$Values", "bytes", "[B", false)
  | 3 => ("PolicyHouseModel$Values", "count", "I", false)
  | 4 => ("PolicyHouseModel$Values", "pooled", "I", false)
  | 5 => ("PolicyHouseModel$Values", "written", "I", false)
  | 6 => ("PolicyHouseModel$Values", "sorted", "[I", true)
  | _ => ("PolicyHouseModel$Values", "other", "[I", true)
def RX16 : String := "PolicyHouseModel"
def TX16 : u_T := fun k => match k with
  | 0 => ("PolicyHouseModel", "letters", "[B", true)
  | 1 => ("PolicyHouseModel", "letterCount", "I", false)
  | 2 => ("PolicyHouseModel", "textWrong", "I", false)
  | 3 => ("PolicyHouseModel", "numValue", "J", false)
  | 4 => ("PolicyHouseModel", "into", "LPolicyHouseModel$Values;", false)
  | 5 => ("PolicyHouseModel", "json", "[B", false)
  | 6 => ("PolicyHouseModel", "jsonAt", "I", false)
  | 7 => ("PolicyHouseModel", "jsonEnd", "I", false)
  | 8 => ("PolicyHouseModel", "stack", "[I", true)
  | 9 => ("PolicyHouseModel", "top", "I", false)
  | 10 => ("PolicyHouseModel", "out", "[B", false)
  | 11 => ("PolicyHouseModel", "work", "[B", true)
  | 12 => ("PolicyHouseModel", "sink", "[B", false)
  | 13 => ("PolicyHouseModel", "outSize", "I", false)
  | 14 => ("PolicyHouseModel", "outMost", "I", false)
  | 15 => ("PolicyHouseModel", "outputSize", "I", false)
  | 16 => ("PolicyHouseModel", "nameBytes", "[B", true)
  | 17 => ("PolicyHouseModel", "nameFrom", "[I", true)
  | 18 => ("PolicyHouseModel", "nameNext", "[I", true)
  | 19 => ("PolicyHouseModel", "bucket", "[I", true)
  | 20 => ("PolicyHouseModel", "names", "I", false)
  | 21 => ("PolicyHouseModel", "source", "[B", false)
  | 22 => ("PolicyHouseModel", "sourceEnd", "I", false)
  | 23 => ("PolicyHouseModel", "tokenKind", "I", false)
  | 24 => ("PolicyHouseModel", "token", "I", false)
  | 25 => ("PolicyHouseModel", "tokenAt", "I", false)
  | 26 => ("PolicyHouseModel", "tokenEnd", "I", false)
  | 27 => ("PolicyHouseModel", "tokenWrong", "I", false)
  | 28 => ("PolicyHouseModel", "wrong", "I", false)
  | 29 => ("PolicyHouseModel", "blankAhead", "Z", false)
  | 30 => ("PolicyHouseModel", "lineAhead", "Z", false)
  | 31 => ("PolicyHouseModel", "kind", "[I", true)
  | 32 => ("PolicyHouseModel", "place", "[I", true)
  | 33 => ("PolicyHouseModel", "a", "[I", true)
  | 34 => ("PolicyHouseModel", "b", "[I", true)
  | 35 => ("PolicyHouseModel", "c", "[I", true)
  | 36 => ("PolicyHouseModel", "next", "[I", true)
  | 37 => ("PolicyHouseModel", "nodes", "I", false)
  | 38 => ("PolicyHouseModel", "constKind", "[I", true)
  | 39 => ("PolicyHouseModel", "constFrom", "[I", true)
  | 40 => ("PolicyHouseModel", "constNum", "[J", true)
  | 41 => ("PolicyHouseModel", "constBytes", "[B", true)
  | 42 => ("PolicyHouseModel", "consts", "I", false)
  | 43 => ("PolicyHouseModel", "bodyFirst", "[I", true)
  | 44 => ("PolicyHouseModel", "bodyAround", "[I", true)
  | 45 => ("PolicyHouseModel", "bodyUnit", "[I", true)
  | 46 => ("PolicyHouseModel", "bodyPlace", "[I", true)
  | 47 => ("PolicyHouseModel", "bodyMany", "[I", true)
  | 48 => ("PolicyHouseModel", "bodies", "I", false)
  | 49 => ("PolicyHouseModel", "brackets", "I", false)
  | 50 => ("PolicyHouseModel", "unit", "I", false)
  | 51 => ("PolicyHouseModel", "constantly", "Z", false)
  | 52 => ("PolicyHouseModel", "underName", "I", false)
  | 53 => ("PolicyHouseModel", "setName", "I", false)
  | 54 => ("PolicyHouseModel", "inputName", "I", false)
  | 55 => ("PolicyHouseModel", "dataName", "I", false)
  | 56 => ("PolicyHouseModel", "modules", "I", false)
  | 57 => ("PolicyHouseModel", "packageOf", "[I", true)
  | 58 => ("PolicyHouseModel", "importModule", "[I", true)
  | 59 => ("PolicyHouseModel", "importPlace", "[I", true)
  | 60 => ("PolicyHouseModel", "importAlias", "[I", true)
  | 61 => ("PolicyHouseModel", "importRoot", "[I", true)
  | 62 => ("PolicyHouseModel", "importPath", "[I", true)
  | 63 => ("PolicyHouseModel", "imports", "I", false)
  | 64 => ("PolicyHouseModel", "partModule", "[I", true)
  | 65 => ("PolicyHouseModel", "partPlace", "[I", true)
  | 66 => ("PolicyHouseModel", "partSort", "[I", true)
  | 67 => ("PolicyHouseModel", "partName", "[I", true)
  | 68 => ("PolicyHouseModel", "partParameters", "[I", true)
  | 69 => ("PolicyHouseModel", "partMany", "[I", true)
  | 70 => ("PolicyHouseModel", "partKey", "[I", true)
  | 71 => ("PolicyHouseModel", "partBranch", "[I", true)
  | 72 => ("PolicyHouseModel", "parts", "I", false)
  | 73 => ("PolicyHouseModel", "ruleOfPart", "[I", true)
  | 74 => ("PolicyHouseModel", "ruleFirst", "[I", true)
  | 75 => ("PolicyHouseModel", "ruleSort", "[I", true)
  | 76 => ("PolicyHouseModel", "ruleParts", "[I", true)
  | 77 => ("PolicyHouseModel", "ruleMany", "[I", true)
  | 78 => ("PolicyHouseModel", "rules", "I", false)
  | 79 => ("PolicyHouseModel", "rulePath", "[I", true)
  | 80 => ("PolicyHouseModel", "ruleLength", "[I", true)
  | 81 => ("PolicyHouseModel", "packagePath", "[I", true)
  | 82 => ("PolicyHouseModel", "packageLength", "[I", true)
  | 83 => ("PolicyHouseModel", "faultKind", "I", false)
  | 84 => ("PolicyHouseModel", "faultModule", "I", false)
  | 85 => ("PolicyHouseModel", "faultPlace", "I", false)
  | 86 => ("PolicyHouseModel", "how", "[I", true)
  | 87 => ("PolicyHouseModel", "which", "[I", true)
  | 88 => ("PolicyHouseModel", "varCount", "[I", true)
  | 89 => ("PolicyHouseModel", "varBody", "[I", true)
  | 90 => ("PolicyHouseModel", "declName", "[I", true)
  | 91 => ("PolicyHouseModel", "declPlace", "[I", true)
  | 92 => ("PolicyHouseModel", "declBody", "[I", true)
  | 93 => ("PolicyHouseModel", "decls", "I", false)
  | 94 => ("PolicyHouseModel", "firstKind", "I", false)
  | 95 => ("PolicyHouseModel", "firstPlace", "I", false)
  | 96 => ("PolicyHouseModel", "callPath", "[I", true)
  | 97 => ("PolicyHouseModel", "readsAll", "[J", true)
  | 98 => ("PolicyHouseModel", "readsSo", "[J", true)
  | 99 => ("PolicyHouseModel", "depends", "[J", true)
  | 100 => ("PolicyHouseModel", "gathered", "[J", true)
  | 101 => ("PolicyHouseModel", "level", "[I", true)
  | 102 => ("PolicyHouseModel", "withDepth", "[I", true)
  | 103 => ("PolicyHouseModel", "readPath", "[I", true)
  | 104 => ("PolicyHouseModel", "gatherAll", "Z", false)
  | 105 => ("PolicyHouseModel", "rightFirst", "[Z", true)
  | 106 => ("PolicyHouseModel", "ordered", "[I", true)
  | 107 => ("PolicyHouseModel", "orderFrom", "[I", true)
  | 108 => ("PolicyHouseModel", "orders", "I", false)
  | 109 => ("PolicyHouseModel", "orderUnit", "I", false)
  | 110 => ("PolicyHouseModel", "isPlaced", "[Z", true)
  | 111 => ("PolicyHouseModel", "varName", "[I", true)
  | 112 => ("PolicyHouseModel", "run", "LPolicyHouseModel$Values;", true)
  | 113 => ("PolicyHouseModel", "constValue", "[I", true)
  | 114 => ("PolicyHouseModel", "nameValue", "[I", true)
  | 115 => ("PolicyHouseModel", "scope", "I", false)
  | 116 => ("PolicyHouseModel", "fuel", "I", false)
  | 117 => ("PolicyHouseModel", "notedRule", "I", false)
  | 118 => ("PolicyHouseModel", "notedBuiltIn", "I", false)
  | 119 => ("PolicyHouseModel", "owner", "I", false)
  | 120 => ("PolicyHouseModel", "width", "I", false)
  | 121 => ("PolicyHouseModel", "notedGreat", "Z", false)
  | 122 => ("PolicyHouseModel", "notedConflict", "Z", false)
  | 123 => ("PolicyHouseModel", "notedNone", "Z", false)
  | 124 => ("PolicyHouseModel", "isStrict", "Z", false)
  | 125 => ("PolicyHouseModel", "scopeInput", "[I", true)
  | 126 => ("PolicyHouseModel", "tries", "[I", true)
  | 127 => ("PolicyHouseModel", "replaced", "[I", true)
  | 128 => ("PolicyHouseModel", "replacedName", "[I", true)
  | 129 => ("PolicyHouseModel", "replacedValue", "[I", true)
  | 130 => ("PolicyHouseModel", "dataValue", "I", false)
  | 131 => ("PolicyHouseModel", "docState", "[I", true)
  | 132 => ("PolicyHouseModel", "docValue", "[I", true)
  | 133 => ("PolicyHouseModel", "firstDoc", "[I", true)
  | 134 => ("PolicyHouseModel", "isMade", "[Z", true)
  | 135 => ("PolicyHouseModel", "standardValue", "[I", true)
  | 136 => ("PolicyHouseModel", "isStandardMade", "[Z", true)
  | 137 => ("PolicyHouseModel", "rowEnv", "[I", true)
  | 138 => ("PolicyHouseModel", "rowValue", "[I", true)
  | 139 => ("PolicyHouseModel", "outEnv", "[I", true)
  | 140 => ("PolicyHouseModel", "outValue", "[I", true)
  | 141 => ("PolicyHouseModel", "env", "[J", true)
  | 142 => ("PolicyHouseModel", "rowTop", "I", false)
  | 143 => ("PolicyHouseModel", "outTop", "I", false)
  | 144 => ("PolicyHouseModel", "envTop", "I", false)
  | 145 => ("PolicyHouseModel", "stepFrom", "[I", true)
  | 146 => ("PolicyHouseModel", "stepEnd", "[I", true)
  | 147 => ("PolicyHouseModel", "stepAt", "[I", true)
  | 148 => ("PolicyHouseModel", "stepEnv", "[I", true)
  | 149 => ("PolicyHouseModel", "tuple", "[I", true)
  | 150 => ("PolicyHouseModel", "stepPart", "[I", true)
  | 151 => ("PolicyHouseModel", "stepSecond", "[Z", true)
  | 152 => ("PolicyHouseModel", "stepTop", "I", false)
  | 153 => ("PolicyHouseModel", "tupleTop", "I", false)
  | 154 => ("PolicyHouseModel", "trieName", "[I", true)
  | 155 => ("PolicyHouseModel", "trieFirst", "[I", true)
  | 156 => ("PolicyHouseModel", "trieNext", "[I", true)
  | 157 => ("PolicyHouseModel", "trieRule", "[I", true)
  | 158 => ("PolicyHouseModel", "trieCount", "I", false)
  | 159 => ("PolicyHouseModel", "trieBase", "[I", true)
  | 160 => ("PolicyHouseModel", "isTooGreat", "Z", false)
  | 161 => ("PolicyHouseModel", "keyBefore", "[I", true)
  | 162 => ("PolicyHouseModel", "keyPlace", "[I", true)
  | 163 => ("PolicyHouseModel", "keyTop", "I", false)
  | 164 => ("PolicyHouseModel", "needs", "[J", true)
  | 165 => ("PolicyHouseModel", "strFrom", "I", false)
  | 166 => ("PolicyHouseModel", "here", "LPolicyHouseModel$Values;", false)
  | 167 => ("PolicyHouseModel", "beside", "LPolicyHouseModel$Values;", false)
  | 168 => ("PolicyHouseModel", "texts", "LPolicyHouseModel$Values;", true)
  | 169 => ("PolicyHouseModel", "rootValue", "I", false)
  | 170 => ("PolicyHouseModel", "pointer", "[B", true)
  | 171 => ("PolicyHouseModel", "nameStart", "[I", true)
  | 172 => ("PolicyHouseModel", "pointerNames", "I", false)
  | 173 => ("PolicyHouseModel", "pOp", "[I", true)
  | 174 => ("PolicyHouseModel", "pOne", "[I", true)
  | 175 => ("PolicyHouseModel", "pTwo", "[I", true)
  | 176 => ("PolicyHouseModel", "pMark", "[I", true)
  | 177 => ("PolicyHouseModel", "pList", "[I", true)
  | 178 => ("PolicyHouseModel", "pNext", "[I", true)
  | 179 => ("PolicyHouseModel", "pPile", "[I", true)
  | 180 => ("PolicyHouseModel", "pSize", "I", false)
  | 181 => ("PolicyHouseModel", "pMarked", "I", false)
  | 182 => ("PolicyHouseModel", "classBits", "[J", true)
  | 183 => ("PolicyHouseModel", "classes", "I", false)
  | 184 => ("PolicyHouseModel", "xKind", "[I", true)
  | 185 => ("PolicyHouseModel", "xFirst", "[I", true)
  | 186 => ("PolicyHouseModel", "xLeast", "[I", true)
  | 187 => ("PolicyHouseModel", "xMost", "[I", true)
  | 188 => ("PolicyHouseModel", "xNext", "[I", true)
  | 189 => ("PolicyHouseModel", "xCount", "I", false)
  | 190 => ("PolicyHouseModel", "patternAt", "I", false)
  | 191 => ("PolicyHouseModel", "patternEnd", "I", false)
  | 192 => ("PolicyHouseModel", "patternOf", "I", false)
  | 193 => ("PolicyHouseModel", "noPattern", "Z", false)
  | 194 => ("PolicyHouseModel", "listed", "I", false)
  | 195 => ("PolicyHouseModel", "starClass", "I", false)
  | 196 => ("PolicyHouseModel", "anyClass", "I", false)
  | 197 => ("PolicyHouseModel", "readAt", "I", false)
  | 198 => ("PolicyHouseModel", "readEnd", "I", false)
  | 199 => ("PolicyHouseModel", "readOf", "I", false)
  | 200 => ("PolicyHouseModel", "isMisread", "Z", false)
  | 201 => ("PolicyHouseModel", "bitsOf", "I", false)
  | 202 => ("PolicyHouseModel", "versionAt", "[I", true)
  | 203 => ("PolicyHouseModel", "earlyEnd", "I", false)
  | 204 => ("PolicyHouseModel", "walkWeight", "I", false)
  | 205 => ("PolicyHouseModel", "walkPath", "[I", false)
  | 206 => ("PolicyHouseModel", "moduleText", "[J", true)
  | 207 => ("PolicyHouseModel", "queryText", "[B", true)
  | 208 => ("PolicyHouseModel", "piece", "[B", true)
  | 209 => ("PolicyHouseModel", "moduleLength", "[I", true)
  | 210 => ("PolicyHouseModel", "moduleMany", "[I", true)
  | 211 => ("PolicyHouseModel", "stamp", "[I", true)
  | 212 => ("PolicyHouseModel", "queryLength", "[I", true)
  | 213 => ("PolicyHouseModel", "isPrepared", "[Z", true)
  | 214 => ("PolicyHouseModel", "stamps", "I", false)
  | 215 => ("PolicyHouseModel", "loaded", "I", false)
  | 216 => ("PolicyHouseModel", "bundleKind", "I", false)
  | 217 => ("PolicyHouseModel", "bundleModule", "I", false)
  | 218 => ("PolicyHouseModel", "bundlePlace", "I", false)
  | 219 => ("PolicyHouseModel", "markNodes", "I", false)
  | 220 => ("PolicyHouseModel", "markConsts", "I", false)
  | 221 => ("PolicyHouseModel", "markBodies", "I", false)
  | 222 => ("PolicyHouseModel", "markOrders", "I", false)
  | 223 => ("PolicyHouseModel", "lastKind", "I", false)
  | 224 => ("PolicyHouseModel", "lastModule", "I", false)
  | 225 => ("PolicyHouseModel", "lastPlace", "I", false)
  | 226 => ("PolicyHouseModel", "queryBody", "I", false)
  | 227 => ("PolicyHouseModel", "thrown", "I", false)
  | 228 => ("PolicyHouseModel", "tape", "[B", true)
  | 229 => ("PolicyHouseModel", "tapeSize", "I", false)
  | 230 => ("PolicyHouseModel", "data", "LPolicyHouseModel$Values;", true)
  | 231 => ("PolicyHouseModel", "input", "LPolicyHouseModel$Values;", true)
  | 232 => ("PolicyHouseModel", "queryData", "[LPolicyHouseModel$Values;", true)
  | 233 => ("PolicyHouseModel", "queryRoot", "[I", true)
  | 234 => ("PolicyHouseModel", "results", "[I", true)
  | 235 => ("PolicyHouseModel", "dataRoot", "I", false)
  | 236 => ("PolicyHouseModel", "inputRoot", "I", false)
  | 237 => ("PolicyHouseModel", "resultCount", "I", false)
  | 238 => ("PolicyHouseModel", "runKind", "I", false)
  | 239 => ("PolicyHouseModel", "runDetail", "I", false)
  | 240 => ("PolicyHouseModel", "runFuel", "I", false)
  | 241 => ("PolicyHouseModel", "runRules", "I", false)
  | _ => ("PolicyHouseModel", "hasRun", "Z", false)
def RJ0 : String := "java/lang/String"
abbrev cJ0_length_8abf5 : ByteArray := prog_29_method_54_code
def yJ0_length_8abf5 : MethodName := ⟨RJ0, "length", "()I"⟩
abbrev cJ0_charAt_5068e : ByteArray := prog_29_method_56_code
def yJ0_charAt_5068e : MethodName := ⟨RJ0, "charAt", "(I)C"⟩
abbrev cJ0_coder_7d493 : ByteArray := prog_29_method_152_code
def yJ0_coder_7d493 : MethodName := ⟨RJ0, "coder", "()B"⟩
abbrev cJ0_isLatin1_aae02 : ByteArray := prog_29_method_154_code
def yJ0_isLatin1_aae02 : MethodName := ⟨RJ0, "isLatin1", "()Z"⟩
abbrev cJ0_checkIndex_df160 : ByteArray := prog_29_method_155_code
def yJ0_checkIndex_df160 : MethodName := ⟨RJ0, "checkIndex", "(II)V"⟩
def RJ1 : String := "java/lang/StringLatin1"
abbrev cJ1_charAt_3b067 : ByteArray := prog_30_method_2_code
def yJ1_charAt_3b067 : MethodName := ⟨RJ1, "charAt", "([BI)C"⟩
def RJ2 : String := "java/lang/StringUTF16"
abbrev cJ2_getChar_3b067 : ByteArray := prog_31_method_5_code
def yJ2_getChar_3b067 : MethodName := ⟨RJ2, "getChar", "([BI)C"⟩
abbrev cJ2_length_9d52b : ByteArray := prog_31_method_6_code
def yJ2_length_9d52b : MethodName := ⟨RJ2, "length", "([B)I"⟩
abbrev cJ2_charAt_3b067 : ByteArray := prog_31_method_83_code
def yJ2_charAt_3b067 : MethodName := ⟨RJ2, "charAt", "([BI)C"⟩
abbrev cJ2_checkIndex_2214a : ByteArray := prog_31_method_91_code
def yJ2_checkIndex_2214a : MethodName := ⟨RJ2, "checkIndex", "(I[B)V"⟩
def RJ3 : String := "jdk/internal/util/Preconditions"
abbrev cJ3_checkIndex_8e157 : ByteArray := prog_38_method_11_code
def yJ3_checkIndex_8e157 : MethodName := ⟨RJ3, "checkIndex", "(IILjava/util/function/BiFunction;)I"⟩
def wsJ0_isLatin1_aae02 : List Cond := .code yJ0_isLatin1_aae02 cJ0_isLatin1_aae02 1 (some .boolean) :: ([.fieldLink RJ0 38 "java/lang/String" "COMPACT_STRINGS" "Z", .fieldLink RJ0 15 "java/lang/String" "coder" "B"])
def wsJ3_checkIndex_8e157 : List Cond := .code yJ3_checkIndex_8e157 cJ3_checkIndex_8e157 3 (some .int) :: ([])
def wsJ0_checkIndex_df160 : List Cond := .code yJ0_checkIndex_df160 cJ0_checkIndex_df160 2 none :: ([.fieldLink RJ0 1053 "jdk/internal/util/Preconditions" "SIOOBE_FORMATTER" "Ljava/util/function/BiFunction;", .methodLink RJ0 1059 yJ3_checkIndex_8e157, .static yJ3_checkIndex_8e157, .initialized RJ3, .code yJ3_checkIndex_8e157 cJ3_checkIndex_8e157 3 (some .int)])
def wsJ1_charAt_3b067 : List Cond := .code yJ1_charAt_3b067 cJ1_charAt_3b067 2 (some .char) :: ([.methodLink RJ1 9 yJ0_checkIndex_df160, .static yJ0_checkIndex_df160, .initialized RJ0, .code yJ0_checkIndex_df160 cJ0_checkIndex_df160 2 none, .fieldLink RJ0 1053 "jdk/internal/util/Preconditions" "SIOOBE_FORMATTER" "Ljava/util/function/BiFunction;", .methodLink RJ0 1059 yJ3_checkIndex_8e157, .static yJ3_checkIndex_8e157, .initialized RJ3, .code yJ3_checkIndex_8e157 cJ3_checkIndex_8e157 3 (some .int)])
def wsJ0_charAt_5068e_r1 : List Cond := [Cond.fieldLink RJ0 9 "java/lang/String" "value" "[B", Cond.methodLink RJ0 492 yJ0_isLatin1_aae02, Cond.instanceMethod yJ0_isLatin1_aae02, Cond.selects RJ0 yJ0_isLatin1_aae02 yJ0_isLatin1_aae02, Cond.initialized RJ0, Cond.code yJ0_isLatin1_aae02 cJ0_isLatin1_aae02 1 (some .boolean), Cond.fieldLink RJ0 38 "java/lang/String" "COMPACT_STRINGS" "Z", Cond.fieldLink RJ0 15 "java/lang/String" "coder" "B", Cond.methodLink RJ0 495 yJ1_charAt_3b067, Cond.static yJ1_charAt_3b067, Cond.initialized RJ1, Cond.code yJ1_charAt_3b067 cJ1_charAt_3b067 2 (some .char), Cond.methodLink RJ1 9 yJ0_checkIndex_df160, Cond.static yJ0_checkIndex_df160, Cond.code yJ0_checkIndex_df160 cJ0_checkIndex_df160 2 none, Cond.fieldLink RJ0 1053 "jdk/internal/util/Preconditions" "SIOOBE_FORMATTER" "Ljava/util/function/BiFunction;", Cond.methodLink RJ0 1059 yJ3_checkIndex_8e157, Cond.static yJ3_checkIndex_8e157, Cond.initialized RJ3, Cond.code yJ3_checkIndex_8e157 cJ3_checkIndex_8e157 3 (some .int), Cond.methodLink RJ0 498 yJ2_charAt_3b067, Cond.static yJ2_charAt_3b067, Cond.initialized RJ2, Cond.code yJ2_charAt_3b067 cJ2_charAt_3b067 2 (some .char)]
def wsJ0_charAt_5068e_r2 : List Cond := [Cond.methodLink RJ2 67 yJ2_checkIndex_2214a, Cond.static yJ2_checkIndex_2214a, Cond.code yJ2_checkIndex_2214a cJ2_checkIndex_2214a 2 none, Cond.methodLink RJ2 48 yJ2_length_9d52b, Cond.static yJ2_length_9d52b, Cond.code yJ2_length_9d52b cJ2_length_9d52b 1 (some .int), Cond.methodLink RJ2 414 yJ0_checkIndex_df160, Cond.methodLink RJ2 71 yJ2_getChar_3b067, Cond.static yJ2_getChar_3b067, Cond.code yJ2_getChar_3b067 cJ2_getChar_3b067 2 (some .char), Cond.fieldLink RJ2 44 "java/lang/StringUTF16" "$assertionsDisabled" "Z", Cond.fieldLink RJ2 59 "java/lang/StringUTF16" "HI_BYTE_SHIFT" "I", Cond.fieldLink RJ2 63 "java/lang/StringUTF16" "LO_BYTE_SHIFT" "I"]
def wsJ0_charAt_5068e : List Cond := .code yJ0_charAt_5068e cJ0_charAt_5068e 2 (some .char) :: ((wsJ0_charAt_5068e_r1 ++ wsJ0_charAt_5068e_r2))
def wsJ0_coder_7d493 : List Cond := .code yJ0_coder_7d493 cJ0_coder_7d493 1 (some .byte) :: ([.fieldLink RJ0 38 "java/lang/String" "COMPACT_STRINGS" "Z", .fieldLink RJ0 15 "java/lang/String" "coder" "B"])
def wsJ0_length_8abf5 : List Cond := .code yJ0_length_8abf5 cJ0_length_8abf5 1 (some .int) :: ([.fieldLink RJ0 9 "java/lang/String" "value" "[B", .methodLink RJ0 335 yJ0_coder_7d493, .instanceMethod yJ0_coder_7d493, .selects RJ0 yJ0_coder_7d493 yJ0_coder_7d493, .initialized RJ0, .code yJ0_coder_7d493 cJ0_coder_7d493 1 (some .byte), .fieldLink RJ0 38 "java/lang/String" "COMPACT_STRINGS" "Z", .fieldLink RJ0 15 "java/lang/String" "coder" "B"])
set_option maxRecDepth 20000 in
theorem ggJ0_length_8abf5_J0_coder_7d493 : GoodIn wsJ0_length_8abf5 wsJ0_coder_7d493 := goodIn_r _ [6, 7, 8] (by decide +kernel) (by decide +kernel)
set_option maxRecDepth 20000 in
theorem gJ0_length_8abf5_J0_coder_7d493 : GoodIn wsJ0_length_8abf5 (wsV RJ0 335 RJ0 yJ0_coder_7d493 wsJ0_coder_7d493) := goodIn_app (goodIn_of _ (by decide +kernel)) ggJ0_length_8abf5_J0_coder_7d493
theorem dJ0_length_8abf5_0 : decode cJ0_length_8abf5 0 = .ok (.aload_n 0, 1) := by decide +kernel
theorem dJ0_length_8abf5_1 : decode cJ0_length_8abf5 1 = .ok (.getfield 9, 3) := by decide +kernel
theorem dJ0_length_8abf5_4 : decode cJ0_length_8abf5 4 = .ok (.arraylength, 1) := by decide +kernel
theorem dJ0_length_8abf5_5 : decode cJ0_length_8abf5 5 = .ok (.aload_n 0, 1) := by decide +kernel
theorem dJ0_length_8abf5_6 : decode cJ0_length_8abf5 6 = .ok (.invokevirtual 335, 3) := by decide +kernel
theorem dJ0_length_8abf5_9 : decode cJ0_length_8abf5 9 = .ok (.ishr, 1) := by decide +kernel
theorem dJ0_length_8abf5_10 : decode cJ0_length_8abf5 10 = .ok (.ireturn, 1) := by decide +kernel
set_option maxRecDepth 20000 in
theorem ggJ0_charAt_5068e_J0_isLatin1_aae02 : GoodIn wsJ0_charAt_5068e wsJ0_isLatin1_aae02 := goodIn_r _ [6, 7, 8] (by decide +kernel) (by decide +kernel)
set_option maxRecDepth 20000 in
theorem gJ0_charAt_5068e_J0_isLatin1_aae02 : GoodIn wsJ0_charAt_5068e (wsV RJ0 492 RJ0 yJ0_isLatin1_aae02 wsJ0_isLatin1_aae02) := goodIn_app (goodIn_of _ (by decide +kernel)) ggJ0_charAt_5068e_J0_isLatin1_aae02
set_option maxRecDepth 20000 in
theorem ggJ0_charAt_5068e_J1_charAt_3b067 : GoodIn wsJ0_charAt_5068e wsJ1_charAt_3b067 := goodIn_r _ [12, 13, 14, 5, 15, 16, 17, 18, 19, 20] (by decide +kernel) (by decide +kernel)
set_option maxRecDepth 20000 in
theorem gJ0_charAt_5068e_J1_charAt_3b067 : GoodIn wsJ0_charAt_5068e (va_wsS RJ0 495 yJ1_charAt_3b067 wsJ1_charAt_3b067) := goodIn_app (goodIn_of _ (by decide +kernel)) ggJ0_charAt_5068e_J1_charAt_3b067
theorem dJ0_charAt_5068e_0 : decode cJ0_charAt_5068e 0 = .ok (.aload_n 0, 1) := by decide +kernel
theorem dJ0_charAt_5068e_1 : decode cJ0_charAt_5068e 1 = .ok (.invokevirtual 492, 3) := by decide +kernel
theorem dJ0_charAt_5068e_4 : decode cJ0_charAt_5068e 4 = .ok (.ifCond .eq 12, 3) := by decide +kernel
theorem dJ0_charAt_5068e_7 : decode cJ0_charAt_5068e 7 = .ok (.aload_n 0, 1) := by decide +kernel
theorem dJ0_charAt_5068e_8 : decode cJ0_charAt_5068e 8 = .ok (.getfield 9, 3) := by decide +kernel
theorem dJ0_charAt_5068e_11 : decode cJ0_charAt_5068e 11 = .ok (.iload_n 1, 1) := by decide +kernel
theorem dJ0_charAt_5068e_12 : decode cJ0_charAt_5068e 12 = .ok (.invokestatic 495, 3) := by decide +kernel
theorem dJ0_charAt_5068e_15 : decode cJ0_charAt_5068e 15 = .ok (.ireturn, 1) := by decide +kernel
theorem dJ0_coder_7d493_0 : decode cJ0_coder_7d493 0 = .ok (.getstatic 38, 3) := by decide +kernel
theorem dJ0_coder_7d493_3 : decode cJ0_coder_7d493 3 = .ok (.ifCond .eq 10, 3) := by decide +kernel
theorem dJ0_coder_7d493_6 : decode cJ0_coder_7d493 6 = .ok (.aload_n 0, 1) := by decide +kernel
theorem dJ0_coder_7d493_7 : decode cJ0_coder_7d493 7 = .ok (.getfield 15, 3) := by decide +kernel
theorem dJ0_coder_7d493_10 : decode cJ0_coder_7d493 10 = .ok (.goto 4, 3) := by decide +kernel
theorem dJ0_coder_7d493_14 : decode cJ0_coder_7d493 14 = .ok (.ireturn, 1) := by decide +kernel
theorem dJ0_isLatin1_aae02_0 : decode cJ0_isLatin1_aae02 0 = .ok (.getstatic 38, 3) := by decide +kernel
theorem dJ0_isLatin1_aae02_3 : decode cJ0_isLatin1_aae02 3 = .ok (.ifCond .eq 14, 3) := by decide +kernel
theorem dJ0_isLatin1_aae02_6 : decode cJ0_isLatin1_aae02 6 = .ok (.aload_n 0, 1) := by decide +kernel
theorem dJ0_isLatin1_aae02_7 : decode cJ0_isLatin1_aae02 7 = .ok (.getfield 15, 3) := by decide +kernel
theorem dJ0_isLatin1_aae02_10 : decode cJ0_isLatin1_aae02 10 = .ok (.ifCond .ne 7, 3) := by decide +kernel
theorem dJ0_isLatin1_aae02_13 : decode cJ0_isLatin1_aae02 13 = .ok (.iconst 1, 1) := by decide +kernel
theorem dJ0_isLatin1_aae02_14 : decode cJ0_isLatin1_aae02 14 = .ok (.goto 4, 3) := by decide +kernel
theorem dJ0_isLatin1_aae02_18 : decode cJ0_isLatin1_aae02 18 = .ok (.ireturn, 1) := by decide +kernel
set_option maxRecDepth 20000 in
theorem ggJ0_checkIndex_df160_J3_checkIndex_8e157 : GoodIn wsJ0_checkIndex_df160 wsJ3_checkIndex_8e157 := goodIn_r _ [5] (by decide +kernel) (by decide +kernel)
set_option maxRecDepth 20000 in
theorem gJ0_checkIndex_df160_J3_checkIndex_8e157 : GoodIn wsJ0_checkIndex_df160 (va_wsS RJ0 1059 yJ3_checkIndex_8e157 wsJ3_checkIndex_8e157) := goodIn_app (goodIn_of _ (by decide +kernel)) ggJ0_checkIndex_df160_J3_checkIndex_8e157
theorem dJ0_checkIndex_df160_0 : decode cJ0_checkIndex_df160 0 = .ok (.iload_n 0, 1) := by decide +kernel
theorem dJ0_checkIndex_df160_1 : decode cJ0_checkIndex_df160 1 = .ok (.iload_n 1, 1) := by decide +kernel
theorem dJ0_checkIndex_df160_2 : decode cJ0_checkIndex_df160 2 = .ok (.getstatic 1053, 3) := by decide +kernel
theorem dJ0_checkIndex_df160_5 : decode cJ0_checkIndex_df160 5 = .ok (.invokestatic 1059, 3) := by decide +kernel
theorem dJ0_checkIndex_df160_8 : decode cJ0_checkIndex_df160 8 = .ok (.pop, 1) := by decide +kernel
theorem dJ0_checkIndex_df160_9 : decode cJ0_checkIndex_df160 9 = .ok (.return_, 1) := by decide +kernel
set_option maxRecDepth 20000 in
theorem ggJ1_charAt_3b067_J0_checkIndex_df160 : GoodIn wsJ1_charAt_3b067 wsJ0_checkIndex_df160 := goodIn_r _ [4, 5, 6, 7, 8, 9] (by decide +kernel) (by decide +kernel)
set_option maxRecDepth 20000 in
theorem gJ1_charAt_3b067_J0_checkIndex_df160 : GoodIn wsJ1_charAt_3b067 (va_wsS RJ1 9 yJ0_checkIndex_df160 wsJ0_checkIndex_df160) := goodIn_app (goodIn_of _ (by decide +kernel)) ggJ1_charAt_3b067_J0_checkIndex_df160
theorem dJ1_charAt_3b067_0 : decode cJ1_charAt_3b067 0 = .ok (.iload_n 1, 1) := by decide +kernel
theorem dJ1_charAt_3b067_1 : decode cJ1_charAt_3b067 1 = .ok (.aload_n 0, 1) := by decide +kernel
theorem dJ1_charAt_3b067_2 : decode cJ1_charAt_3b067 2 = .ok (.arraylength, 1) := by decide +kernel
theorem dJ1_charAt_3b067_3 : decode cJ1_charAt_3b067 3 = .ok (.invokestatic 9, 3) := by decide +kernel
theorem dJ1_charAt_3b067_6 : decode cJ1_charAt_3b067 6 = .ok (.aload_n 0, 1) := by decide +kernel
theorem dJ1_charAt_3b067_7 : decode cJ1_charAt_3b067 7 = .ok (.iload_n 1, 1) := by decide +kernel
theorem dJ1_charAt_3b067_8 : decode cJ1_charAt_3b067 8 = .ok (.baload, 1) := by decide +kernel
theorem dJ1_charAt_3b067_9 : decode cJ1_charAt_3b067 9 = .ok (.sipush 255, 3) := by decide +kernel
theorem dJ1_charAt_3b067_12 : decode cJ1_charAt_3b067 12 = .ok (.iand, 1) := by decide +kernel
theorem dJ1_charAt_3b067_13 : decode cJ1_charAt_3b067 13 = .ok (.i2c, 1) := by decide +kernel
theorem dJ1_charAt_3b067_14 : decode cJ1_charAt_3b067 14 = .ok (.ireturn, 1) := by decide +kernel
theorem dJ3_checkIndex_8e157_0 : decode cJ3_checkIndex_8e157 0 = .ok (.iload_n 0, 1) := by decide +kernel
theorem dJ3_checkIndex_8e157_1 : decode cJ3_checkIndex_8e157 1 = .ok (.ifCond .lt 8, 3) := by decide +kernel
theorem dJ3_checkIndex_8e157_4 : decode cJ3_checkIndex_8e157 4 = .ok (.iload_n 0, 1) := by decide +kernel
theorem dJ3_checkIndex_8e157_5 : decode cJ3_checkIndex_8e157 5 = .ok (.iload_n 1, 1) := by decide +kernel
theorem dJ3_checkIndex_8e157_6 : decode cJ3_checkIndex_8e157 6 = .ok (.if_icmp .lt 10, 3) := by decide +kernel
theorem dJ3_checkIndex_8e157_16 : decode cJ3_checkIndex_8e157 16 = .ok (.iload_n 0, 1) := by decide +kernel
theorem dJ3_checkIndex_8e157_17 : decode cJ3_checkIndex_8e157 17 = .ok (.ireturn, 1) := by decide +kernel
abbrev vwCl : List vw_C := [(RX0, TX0, 9), (RX1, TX1, 16), (RX2, TX2, 16), (RX3, TX3, 15), (RX4, TX4, 8), (RX5, TX5, 19), (RX6, TX6, 16), (RX7, TX7, 7), (RX8, TX8, 15), (RX9, TX9, 16), (RX10, TX10, 19), (RX11, TX11, 15), (RX12, TX12, 15), (RX13, TX13, 23), (RX14, TX14, 6), (RX15, TX15, 8), (RX16, TX16, 243)]

