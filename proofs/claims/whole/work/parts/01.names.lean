/-! ===== BEGIN words of one list among another's, by their places ===== -/
theorem goodIn_r {big : List Cond} (ws : List Cond) (ps : List Nat) (hp : ws = ps.filterMap (fun i => big[i]?)) (h : ws.all goodWord = true) : GoodIn big ws := by
  intro w hw
  have h1 := List.all_eq_true.mp h w hw
  rw [hp] at hw
  obtain ⟨i, -, hi⟩ := List.mem_filterMap.mp hw
  have hm : w ∈ big := by first | exact List.mem_of_getElem? hi | exact List.getElem?_mem hi
  exact ⟨hm, good_of_word h1⟩
theorem goodIn_app {big a b : List Cond} (ha : GoodIn big a) (hb : GoodIn big b) : GoodIn big (a ++ b) := fun w h => (List.mem_append.mp h).elim (ha w) (hb w)
theorem goodIn_ca {big a b : List Cond} {c : Cond} (ha : GoodIn big (c :: a)) (hb : GoodIn big b) : GoodIn big (c :: (a ++ b)) := fun w h => (List.mem_cons.mp h).elim (fun e => ha w (List.mem_cons.mpr (Or.inl e))) (fun h => (List.mem_append.mp h).elim (fun h => ha w (List.mem_cons.mpr (Or.inr h))) (hb w))
theorem goodIn_sub {big ws : List Cond} (hm : ∀ w ∈ ws, w ∈ big) (h : ws.all goodWord = true) : GoodIn big ws := fun w hw => ⟨hm w hw, good_of_word (List.all_eq_true.mp h w hw)⟩
/-! ===== END ===== -/

/-! ===== BEGIN printed: names, fields, word lists, decode rows ===== -/
def RX0 : String := "WorkTree"
def TX0 : u_T := fun k => match k with
  | 0 => ("WorkTree", "parents", "[I", true)
  | 1 => ("WorkTree", "heights", "[I", true)
  | 2 => ("WorkTree", "times", "[I", true)
  | 3 => ("WorkTree", "arrivals", "[I", true)
  | 4 => ("WorkTree", "targets", "[I", true)
  | 5 => ("WorkTree", "works", "[I", true)
  | 6 => ("WorkTree", "wrong", "[Z", true)
  | 7 => ("WorkTree", "sortedTimes", "[I", true)
  | _ => ("WorkTree", "count", "I", false)
def tyX0 : Nat → FieldType := fun k => match k with
  | 0 => .array .int
  | 1 => .array .int
  | 2 => .array .int
  | 3 => .array .int
  | 4 => .array .int
  | 5 => .array .int
  | 6 => .array .boolean
  | 7 => .array .int
  | _ => .int
abbrev wsX00 : List Cond := u_ws RX0 TX0 9
theorem nmX0 : ∀ a, a < 9 → ∀ b, b < 9 → a ≠ b → (TX0 a).2.1 ≠ (TX0 b).2.1 := by decide +kernel
theorem tyX0_ok : ∀ k, k < 9 → parseFieldDescriptor (TX0 k).2.2.1 = some (tyX0 k) := by decide +kernel
abbrev cX0_init : ByteArray := prog_1_method_1_code
def yX0_init : MethodName := ⟨RX0, "<init>", "()V"⟩
abbrev cX0_add : ByteArray := prog_1_method_2_code
def yX0_add : MethodName := ⟨RX0, "add", "(III)I"⟩
abbrev cX0_refuse : ByteArray := prog_1_method_3_code
def yX0_refuse : MethodName := ⟨RX0, "refuse", "(I)I"⟩
abbrev cX0_best : ByteArray := prog_1_method_4_code
def yX0_best : MethodName := ⟨RX0, "best", "()I"⟩
abbrev cX0_fork : ByteArray := prog_1_method_5_code
def yX0_fork : MethodName := ⟨RX0, "fork", "(II)I"⟩
abbrev cX0_due : ByteArray := prog_1_method_6_code
def yX0_due : MethodName := ⟨RX0, "due", "(I)I"⟩
abbrev cX0_median : ByteArray := prog_1_method_7_code
def yX0_median : MethodName := ⟨RX0, "median", "(I)I"⟩
abbrev cX0_ancestor : ByteArray := prog_1_method_8_code
def yX0_ancestor : MethodName := ⟨RX0, "ancestor", "(II)I"⟩
abbrev cX0_look : ByteArray := prog_1_method_9_code
def yX0_look : MethodName := ⟨RX0, "look", "(II)J"⟩
abbrev cX0_blocks : ByteArray := prog_1_method_10_code
def yX0_blocks : MethodName := ⟨RX0, "blocks", "()I"⟩
abbrev cX0_exists : ByteArray := prog_1_method_11_code
def yX0_exists : MethodName := ⟨RX0, "exists", "(I)Z"⟩
abbrev cX0_ancestorAt : ByteArray := prog_1_method_12_code
def yX0_ancestorAt : MethodName := ⟨RX0, "ancestorAt", "(II)I"⟩
abbrev cX0_medianTime : ByteArray := prog_1_method_13_code
def yX0_medianTime : MethodName := ⟨RX0, "medianTime", "(I)I"⟩
abbrev cX0_insertTime : ByteArray := prog_1_method_14_code
def yX0_insertTime : MethodName := ⟨RX0, "insertTime", "(II)V"⟩
abbrev cX0_targetBehind : ByteArray := prog_1_method_15_code
def yX0_targetBehind : MethodName := ⟨RX0, "targetBehind", "(I)I"⟩
abbrev cX0_within : ByteArray := prog_1_method_16_code
def yX0_within : MethodName := ⟨RX0, "within", "(III)I"⟩
abbrev cX0_bestBlock : ByteArray := prog_1_method_17_code
def yX0_bestBlock : MethodName := ⟨RX0, "bestBlock", "()I"⟩
abbrev cX0_isBetter : ByteArray := prog_1_method_18_code
def yX0_isBetter : MethodName := ⟨RX0, "isBetter", "(II)Z"⟩
def RX1 : String := "WorkTreeModel"
def TX1 : u_T := fun k => match k with
  | 0 => ("WorkTreeModel", "parent", "[I", true)
  | 1 => ("WorkTreeModel", "height", "[I", true)
  | 2 => ("WorkTreeModel", "time", "[I", true)
  | 3 => ("WorkTreeModel", "target", "[I", true)
  | 4 => ("WorkTreeModel", "work", "[J", true)
  | 5 => ("WorkTreeModel", "arrival", "[I", true)
  | 6 => ("WorkTreeModel", "refused", "[Z", true)
  | 7 => ("WorkTreeModel", "times", "[I", true)
  | _ => ("WorkTreeModel", "count", "I", false)
def tyX1 : Nat → FieldType := fun k => match k with
  | 0 => .array .int
  | 1 => .array .int
  | 2 => .array .int
  | 3 => .array .int
  | 4 => .array .long
  | 5 => .array .int
  | 6 => .array .boolean
  | 7 => .array .int
  | _ => .int
abbrev wsX10 : List Cond := u_ws RX1 TX1 9
theorem nmX1 : ∀ a, a < 9 → ∀ b, b < 9 → a ≠ b → (TX1 a).2.1 ≠ (TX1 b).2.1 := by decide +kernel
theorem tyX1_ok : ∀ k, k < 9 → parseFieldDescriptor (TX1 k).2.2.1 = some (tyX1 k) := by decide +kernel
abbrev cX1_init : ByteArray := prog_3_method_1_code
def yX1_init : MethodName := ⟨RX1, "<init>", "()V"⟩
abbrev cX1_is : ByteArray := prog_3_method_2_code
def yX1_is : MethodName := ⟨RX1, "is", "(I)Z"⟩
abbrev cX1_add : ByteArray := prog_3_method_3_code
def yX1_add : MethodName := ⟨RX1, "add", "(III)I"⟩
abbrev cX1_wrong : ByteArray := prog_3_method_4_code
def yX1_wrong : MethodName := ⟨RX1, "wrong", "(I)Z"⟩
abbrev cX1_refuse : ByteArray := prog_3_method_5_code
def yX1_refuse : MethodName := ⟨RX1, "refuse", "(I)I"⟩
abbrev cX1_best : ByteArray := prog_3_method_6_code
def yX1_best : MethodName := ⟨RX1, "best", "()I"⟩
abbrev cX1_fork : ByteArray := prog_3_method_7_code
def yX1_fork : MethodName := ⟨RX1, "fork", "(II)I"⟩
abbrev cX1_due : ByteArray := prog_3_method_8_code
def yX1_due : MethodName := ⟨RX1, "due", "(I)I"⟩
abbrev cX1_median : ByteArray := prog_3_method_9_code
def yX1_median : MethodName := ⟨RX1, "median", "(I)I"⟩
abbrev cX1_ancestor : ByteArray := prog_3_method_10_code
def yX1_ancestor : MethodName := ⟨RX1, "ancestor", "(II)I"⟩
abbrev cX1_look : ByteArray := prog_3_method_11_code
def yX1_look : MethodName := ⟨RX1, "look", "(II)J"⟩
abbrev cX1_blocks : ByteArray := prog_3_method_12_code
def yX1_blocks : MethodName := ⟨RX1, "blocks", "()I"⟩
def RJ9 : String := "java/lang/Math"
def TJ9 : u_T := fun k => match k with
  | _ => ("", "", "", false)
def tyJ9 : Nat → FieldType := fun k => match k with
  | _ => .int
abbrev wsJ90 : List Cond := u_ws RJ9 TJ9 0
theorem nmJ9 : ∀ a, a < 0 → ∀ b, b < 0 → a ≠ b → (TJ9 a).2.1 ≠ (TJ9 b).2.1 := by decide +kernel
theorem tyJ9_ok : ∀ k, k < 0 → parseFieldDescriptor (TJ9 k).2.2.1 = some (tyJ9 k) := by decide +kernel
abbrev cJ9_max_7cf53 : ByteArray := prog_4_method_65_code
def yJ9_max_7cf53 : MethodName := ⟨RJ9, "max", "(II)I"⟩
abbrev cJ9_min_7cf53 : ByteArray := prog_4_method_69_code
def yJ9_min_7cf53 : MethodName := ⟨RJ9, "min", "(II)I"⟩
def RL : String := "WorkTreeLaw"
abbrev cL_law : ByteArray := code
def yL_law : MethodName := ⟨RL, "law", "([I)Z"⟩
def wsX0_init : List Cond := .code yX0_init cX0_init 1 none :: ([.methodLink RX0 1 objectInit, .instanceMethod objectInit, .code objectInit ⟨#[0xb1]⟩ 1 none, .arrayClass .int, .fieldLink RX0 9 "WorkTree" "parents" "[I", .fieldLink RX0 13 "WorkTree" "heights" "[I", .fieldLink RX0 16 "WorkTree" "times" "[I", .fieldLink RX0 19 "WorkTree" "arrivals" "[I", .fieldLink RX0 22 "WorkTree" "targets" "[I", .fieldLink RX0 25 "WorkTree" "works" "[I", .arrayClass .boolean, .fieldLink RX0 28 "WorkTree" "wrong" "[Z", .fieldLink RX0 32 "WorkTree" "sortedTimes" "[I", .constant RX0 35 (32768), .fieldLink RX0 36 "WorkTree" "count" "I"] ++ wsX00)
def wsX0_exists : List Cond := .code yX0_exists cX0_exists 2 (some .boolean) :: ([.fieldLink RX0 36 "WorkTree" "count" "I"] ++ wsX00)
def wsX0_insertTime : List Cond := .code yX0_insertTime cX0_insertTime 4 none :: ([.fieldLink RX0 32 "WorkTree" "sortedTimes" "[I"] ++ wsX00)
def wsX0_medianTime : List Cond := .code yX0_medianTime cX0_medianTime 5 (some .int) :: ([.fieldLink RX0 13 "WorkTree" "heights" "[I", .methodLink RX0 56 Lib.Math.min.name, .static Lib.Math.min.name, .initialized "java/lang/Math", .code Lib.Math.min.name Lib.Math.min.code 2 (some .int), .fieldLink RX0 16 "WorkTree" "times" "[I", .fieldLink RX0 9 "WorkTree" "parents" "[I", .fieldLink RX0 32 "WorkTree" "sortedTimes" "[I", .methodLink RX0 69 yX0_insertTime, .instanceMethod yX0_insertTime, .selects RX0 yX0_insertTime yX0_insertTime, .initialized RX0, .code yX0_insertTime cX0_insertTime 4 none] ++ wsX00)
def wsX0_ancestorAt : List Cond := .code yX0_ancestorAt cX0_ancestorAt 5 (some .int) :: ([.fieldLink RX0 13 "WorkTree" "heights" "[I", .fieldLink RX0 9 "WorkTree" "parents" "[I"] ++ wsX00)
def wsX0_within : List Cond := .code yX0_within cX0_within 3 (some .int) :: ([.methodLink RX0 56 Lib.Math.min.name, .static Lib.Math.min.name, .initialized "java/lang/Math", .code Lib.Math.min.name Lib.Math.min.code 2 (some .int), .methodLink RX0 78 Lib.Math.max.name, .static Lib.Math.max.name, .code Lib.Math.max.name Lib.Math.max.code 2 (some .int)])
def wsX0_targetBehind : List Cond := .code yX0_targetBehind cX0_targetBehind 5 (some .int) :: ([.fieldLink RX0 13 "WorkTree" "heights" "[I", .fieldLink RX0 22 "WorkTree" "targets" "[I", .fieldLink RX0 16 "WorkTree" "times" "[I", .constant RX0 77 (65535), .methodLink RX0 62 yX0_ancestorAt, .instanceMethod yX0_ancestorAt, .selects RX0 yX0_ancestorAt yX0_ancestorAt, .initialized RX0, .code yX0_ancestorAt cX0_ancestorAt 5 (some .int), .fieldLink RX0 9 "WorkTree" "parents" "[I", .methodLink RX0 73 yX0_within, .static yX0_within, .code yX0_within cX0_within 3 (some .int), .methodLink RX0 56 Lib.Math.min.name, .static Lib.Math.min.name, .initialized "java/lang/Math", .code Lib.Math.min.name Lib.Math.min.code 2 (some .int), .methodLink RX0 78 Lib.Math.max.name, .static Lib.Math.max.name, .code Lib.Math.max.name Lib.Math.max.code 2 (some .int)] ++ wsX00)
def wsX0_add_r1 : List Cond := [Cond.fieldLink RX0 36 "WorkTree" "count" "I", Cond.fieldLink RX0 9 "WorkTree" "parents" "[I", Cond.fieldLink RX0 13 "WorkTree" "heights" "[I", Cond.fieldLink RX0 16 "WorkTree" "times" "[I", Cond.fieldLink RX0 19 "WorkTree" "arrivals" "[I", Cond.fieldLink RX0 22 "WorkTree" "targets" "[I", Cond.fieldLink RX0 25 "WorkTree" "works" "[I", Cond.constant RX0 51 (16777216), Cond.fieldLink RX0 28 "WorkTree" "wrong" "[Z", Cond.methodLink RX0 40 yX0_exists, Cond.instanceMethod yX0_exists, Cond.selects RX0 yX0_exists yX0_exists, Cond.initialized RX0, Cond.code yX0_exists cX0_exists 2 (some .boolean), Cond.methodLink RX0 44 yX0_medianTime, Cond.instanceMethod yX0_medianTime, Cond.selects RX0 yX0_medianTime yX0_medianTime, Cond.code yX0_medianTime cX0_medianTime 5 (some .int), Cond.methodLink RX0 56 Lib.Math.min.name, Cond.static Lib.Math.min.name, Cond.initialized "java/lang/Math", Cond.code Lib.Math.min.name Lib.Math.min.code 2 (some .int), Cond.fieldLink RX0 32 "WorkTree" "sortedTimes" "[I", Cond.methodLink RX0 69 yX0_insertTime]
def wsX0_add_r2 : List Cond := [Cond.instanceMethod yX0_insertTime, Cond.selects RX0 yX0_insertTime yX0_insertTime, Cond.code yX0_insertTime cX0_insertTime 4 none, Cond.methodLink RX0 48 yX0_targetBehind, Cond.instanceMethod yX0_targetBehind, Cond.selects RX0 yX0_targetBehind yX0_targetBehind, Cond.code yX0_targetBehind cX0_targetBehind 5 (some .int), Cond.constant RX0 77 (65535), Cond.methodLink RX0 62 yX0_ancestorAt, Cond.instanceMethod yX0_ancestorAt, Cond.selects RX0 yX0_ancestorAt yX0_ancestorAt, Cond.code yX0_ancestorAt cX0_ancestorAt 5 (some .int), Cond.methodLink RX0 73 yX0_within, Cond.static yX0_within, Cond.code yX0_within cX0_within 3 (some .int), Cond.methodLink RX0 78 Lib.Math.max.name, Cond.static Lib.Math.max.name, Cond.code Lib.Math.max.name Lib.Math.max.code 2 (some .int)]
def wsX0_add : List Cond := .code yX0_add cX0_add 6 (some .int) :: ((wsX0_add_r1 ++ wsX0_add_r2) ++ wsX00)
def wsX0_isBetter : List Cond := .code yX0_isBetter cX0_isBetter 3 (some .boolean) :: ([.fieldLink RX0 25 "WorkTree" "works" "[I", .fieldLink RX0 19 "WorkTree" "arrivals" "[I"] ++ wsX00)
def wsX0_bestBlock : List Cond := .code yX0_bestBlock cX0_bestBlock 3 (some .int) :: ([.fieldLink RX0 36 "WorkTree" "count" "I", .fieldLink RX0 28 "WorkTree" "wrong" "[Z", .methodLink RX0 81 yX0_isBetter, .instanceMethod yX0_isBetter, .selects RX0 yX0_isBetter yX0_isBetter, .initialized RX0, .code yX0_isBetter cX0_isBetter 3 (some .boolean), .fieldLink RX0 25 "WorkTree" "works" "[I", .fieldLink RX0 19 "WorkTree" "arrivals" "[I"] ++ wsX00)
def wsX0_refuse : List Cond := .code yX0_refuse cX0_refuse 3 (some .int) :: ([.fieldLink RX0 28 "WorkTree" "wrong" "[Z", .fieldLink RX0 36 "WorkTree" "count" "I", .fieldLink RX0 9 "WorkTree" "parents" "[I", .methodLink RX0 40 yX0_exists, .instanceMethod yX0_exists, .selects RX0 yX0_exists yX0_exists, .initialized RX0, .code yX0_exists cX0_exists 2 (some .boolean), .methodLink RX0 52 yX0_bestBlock, .instanceMethod yX0_bestBlock, .selects RX0 yX0_bestBlock yX0_bestBlock, .code yX0_bestBlock cX0_bestBlock 3 (some .int), .methodLink RX0 81 yX0_isBetter, .instanceMethod yX0_isBetter, .selects RX0 yX0_isBetter yX0_isBetter, .code yX0_isBetter cX0_isBetter 3 (some .boolean), .fieldLink RX0 25 "WorkTree" "works" "[I", .fieldLink RX0 19 "WorkTree" "arrivals" "[I"] ++ wsX00)
def wsX0_best : List Cond := .code yX0_best cX0_best 1 (some .int) :: ([.methodLink RX0 52 yX0_bestBlock, .instanceMethod yX0_bestBlock, .selects RX0 yX0_bestBlock yX0_bestBlock, .initialized RX0, .code yX0_bestBlock cX0_bestBlock 3 (some .int), .fieldLink RX0 36 "WorkTree" "count" "I", .fieldLink RX0 28 "WorkTree" "wrong" "[Z", .methodLink RX0 81 yX0_isBetter, .instanceMethod yX0_isBetter, .selects RX0 yX0_isBetter yX0_isBetter, .code yX0_isBetter cX0_isBetter 3 (some .boolean), .fieldLink RX0 25 "WorkTree" "works" "[I", .fieldLink RX0 19 "WorkTree" "arrivals" "[I"] ++ wsX00)
def wsX0_fork : List Cond := .code yX0_fork cX0_fork 7 (some .int) :: ([.fieldLink RX0 13 "WorkTree" "heights" "[I", .methodLink RX0 56 Lib.Math.min.name, .static Lib.Math.min.name, .initialized "java/lang/Math", .code Lib.Math.min.name Lib.Math.min.code 2 (some .int), .fieldLink RX0 9 "WorkTree" "parents" "[I", .methodLink RX0 40 yX0_exists, .instanceMethod yX0_exists, .selects RX0 yX0_exists yX0_exists, .initialized RX0, .code yX0_exists cX0_exists 2 (some .boolean), .fieldLink RX0 36 "WorkTree" "count" "I", .methodLink RX0 62 yX0_ancestorAt, .instanceMethod yX0_ancestorAt, .selects RX0 yX0_ancestorAt yX0_ancestorAt, .code yX0_ancestorAt cX0_ancestorAt 5 (some .int)] ++ wsX00)
def wsX0_due_r1 : List Cond := [Cond.methodLink RX0 40 yX0_exists, Cond.instanceMethod yX0_exists, Cond.selects RX0 yX0_exists yX0_exists, Cond.initialized RX0, Cond.code yX0_exists cX0_exists 2 (some .boolean), Cond.fieldLink RX0 36 "WorkTree" "count" "I", Cond.methodLink RX0 48 yX0_targetBehind, Cond.instanceMethod yX0_targetBehind, Cond.selects RX0 yX0_targetBehind yX0_targetBehind, Cond.code yX0_targetBehind cX0_targetBehind 5 (some .int), Cond.fieldLink RX0 13 "WorkTree" "heights" "[I", Cond.fieldLink RX0 22 "WorkTree" "targets" "[I", Cond.fieldLink RX0 16 "WorkTree" "times" "[I", Cond.constant RX0 77 (65535), Cond.methodLink RX0 62 yX0_ancestorAt, Cond.instanceMethod yX0_ancestorAt, Cond.selects RX0 yX0_ancestorAt yX0_ancestorAt, Cond.code yX0_ancestorAt cX0_ancestorAt 5 (some .int), Cond.fieldLink RX0 9 "WorkTree" "parents" "[I", Cond.methodLink RX0 73 yX0_within, Cond.static yX0_within, Cond.code yX0_within cX0_within 3 (some .int), Cond.methodLink RX0 56 Lib.Math.min.name, Cond.static Lib.Math.min.name]
def wsX0_due_r2 : List Cond := [Cond.initialized "java/lang/Math", Cond.code Lib.Math.min.name Lib.Math.min.code 2 (some .int), Cond.methodLink RX0 78 Lib.Math.max.name, Cond.static Lib.Math.max.name, Cond.code Lib.Math.max.name Lib.Math.max.code 2 (some .int)]
def wsX0_due : List Cond := .code yX0_due cX0_due 2 (some .int) :: ((wsX0_due_r1 ++ wsX0_due_r2) ++ wsX00)
def wsX0_median : List Cond := .code yX0_median cX0_median 2 (some .int) :: ([.methodLink RX0 40 yX0_exists, .instanceMethod yX0_exists, .selects RX0 yX0_exists yX0_exists, .initialized RX0, .code yX0_exists cX0_exists 2 (some .boolean), .fieldLink RX0 36 "WorkTree" "count" "I", .methodLink RX0 44 yX0_medianTime, .instanceMethod yX0_medianTime, .selects RX0 yX0_medianTime yX0_medianTime, .code yX0_medianTime cX0_medianTime 5 (some .int), .fieldLink RX0 13 "WorkTree" "heights" "[I", .methodLink RX0 56 Lib.Math.min.name, .static Lib.Math.min.name, .initialized "java/lang/Math", .code Lib.Math.min.name Lib.Math.min.code 2 (some .int), .fieldLink RX0 16 "WorkTree" "times" "[I", .fieldLink RX0 9 "WorkTree" "parents" "[I", .fieldLink RX0 32 "WorkTree" "sortedTimes" "[I", .methodLink RX0 69 yX0_insertTime, .instanceMethod yX0_insertTime, .selects RX0 yX0_insertTime yX0_insertTime, .code yX0_insertTime cX0_insertTime 4 none] ++ wsX00)
def wsX0_ancestor : List Cond := .code yX0_ancestor cX0_ancestor 3 (some .int) :: ([.fieldLink RX0 13 "WorkTree" "heights" "[I", .methodLink RX0 40 yX0_exists, .instanceMethod yX0_exists, .selects RX0 yX0_exists yX0_exists, .initialized RX0, .code yX0_exists cX0_exists 2 (some .boolean), .fieldLink RX0 36 "WorkTree" "count" "I", .methodLink RX0 62 yX0_ancestorAt, .instanceMethod yX0_ancestorAt, .selects RX0 yX0_ancestorAt yX0_ancestorAt, .code yX0_ancestorAt cX0_ancestorAt 5 (some .int), .fieldLink RX0 9 "WorkTree" "parents" "[I"] ++ wsX00)
def wsX0_look : List Cond := .code yX0_look cX0_look 3 (some .long) :: ([.constantLong RX0 65 (-1), .constantLong RX0 67 (-2), .fieldLink RX0 13 "WorkTree" "heights" "[I", .fieldLink RX0 9 "WorkTree" "parents" "[I", .fieldLink RX0 16 "WorkTree" "times" "[I", .fieldLink RX0 22 "WorkTree" "targets" "[I", .fieldLink RX0 25 "WorkTree" "works" "[I", .fieldLink RX0 28 "WorkTree" "wrong" "[Z", .methodLink RX0 40 yX0_exists, .instanceMethod yX0_exists, .selects RX0 yX0_exists yX0_exists, .initialized RX0, .code yX0_exists cX0_exists 2 (some .boolean), .fieldLink RX0 36 "WorkTree" "count" "I"] ++ wsX00)
def wsX0_blocks : List Cond := .code yX0_blocks cX0_blocks 1 (some .int) :: ([.fieldLink RX0 36 "WorkTree" "count" "I"] ++ wsX00)
def wsX1_init : List Cond := .code yX1_init cX1_init 1 none :: ([.methodLink RX1 1 objectInit, .instanceMethod objectInit, .code objectInit ⟨#[0xb1]⟩ 1 none, .arrayClass .int, .fieldLink RX1 9 "WorkTreeModel" "parent" "[I", .fieldLink RX1 13 "WorkTreeModel" "height" "[I", .fieldLink RX1 16 "WorkTreeModel" "time" "[I", .fieldLink RX1 19 "WorkTreeModel" "target" "[I", .arrayClass .long, .fieldLink RX1 22 "WorkTreeModel" "work" "[J", .fieldLink RX1 26 "WorkTreeModel" "arrival" "[I", .arrayClass .boolean, .fieldLink RX1 29 "WorkTreeModel" "refused" "[Z", .fieldLink RX1 33 "WorkTreeModel" "times" "[I", .fieldLink RX1 36 "WorkTreeModel" "count" "I", .constant RX1 40 (32768)] ++ wsX10)
def wsX1_is : List Cond := .code yX1_is cX1_is 2 (some .boolean) :: ([.fieldLink RX1 36 "WorkTreeModel" "count" "I"] ++ wsX10)
def wsX1_median : List Cond := .code yX1_median cX1_median 5 (some .int) :: ([.fieldLink RX1 33 "WorkTreeModel" "times" "[I", .fieldLink RX1 16 "WorkTreeModel" "time" "[I", .fieldLink RX1 9 "WorkTreeModel" "parent" "[I", .methodLink RX1 41 yX1_is, .instanceMethod yX1_is, .selects RX1 yX1_is yX1_is, .initialized RX1, .code yX1_is cX1_is 2 (some .boolean), .fieldLink RX1 36 "WorkTreeModel" "count" "I"] ++ wsX10)
def wsX1_ancestor : List Cond := .code yX1_ancestor cX1_ancestor 4 (some .int) :: ([.fieldLink RX1 13 "WorkTreeModel" "height" "[I", .fieldLink RX1 9 "WorkTreeModel" "parent" "[I", .methodLink RX1 41 yX1_is, .instanceMethod yX1_is, .selects RX1 yX1_is yX1_is, .initialized RX1, .code yX1_is cX1_is 2 (some .boolean), .fieldLink RX1 36 "WorkTreeModel" "count" "I"] ++ wsX10)
def wsX1_due : List Cond := .code yX1_due cX1_due 5 (some .int) :: ([.fieldLink RX1 19 "WorkTreeModel" "target" "[I", .fieldLink RX1 13 "WorkTreeModel" "height" "[I", .fieldLink RX1 16 "WorkTreeModel" "time" "[I", .constant RX1 64 (65535), .methodLink RX1 41 yX1_is, .instanceMethod yX1_is, .selects RX1 yX1_is yX1_is, .initialized RX1, .code yX1_is cX1_is 2 (some .boolean), .fieldLink RX1 36 "WorkTreeModel" "count" "I", .methodLink RX1 60 yX1_ancestor, .instanceMethod yX1_ancestor, .selects RX1 yX1_ancestor yX1_ancestor, .code yX1_ancestor cX1_ancestor 4 (some .int), .fieldLink RX1 9 "WorkTreeModel" "parent" "[I"] ++ wsX10)
def wsX1_add_r1 : List Cond := [Cond.fieldLink RX1 36 "WorkTreeModel" "count" "I", Cond.fieldLink RX1 9 "WorkTreeModel" "parent" "[I", Cond.fieldLink RX1 16 "WorkTreeModel" "time" "[I", Cond.fieldLink RX1 26 "WorkTreeModel" "arrival" "[I", Cond.fieldLink RX1 13 "WorkTreeModel" "height" "[I", Cond.fieldLink RX1 19 "WorkTreeModel" "target" "[I", Cond.fieldLink RX1 22 "WorkTreeModel" "work" "[J", Cond.constant RX1 52 (16777216), Cond.methodLink RX1 41 yX1_is, Cond.instanceMethod yX1_is, Cond.selects RX1 yX1_is yX1_is, Cond.initialized RX1, Cond.code yX1_is cX1_is 2 (some .boolean), Cond.methodLink RX1 45 yX1_median, Cond.instanceMethod yX1_median, Cond.selects RX1 yX1_median yX1_median, Cond.code yX1_median cX1_median 5 (some .int), Cond.fieldLink RX1 33 "WorkTreeModel" "times" "[I", Cond.methodLink RX1 49 yX1_due, Cond.instanceMethod yX1_due, Cond.selects RX1 yX1_due yX1_due, Cond.code yX1_due cX1_due 5 (some .int), Cond.constant RX1 64 (65535), Cond.methodLink RX1 60 yX1_ancestor]
def wsX1_add_r2 : List Cond := [Cond.instanceMethod yX1_ancestor, Cond.selects RX1 yX1_ancestor yX1_ancestor, Cond.code yX1_ancestor cX1_ancestor 4 (some .int)]
def wsX1_add : List Cond := .code yX1_add cX1_add 5 (some .int) :: ((wsX1_add_r1 ++ wsX1_add_r2) ++ wsX10)
def wsX1_wrong : List Cond := .code yX1_wrong cX1_wrong 4 (some .boolean) :: ([.fieldLink RX1 29 "WorkTreeModel" "refused" "[Z", .fieldLink RX1 9 "WorkTreeModel" "parent" "[I"] ++ wsX10)
def wsX1_best : List Cond := .code yX1_best cX1_best 3 (some .int) :: ([.fieldLink RX1 36 "WorkTreeModel" "count" "I", .fieldLink RX1 22 "WorkTreeModel" "work" "[J", .fieldLink RX1 26 "WorkTreeModel" "arrival" "[I", .methodLink RX1 57 yX1_wrong, .instanceMethod yX1_wrong, .selects RX1 yX1_wrong yX1_wrong, .initialized RX1, .code yX1_wrong cX1_wrong 4 (some .boolean), .fieldLink RX1 29 "WorkTreeModel" "refused" "[Z", .fieldLink RX1 9 "WorkTreeModel" "parent" "[I"] ++ wsX10)
def wsX1_refuse : List Cond := .code yX1_refuse cX1_refuse 2 (some .int) :: ([.fieldLink RX1 29 "WorkTreeModel" "refused" "[Z", .methodLink RX1 41 yX1_is, .instanceMethod yX1_is, .selects RX1 yX1_is yX1_is, .initialized RX1, .code yX1_is cX1_is 2 (some .boolean), .fieldLink RX1 36 "WorkTreeModel" "count" "I", .methodLink RX1 53 yX1_best, .instanceMethod yX1_best, .selects RX1 yX1_best yX1_best, .code yX1_best cX1_best 3 (some .int), .fieldLink RX1 22 "WorkTreeModel" "work" "[J", .fieldLink RX1 26 "WorkTreeModel" "arrival" "[I", .methodLink RX1 57 yX1_wrong, .instanceMethod yX1_wrong, .selects RX1 yX1_wrong yX1_wrong, .code yX1_wrong cX1_wrong 4 (some .boolean), .fieldLink RX1 9 "WorkTreeModel" "parent" "[I"] ++ wsX10)
def wsX1_fork : List Cond := .code yX1_fork cX1_fork 5 (some .int) :: ([.fieldLink RX1 13 "WorkTreeModel" "height" "[I", .fieldLink RX1 9 "WorkTreeModel" "parent" "[I", .methodLink RX1 41 yX1_is, .instanceMethod yX1_is, .selects RX1 yX1_is yX1_is, .initialized RX1, .code yX1_is cX1_is 2 (some .boolean), .fieldLink RX1 36 "WorkTreeModel" "count" "I"] ++ wsX10)
def wsX1_look : List Cond := .code yX1_look cX1_look 3 (some .long) :: ([.constantLong RX1 65 (-1), .constantLong RX1 67 (-2), .fieldLink RX1 13 "WorkTreeModel" "height" "[I", .fieldLink RX1 9 "WorkTreeModel" "parent" "[I", .fieldLink RX1 16 "WorkTreeModel" "time" "[I", .fieldLink RX1 19 "WorkTreeModel" "target" "[I", .fieldLink RX1 22 "WorkTreeModel" "work" "[J", .methodLink RX1 41 yX1_is, .instanceMethod yX1_is, .selects RX1 yX1_is yX1_is, .initialized RX1, .code yX1_is cX1_is 2 (some .boolean), .fieldLink RX1 36 "WorkTreeModel" "count" "I", .methodLink RX1 57 yX1_wrong, .instanceMethod yX1_wrong, .selects RX1 yX1_wrong yX1_wrong, .code yX1_wrong cX1_wrong 4 (some .boolean), .fieldLink RX1 29 "WorkTreeModel" "refused" "[Z"] ++ wsX10)
def wsX1_blocks : List Cond := .code yX1_blocks cX1_blocks 1 (some .int) :: ([.fieldLink RX1 36 "WorkTreeModel" "count" "I"] ++ wsX10)
def wsJ9_max_7cf53 : List Cond := .code yJ9_max_7cf53 cJ9_max_7cf53 2 (some .int) :: ([])
def wsJ9_min_7cf53 : List Cond := .code yJ9_min_7cf53 cJ9_min_7cf53 2 (some .int) :: ([])
def wsL_law_r1 : List Cond := [Cond.classLink RL 7 RX0, Cond.instantiable RX0 9, Cond.initialized RX0, Cond.classLink RL 10 RX1, Cond.instantiable RX1 9, Cond.initialized RX1, Cond.methodLink RL 9 yX0_init, Cond.instanceMethod yX0_init, Cond.code yX0_init cX0_init 1 none, Cond.methodLink RX0 1 objectInit, Cond.instanceMethod objectInit, Cond.code objectInit ⟨#[0xb1]⟩ 1 none, Cond.arrayClass .int, Cond.fieldLink RX0 9 "WorkTree" "parents" "[I", Cond.fieldLink RX0 13 "WorkTree" "heights" "[I", Cond.fieldLink RX0 16 "WorkTree" "times" "[I", Cond.fieldLink RX0 19 "WorkTree" "arrivals" "[I", Cond.fieldLink RX0 22 "WorkTree" "targets" "[I", Cond.fieldLink RX0 25 "WorkTree" "works" "[I", Cond.arrayClass .boolean, Cond.fieldLink RX0 28 "WorkTree" "wrong" "[Z", Cond.fieldLink RX0 32 "WorkTree" "sortedTimes" "[I", Cond.constant RX0 35 (32768), Cond.fieldLink RX0 36 "WorkTree" "count" "I"]
def wsL_law_r2 : List Cond := [Cond.methodLink RL 12 yX1_init, Cond.instanceMethod yX1_init, Cond.code yX1_init cX1_init 1 none, Cond.methodLink RX1 1 objectInit, Cond.fieldLink RX1 9 "WorkTreeModel" "parent" "[I", Cond.fieldLink RX1 13 "WorkTreeModel" "height" "[I", Cond.fieldLink RX1 16 "WorkTreeModel" "time" "[I", Cond.fieldLink RX1 19 "WorkTreeModel" "target" "[I", Cond.arrayClass .long, Cond.fieldLink RX1 22 "WorkTreeModel" "work" "[J", Cond.fieldLink RX1 26 "WorkTreeModel" "arrival" "[I", Cond.fieldLink RX1 29 "WorkTreeModel" "refused" "[Z", Cond.fieldLink RX1 33 "WorkTreeModel" "times" "[I", Cond.fieldLink RX1 36 "WorkTreeModel" "count" "I", Cond.constant RX1 40 (32768), Cond.methodLink RL 13 yX0_add, Cond.instanceMethod yX0_add, Cond.selects RX0 yX0_add yX0_add, Cond.code yX0_add cX0_add 6 (some .int), Cond.constant RX0 51 (16777216), Cond.methodLink RX0 40 yX0_exists, Cond.instanceMethod yX0_exists, Cond.selects RX0 yX0_exists yX0_exists, Cond.code yX0_exists cX0_exists 2 (some .boolean)]
def wsL_law_r3 : List Cond := [Cond.methodLink RX0 44 yX0_medianTime, Cond.instanceMethod yX0_medianTime, Cond.selects RX0 yX0_medianTime yX0_medianTime, Cond.code yX0_medianTime cX0_medianTime 5 (some .int), Cond.methodLink RX0 56 Lib.Math.min.name, Cond.static Lib.Math.min.name, Cond.initialized "java/lang/Math", Cond.code Lib.Math.min.name Lib.Math.min.code 2 (some .int), Cond.methodLink RX0 69 yX0_insertTime, Cond.instanceMethod yX0_insertTime, Cond.selects RX0 yX0_insertTime yX0_insertTime, Cond.code yX0_insertTime cX0_insertTime 4 none, Cond.methodLink RX0 48 yX0_targetBehind, Cond.instanceMethod yX0_targetBehind, Cond.selects RX0 yX0_targetBehind yX0_targetBehind, Cond.code yX0_targetBehind cX0_targetBehind 5 (some .int), Cond.constant RX0 77 (65535), Cond.methodLink RX0 62 yX0_ancestorAt, Cond.instanceMethod yX0_ancestorAt, Cond.selects RX0 yX0_ancestorAt yX0_ancestorAt, Cond.code yX0_ancestorAt cX0_ancestorAt 5 (some .int), Cond.methodLink RX0 73 yX0_within, Cond.static yX0_within, Cond.code yX0_within cX0_within 3 (some .int)]
def wsL_law_r4 : List Cond := [Cond.methodLink RX0 78 Lib.Math.max.name, Cond.static Lib.Math.max.name, Cond.code Lib.Math.max.name Lib.Math.max.code 2 (some .int), Cond.methodLink RL 17 yX1_add, Cond.instanceMethod yX1_add, Cond.selects RX1 yX1_add yX1_add, Cond.code yX1_add cX1_add 5 (some .int), Cond.constant RX1 52 (16777216), Cond.methodLink RX1 41 yX1_is, Cond.instanceMethod yX1_is, Cond.selects RX1 yX1_is yX1_is, Cond.code yX1_is cX1_is 2 (some .boolean), Cond.methodLink RX1 45 yX1_median, Cond.instanceMethod yX1_median, Cond.selects RX1 yX1_median yX1_median, Cond.code yX1_median cX1_median 5 (some .int), Cond.methodLink RX1 49 yX1_due, Cond.instanceMethod yX1_due, Cond.selects RX1 yX1_due yX1_due, Cond.code yX1_due cX1_due 5 (some .int), Cond.constant RX1 64 (65535), Cond.methodLink RX1 60 yX1_ancestor, Cond.instanceMethod yX1_ancestor, Cond.selects RX1 yX1_ancestor yX1_ancestor]
def wsL_law_r5 : List Cond := [Cond.code yX1_ancestor cX1_ancestor 4 (some .int), Cond.methodLink RL 18 yX0_refuse, Cond.instanceMethod yX0_refuse, Cond.selects RX0 yX0_refuse yX0_refuse, Cond.code yX0_refuse cX0_refuse 3 (some .int), Cond.methodLink RX0 52 yX0_bestBlock, Cond.instanceMethod yX0_bestBlock, Cond.selects RX0 yX0_bestBlock yX0_bestBlock, Cond.code yX0_bestBlock cX0_bestBlock 3 (some .int), Cond.methodLink RX0 81 yX0_isBetter, Cond.instanceMethod yX0_isBetter, Cond.selects RX0 yX0_isBetter yX0_isBetter, Cond.code yX0_isBetter cX0_isBetter 3 (some .boolean), Cond.methodLink RL 22 yX1_refuse, Cond.instanceMethod yX1_refuse, Cond.selects RX1 yX1_refuse yX1_refuse, Cond.code yX1_refuse cX1_refuse 2 (some .int), Cond.methodLink RX1 53 yX1_best, Cond.instanceMethod yX1_best, Cond.selects RX1 yX1_best yX1_best, Cond.code yX1_best cX1_best 3 (some .int), Cond.methodLink RX1 57 yX1_wrong, Cond.instanceMethod yX1_wrong, Cond.selects RX1 yX1_wrong yX1_wrong]
def wsL_law_r6 : List Cond := [Cond.code yX1_wrong cX1_wrong 4 (some .boolean), Cond.methodLink RL 23 yX0_best, Cond.instanceMethod yX0_best, Cond.selects RX0 yX0_best yX0_best, Cond.code yX0_best cX0_best 1 (some .int), Cond.methodLink RL 27 yX1_best, Cond.methodLink RL 28 yX0_fork, Cond.instanceMethod yX0_fork, Cond.selects RX0 yX0_fork yX0_fork, Cond.code yX0_fork cX0_fork 7 (some .int), Cond.methodLink RL 32 yX1_fork, Cond.instanceMethod yX1_fork, Cond.selects RX1 yX1_fork yX1_fork, Cond.code yX1_fork cX1_fork 5 (some .int), Cond.methodLink RL 33 yX0_due, Cond.instanceMethod yX0_due, Cond.selects RX0 yX0_due yX0_due, Cond.code yX0_due cX0_due 2 (some .int), Cond.methodLink RL 36 yX1_due, Cond.methodLink RL 37 yX0_median, Cond.instanceMethod yX0_median, Cond.selects RX0 yX0_median yX0_median, Cond.code yX0_median cX0_median 2 (some .int), Cond.methodLink RL 40 yX1_median]
def wsL_law_r7 : List Cond := [Cond.methodLink RL 41 yX0_ancestor, Cond.instanceMethod yX0_ancestor, Cond.selects RX0 yX0_ancestor yX0_ancestor, Cond.code yX0_ancestor cX0_ancestor 3 (some .int), Cond.methodLink RL 44 yX1_ancestor, Cond.methodLink RL 45 yX0_look, Cond.instanceMethod yX0_look, Cond.selects RX0 yX0_look yX0_look, Cond.code yX0_look cX0_look 3 (some .long), Cond.constantLong RX0 65 (-1), Cond.constantLong RX0 67 (-2), Cond.methodLink RL 49 yX1_look, Cond.instanceMethod yX1_look, Cond.selects RX1 yX1_look yX1_look, Cond.code yX1_look cX1_look 3 (some .long), Cond.constantLong RX1 65 (-1), Cond.constantLong RX1 67 (-2), Cond.methodLink RL 50 yX0_blocks, Cond.instanceMethod yX0_blocks, Cond.selects RX0 yX0_blocks yX0_blocks, Cond.code yX0_blocks cX0_blocks 1 (some .int), Cond.methodLink RL 53 yX1_blocks, Cond.instanceMethod yX1_blocks, Cond.selects RX1 yX1_blocks yX1_blocks]
def wsL_law_r8 : List Cond := [Cond.code yX1_blocks cX1_blocks 1 (some .int)]
def wsL_law : List Cond := (wsL_law_r1 ++ (wsL_law_r2 ++ (wsL_law_r3 ++ (wsL_law_r4 ++ (wsL_law_r5 ++ (wsL_law_r6 ++ (wsL_law_r7 ++ wsL_law_r8))))))) ++ wsX00 ++ wsX10 ++ ([] : List Cond)
set_option maxRecDepth 20000 in
theorem wsL_law_in : ∀ w ∈ wsL_law, w ∈ lw_tbl := fun w h => (goodIn_p wsL_law [17, 20, 133, 55, 59, 63, 66, 70, 74, 78, 81, 84, 168, 172, 176, 180, 184, 90, 94, 98, 190, 194, 198, 102, 106, 203, 110, 114, 118, 122, 210, 128, 216] (by decide +kernel) (by decide +kernel) w h).1
theorem inlX0 : ∀ w ∈ wsX00, w ∈ wsL_law := fun _ h => List.mem_append_left _ (List.mem_append_left _ (List.mem_append_right _ h))
theorem inX0 : ∀ w ∈ wsX00, w ∈ lw_tbl := fun w h => wsL_law_in w (inlX0 w h)
theorem inlX1 : ∀ w ∈ wsX10, w ∈ wsL_law := fun _ h => List.mem_append_left _ (List.mem_append_right _ h)
theorem inX1 : ∀ w ∈ wsX10, w ∈ lw_tbl := fun w h => wsL_law_in w (inlX1 w h)
theorem inJ9 : ∀ w ∈ wsJ90, w ∈ lw_tbl := by decide +kernel
set_option maxRecDepth 20000 in
theorem ggX0_add_X0_exists : GoodIn wsX0_add wsX0_exists := goodIn_r _ [14, 1, 43, 44, 45, 46, 47, 48, 49, 50, 51] (by decide +kernel) (by decide +kernel)
set_option maxRecDepth 20000 in
theorem gX0_add_X0_exists : GoodIn wsX0_add (wsV RX0 40 RX0 yX0_exists wsX0_exists) := goodIn_app (goodIn_of _ (by decide +kernel)) ggX0_add_X0_exists
set_option maxRecDepth 20000 in
theorem ggX0_add_X0_medianTime : GoodIn wsX0_add wsX0_medianTime := goodIn_r _ [18, 3, 19, 20, 21, 22, 4, 2, 23, 24, 25, 26, 13, 27, 43, 44, 45, 46, 47, 48, 49, 50, 51] (by decide +kernel) (by decide +kernel)
set_option maxRecDepth 20000 in
theorem gX0_add_X0_medianTime : GoodIn wsX0_add (wsV RX0 44 RX0 yX0_medianTime wsX0_medianTime) := goodIn_app (goodIn_of _ (by decide +kernel)) ggX0_add_X0_medianTime
set_option maxRecDepth 20000 in
theorem ggX0_add_X0_targetBehind : GoodIn wsX0_add wsX0_targetBehind := goodIn_r _ [31, 3, 6, 4, 32, 33, 34, 35, 13, 36, 2, 37, 38, 39, 19, 20, 21, 22, 40, 41, 42, 43, 44, 45, 46, 47, 48, 49, 50, 51] (by decide +kernel) (by decide +kernel)
set_option maxRecDepth 20000 in
theorem gX0_add_X0_targetBehind : GoodIn wsX0_add (wsV RX0 48 RX0 yX0_targetBehind wsX0_targetBehind) := goodIn_app (goodIn_of _ (by decide +kernel)) ggX0_add_X0_targetBehind
set_option maxRecDepth 20000 in
theorem ggX0_refuse_X0_exists : GoodIn wsX0_refuse wsX0_exists := goodIn_r _ [8, 2, 19, 20, 21, 22, 23, 24, 25, 26, 27] (by decide +kernel) (by decide +kernel)
set_option maxRecDepth 20000 in
theorem gX0_refuse_X0_exists : GoodIn wsX0_refuse (wsV RX0 40 RX0 yX0_exists wsX0_exists) := goodIn_app (goodIn_of _ (by decide +kernel)) ggX0_refuse_X0_exists
set_option maxRecDepth 20000 in
theorem ggX0_refuse_X0_bestBlock : GoodIn wsX0_refuse wsX0_bestBlock := goodIn_r _ [12, 2, 1, 13, 14, 15, 7, 16, 17, 18, 19, 20, 21, 22, 23, 24, 25, 26, 27] (by decide +kernel) (by decide +kernel)
set_option maxRecDepth 20000 in
theorem gX0_refuse_X0_bestBlock : GoodIn wsX0_refuse (wsV RX0 52 RX0 yX0_bestBlock wsX0_bestBlock) := goodIn_app (goodIn_of _ (by decide +kernel)) ggX0_refuse_X0_bestBlock
set_option maxRecDepth 20000 in
theorem ggX0_best_X0_bestBlock : GoodIn wsX0_best wsX0_bestBlock := goodIn_r _ [5, 6, 7, 8, 9, 10, 4, 11, 12, 13, 14, 15, 16, 17, 18, 19, 20, 21, 22] (by decide +kernel) (by decide +kernel)
set_option maxRecDepth 20000 in
theorem gX0_best_X0_bestBlock : GoodIn wsX0_best (wsV RX0 52 RX0 yX0_bestBlock wsX0_bestBlock) := goodIn_app (goodIn_of _ (by decide +kernel)) ggX0_best_X0_bestBlock
set_option maxRecDepth 20000 in
theorem ggX0_fork_X0_exists : GoodIn wsX0_fork wsX0_exists := goodIn_r _ [11, 12, 17, 18, 19, 20, 21, 22, 23, 24, 25] (by decide +kernel) (by decide +kernel)
set_option maxRecDepth 20000 in
theorem gX0_fork_X0_exists : GoodIn wsX0_fork (wsV RX0 40 RX0 yX0_exists wsX0_exists) := goodIn_app (goodIn_of _ (by decide +kernel)) ggX0_fork_X0_exists
set_option maxRecDepth 20000 in
theorem ggX0_fork_X0_ancestorAt : GoodIn wsX0_fork wsX0_ancestorAt := goodIn_r _ [16, 1, 6, 17, 18, 19, 20, 21, 22, 23, 24, 25] (by decide +kernel) (by decide +kernel)
set_option maxRecDepth 20000 in
theorem gX0_fork_X0_ancestorAt : GoodIn wsX0_fork (wsV RX0 62 RX0 yX0_ancestorAt wsX0_ancestorAt) := goodIn_app (goodIn_of _ (by decide +kernel)) ggX0_fork_X0_ancestorAt
set_option maxRecDepth 20000 in
theorem ggX0_due_X0_exists : GoodIn wsX0_due wsX0_exists := goodIn_r _ [5, 6, 30, 31, 32, 33, 34, 35, 36, 37, 38] (by decide +kernel) (by decide +kernel)
set_option maxRecDepth 20000 in
theorem gX0_due_X0_exists : GoodIn wsX0_due (wsV RX0 40 RX0 yX0_exists wsX0_exists) := goodIn_app (goodIn_of _ (by decide +kernel)) ggX0_due_X0_exists
set_option maxRecDepth 20000 in
theorem ggX0_due_X0_targetBehind : GoodIn wsX0_due wsX0_targetBehind := goodIn_r _ [10, 11, 12, 13, 14, 15, 16, 17, 4, 18, 19, 20, 21, 22, 23, 24, 25, 26, 27, 28, 29, 30, 31, 32, 33, 34, 35, 36, 37, 38] (by decide +kernel) (by decide +kernel)
set_option maxRecDepth 20000 in
theorem gX0_due_X0_targetBehind : GoodIn wsX0_due (wsV RX0 48 RX0 yX0_targetBehind wsX0_targetBehind) := goodIn_app (goodIn_of _ (by decide +kernel)) ggX0_due_X0_targetBehind
set_option maxRecDepth 20000 in
theorem ggX0_median_X0_exists : GoodIn wsX0_median wsX0_exists := goodIn_r _ [5, 6, 23, 24, 25, 26, 27, 28, 29, 30, 31] (by decide +kernel) (by decide +kernel)
set_option maxRecDepth 20000 in
theorem gX0_median_X0_exists : GoodIn wsX0_median (wsV RX0 40 RX0 yX0_exists wsX0_exists) := goodIn_app (goodIn_of _ (by decide +kernel)) ggX0_median_X0_exists
set_option maxRecDepth 20000 in
theorem ggX0_median_X0_medianTime : GoodIn wsX0_median wsX0_medianTime := goodIn_r _ [10, 11, 12, 13, 14, 15, 16, 17, 18, 19, 20, 21, 4, 22, 23, 24, 25, 26, 27, 28, 29, 30, 31] (by decide +kernel) (by decide +kernel)
set_option maxRecDepth 20000 in
theorem gX0_median_X0_medianTime : GoodIn wsX0_median (wsV RX0 44 RX0 yX0_medianTime wsX0_medianTime) := goodIn_app (goodIn_of _ (by decide +kernel)) ggX0_median_X0_medianTime
set_option maxRecDepth 20000 in
theorem ggX0_ancestor_X0_exists : GoodIn wsX0_ancestor wsX0_exists := goodIn_r _ [6, 7, 13, 14, 15, 16, 17, 18, 19, 20, 21] (by decide +kernel) (by decide +kernel)
set_option maxRecDepth 20000 in
theorem gX0_ancestor_X0_exists : GoodIn wsX0_ancestor (wsV RX0 40 RX0 yX0_exists wsX0_exists) := goodIn_app (goodIn_of _ (by decide +kernel)) ggX0_ancestor_X0_exists
set_option maxRecDepth 20000 in
theorem ggX0_ancestor_X0_ancestorAt : GoodIn wsX0_ancestor wsX0_ancestorAt := goodIn_r _ [11, 1, 12, 13, 14, 15, 16, 17, 18, 19, 20, 21] (by decide +kernel) (by decide +kernel)
set_option maxRecDepth 20000 in
theorem gX0_ancestor_X0_ancestorAt : GoodIn wsX0_ancestor (wsV RX0 62 RX0 yX0_ancestorAt wsX0_ancestorAt) := goodIn_app (goodIn_of _ (by decide +kernel)) ggX0_ancestor_X0_ancestorAt
set_option maxRecDepth 20000 in
theorem ggX0_look_X0_exists : GoodIn wsX0_look wsX0_exists := goodIn_r _ [13, 14, 15, 16, 17, 18, 19, 20, 21, 22, 23] (by decide +kernel) (by decide +kernel)
set_option maxRecDepth 20000 in
theorem gX0_look_X0_exists : GoodIn wsX0_look (wsV RX0 40 RX0 yX0_exists wsX0_exists) := goodIn_app (goodIn_of _ (by decide +kernel)) ggX0_look_X0_exists
set_option maxRecDepth 20000 in
theorem ggX0_medianTime_X0_insertTime : GoodIn wsX0_medianTime wsX0_insertTime := goodIn_r _ [13, 8, 14, 15, 16, 17, 18, 19, 20, 21, 22] (by decide +kernel) (by decide +kernel)
set_option maxRecDepth 20000 in
theorem gX0_medianTime_X0_insertTime : GoodIn wsX0_medianTime (wsV RX0 69 RX0 yX0_insertTime wsX0_insertTime) := goodIn_app (goodIn_of _ (by decide +kernel)) ggX0_medianTime_X0_insertTime
set_option maxRecDepth 20000 in
theorem ggX0_targetBehind_X0_ancestorAt : GoodIn wsX0_targetBehind wsX0_ancestorAt := goodIn_r _ [9, 1, 10, 21, 22, 23, 24, 25, 26, 27, 28, 29] (by decide +kernel) (by decide +kernel)
set_option maxRecDepth 20000 in
theorem gX0_targetBehind_X0_ancestorAt : GoodIn wsX0_targetBehind (wsV RX0 62 RX0 yX0_ancestorAt wsX0_ancestorAt) := goodIn_app (goodIn_of _ (by decide +kernel)) ggX0_targetBehind_X0_ancestorAt
set_option maxRecDepth 20000 in
theorem ggX0_targetBehind_X0_within : GoodIn wsX0_targetBehind wsX0_within := goodIn_r _ [13, 14, 15, 16, 17, 18, 19, 20] (by decide +kernel) (by decide +kernel)
set_option maxRecDepth 20000 in
theorem gX0_targetBehind_X0_within : GoodIn wsX0_targetBehind (va_wsS RX0 73 yX0_within wsX0_within) := goodIn_app (goodIn_of _ (by decide +kernel)) ggX0_targetBehind_X0_within
set_option maxRecDepth 20000 in
theorem ggX0_bestBlock_X0_isBetter : GoodIn wsX0_bestBlock wsX0_isBetter := goodIn_r _ [7, 8, 9, 10, 11, 12, 13, 14, 15, 16, 17, 18] (by decide +kernel) (by decide +kernel)
set_option maxRecDepth 20000 in
theorem gX0_bestBlock_X0_isBetter : GoodIn wsX0_bestBlock (wsV RX0 81 RX0 yX0_isBetter wsX0_isBetter) := goodIn_app (goodIn_of _ (by decide +kernel)) ggX0_bestBlock_X0_isBetter
set_option maxRecDepth 20000 in
theorem ggX1_add_X1_is : GoodIn wsX1_add wsX1_is := goodIn_r _ [13, 1, 28, 29, 30, 31, 32, 33, 34, 35, 36] (by decide +kernel) (by decide +kernel)
set_option maxRecDepth 20000 in
theorem gX1_add_X1_is : GoodIn wsX1_add (wsV RX1 41 RX1 yX1_is wsX1_is) := goodIn_app (goodIn_of _ (by decide +kernel)) ggX1_add_X1_is
set_option maxRecDepth 20000 in
theorem ggX1_add_X1_median : GoodIn wsX1_add wsX1_median := goodIn_r _ [17, 18, 3, 2, 9, 10, 11, 12, 13, 1, 28, 29, 30, 31, 32, 33, 34, 35, 36] (by decide +kernel) (by decide +kernel)
set_option maxRecDepth 20000 in
theorem gX1_add_X1_median : GoodIn wsX1_add (wsV RX1 45 RX1 yX1_median wsX1_median) := goodIn_app (goodIn_of _ (by decide +kernel)) ggX1_add_X1_median
set_option maxRecDepth 20000 in
theorem ggX1_add_X1_due : GoodIn wsX1_add wsX1_due := goodIn_r _ [22, 6, 5, 3, 23, 9, 10, 11, 12, 13, 1, 24, 25, 26, 27, 2, 28, 29, 30, 31, 32, 33, 34, 35, 36] (by decide +kernel) (by decide +kernel)
set_option maxRecDepth 20000 in
theorem gX1_add_X1_due : GoodIn wsX1_add (wsV RX1 49 RX1 yX1_due wsX1_due) := goodIn_app (goodIn_of _ (by decide +kernel)) ggX1_add_X1_due
set_option maxRecDepth 20000 in
theorem ggX1_refuse_X1_is : GoodIn wsX1_refuse wsX1_is := goodIn_r _ [6, 7, 19, 20, 21, 22, 23, 24, 25, 26, 27] (by decide +kernel) (by decide +kernel)
set_option maxRecDepth 20000 in
theorem gX1_refuse_X1_is : GoodIn wsX1_refuse (wsV RX1 41 RX1 yX1_is wsX1_is) := goodIn_app (goodIn_of _ (by decide +kernel)) ggX1_refuse_X1_is
set_option maxRecDepth 20000 in
theorem ggX1_refuse_X1_best : GoodIn wsX1_refuse wsX1_best := goodIn_r _ [11, 7, 12, 13, 14, 15, 16, 5, 17, 1, 18, 19, 20, 21, 22, 23, 24, 25, 26, 27] (by decide +kernel) (by decide +kernel)
set_option maxRecDepth 20000 in
theorem gX1_refuse_X1_best : GoodIn wsX1_refuse (wsV RX1 53 RX1 yX1_best wsX1_best) := goodIn_app (goodIn_of _ (by decide +kernel)) ggX1_refuse_X1_best
set_option maxRecDepth 20000 in
theorem ggX1_best_X1_wrong : GoodIn wsX1_best wsX1_wrong := goodIn_r _ [8, 9, 10, 11, 12, 13, 14, 15, 16, 17, 18, 19] (by decide +kernel) (by decide +kernel)
set_option maxRecDepth 20000 in
theorem gX1_best_X1_wrong : GoodIn wsX1_best (wsV RX1 57 RX1 yX1_wrong wsX1_wrong) := goodIn_app (goodIn_of _ (by decide +kernel)) ggX1_best_X1_wrong
set_option maxRecDepth 20000 in
theorem ggX1_fork_X1_is : GoodIn wsX1_fork wsX1_is := goodIn_r _ [7, 8, 9, 10, 11, 12, 13, 14, 15, 16, 17] (by decide +kernel) (by decide +kernel)
set_option maxRecDepth 20000 in
theorem gX1_fork_X1_is : GoodIn wsX1_fork (wsV RX1 41 RX1 yX1_is wsX1_is) := goodIn_app (goodIn_of _ (by decide +kernel)) ggX1_fork_X1_is
set_option maxRecDepth 20000 in
theorem ggX1_due_X1_is : GoodIn wsX1_due wsX1_is := goodIn_r _ [9, 10, 16, 17, 18, 19, 20, 21, 22, 23, 24] (by decide +kernel) (by decide +kernel)
set_option maxRecDepth 20000 in
theorem gX1_due_X1_is : GoodIn wsX1_due (wsV RX1 41 RX1 yX1_is wsX1_is) := goodIn_app (goodIn_of _ (by decide +kernel)) ggX1_due_X1_is
set_option maxRecDepth 20000 in
theorem ggX1_due_X1_ancestor : GoodIn wsX1_due wsX1_ancestor := goodIn_r _ [14, 2, 15, 5, 6, 7, 8, 9, 10, 16, 17, 18, 19, 20, 21, 22, 23, 24] (by decide +kernel) (by decide +kernel)
set_option maxRecDepth 20000 in
theorem gX1_due_X1_ancestor : GoodIn wsX1_due (wsV RX1 60 RX1 yX1_ancestor wsX1_ancestor) := goodIn_app (goodIn_of _ (by decide +kernel)) ggX1_due_X1_ancestor
set_option maxRecDepth 20000 in
theorem ggX1_median_X1_is : GoodIn wsX1_median wsX1_is := goodIn_r _ [8, 9, 10, 11, 12, 13, 14, 15, 16, 17, 18] (by decide +kernel) (by decide +kernel)
set_option maxRecDepth 20000 in
theorem gX1_median_X1_is : GoodIn wsX1_median (wsV RX1 41 RX1 yX1_is wsX1_is) := goodIn_app (goodIn_of _ (by decide +kernel)) ggX1_median_X1_is
set_option maxRecDepth 20000 in
theorem ggX1_ancestor_X1_is : GoodIn wsX1_ancestor wsX1_is := goodIn_r _ [7, 8, 9, 10, 11, 12, 13, 14, 15, 16, 17] (by decide +kernel) (by decide +kernel)
set_option maxRecDepth 20000 in
theorem gX1_ancestor_X1_is : GoodIn wsX1_ancestor (wsV RX1 41 RX1 yX1_is wsX1_is) := goodIn_app (goodIn_of _ (by decide +kernel)) ggX1_ancestor_X1_is
set_option maxRecDepth 20000 in
theorem ggX1_look_X1_is : GoodIn wsX1_look wsX1_is := goodIn_r _ [12, 13, 19, 20, 21, 22, 23, 24, 25, 26, 27] (by decide +kernel) (by decide +kernel)
set_option maxRecDepth 20000 in
theorem gX1_look_X1_is : GoodIn wsX1_look (wsV RX1 41 RX1 yX1_is wsX1_is) := goodIn_app (goodIn_of _ (by decide +kernel)) ggX1_look_X1_is
set_option maxRecDepth 20000 in
theorem ggX1_look_X1_wrong : GoodIn wsX1_look wsX1_wrong := goodIn_r _ [17, 18, 4, 19, 20, 21, 22, 23, 24, 25, 26, 27] (by decide +kernel) (by decide +kernel)
set_option maxRecDepth 20000 in
theorem gX1_look_X1_wrong : GoodIn wsX1_look (wsV RX1 57 RX1 yX1_wrong wsX1_wrong) := goodIn_app (goodIn_of _ (by decide +kernel)) ggX1_look_X1_wrong
set_option maxRecDepth 20000 in
theorem ggL_law_X0_init : GoodIn wsL_law wsX0_init := goodIn_r _ [8, 9, 10, 11, 12, 13, 14, 15, 16, 17, 18, 19, 20, 21, 22, 23, 169, 170, 171, 172, 173, 174, 175, 176, 177] (by decide +kernel) (by decide +kernel)
set_option maxRecDepth 20000 in
theorem gL_law_X0_init : GoodIn wsL_law (wsX0_init) := ggL_law_X0_init
set_option maxRecDepth 20000 in
theorem ggL_law_X1_init : GoodIn wsL_law wsX1_init := goodIn_r _ [26, 27, 10, 11, 12, 28, 29, 30, 31, 32, 33, 34, 19, 35, 36, 37, 38, 178, 179, 180, 181, 182, 183, 184, 185, 186] (by decide +kernel) (by decide +kernel)
set_option maxRecDepth 20000 in
theorem gL_law_X1_init : GoodIn wsL_law (wsX1_init) := ggL_law_X1_init
set_option maxRecDepth 20000 in
theorem ggL_law_X0_add : GoodIn wsL_law wsX0_add := goodIn_r _ [42, 23, 13, 14, 15, 16, 17, 18, 43, 20, 44, 45, 46, 2, 47, 48, 49, 50, 51, 52, 53, 54, 55, 21, 56, 57, 58, 59, 60, 61, 62, 63, 64, 65, 66, 67, 68, 69, 70, 71, 72, 73, 74, 169, 170, 171, 172, 173, 174, 175, 176, 177] (by decide +kernel) (by decide +kernel)
set_option maxRecDepth 20000 in
theorem gL_law_X0_add : GoodIn wsL_law (wsV RL 13 RX0 yX0_add wsX0_add) := goodIn_app (goodIn_of _ (by decide +kernel)) ggL_law_X0_add
set_option maxRecDepth 20000 in
theorem ggL_law_X1_add : GoodIn wsL_law wsX1_add := goodIn_r _ [78, 37, 28, 30, 34, 29, 31, 33, 79, 80, 81, 82, 5, 83, 84, 85, 86, 87, 36, 88, 89, 90, 91, 92, 93, 94, 95, 96, 178, 179, 180, 181, 182, 183, 184, 185, 186] (by decide +kernel) (by decide +kernel)
set_option maxRecDepth 20000 in
theorem gL_law_X1_add : GoodIn wsL_law (wsV RL 17 RX1 yX1_add wsX1_add) := goodIn_app (goodIn_of _ (by decide +kernel)) ggL_law_X1_add
set_option maxRecDepth 20000 in
theorem ggL_law_X0_refuse : GoodIn wsL_law wsX0_refuse := goodIn_r _ [100, 20, 23, 13, 44, 45, 46, 2, 47, 101, 102, 103, 104, 105, 106, 107, 108, 18, 16, 169, 170, 171, 172, 173, 174, 175, 176, 177] (by decide +kernel) (by decide +kernel)
set_option maxRecDepth 20000 in
theorem gL_law_X0_refuse : GoodIn wsL_law (wsV RL 18 RX0 yX0_refuse wsX0_refuse) := goodIn_app (goodIn_of _ (by decide +kernel)) ggL_law_X0_refuse
set_option maxRecDepth 20000 in
theorem ggL_law_X1_refuse : GoodIn wsL_law wsX1_refuse := goodIn_r _ [112, 35, 80, 81, 82, 5, 83, 37, 113, 114, 115, 116, 33, 34, 117, 118, 119, 120, 28, 178, 179, 180, 181, 182, 183, 184, 185, 186] (by decide +kernel) (by decide +kernel)
set_option maxRecDepth 20000 in
theorem gL_law_X1_refuse : GoodIn wsL_law (wsV RL 22 RX1 yX1_refuse wsX1_refuse) := goodIn_app (goodIn_of _ (by decide +kernel)) ggL_law_X1_refuse
set_option maxRecDepth 20000 in
theorem ggL_law_X0_best : GoodIn wsL_law wsX0_best := goodIn_r _ [124, 101, 102, 103, 2, 104, 23, 20, 105, 106, 107, 108, 18, 16, 169, 170, 171, 172, 173, 174, 175, 176, 177] (by decide +kernel) (by decide +kernel)
set_option maxRecDepth 20000 in
theorem gL_law_X0_best : GoodIn wsL_law (wsV RL 23 RX0 yX0_best wsX0_best) := goodIn_app (goodIn_of _ (by decide +kernel)) ggL_law_X0_best
set_option maxRecDepth 20000 in
theorem ggL_law_X1_best : GoodIn wsL_law wsX1_best := goodIn_r _ [116, 37, 33, 34, 117, 118, 119, 5, 120, 35, 28, 178, 179, 180, 181, 182, 183, 184, 185, 186] (by decide +kernel) (by decide +kernel)
set_option maxRecDepth 20000 in
theorem gL_law_X1_best : GoodIn wsL_law (wsV RL 27 RX1 yX1_best wsX1_best) := goodIn_app (goodIn_of _ (by decide +kernel)) ggL_law_X1_best
set_option maxRecDepth 20000 in
theorem ggL_law_X0_fork : GoodIn wsL_law wsX0_fork := goodIn_r _ [129, 14, 52, 53, 54, 55, 13, 44, 45, 46, 2, 47, 23, 65, 66, 67, 68, 169, 170, 171, 172, 173, 174, 175, 176, 177] (by decide +kernel) (by decide +kernel)
set_option maxRecDepth 20000 in
theorem gL_law_X0_fork : GoodIn wsL_law (wsV RL 28 RX0 yX0_fork wsX0_fork) := goodIn_app (goodIn_of _ (by decide +kernel)) ggL_law_X0_fork
set_option maxRecDepth 20000 in
theorem ggL_law_X1_fork : GoodIn wsL_law wsX1_fork := goodIn_r _ [133, 29, 28, 80, 81, 82, 5, 83, 37, 178, 179, 180, 181, 182, 183, 184, 185, 186] (by decide +kernel) (by decide +kernel)
set_option maxRecDepth 20000 in
theorem gL_law_X1_fork : GoodIn wsL_law (wsV RL 32 RX1 yX1_fork wsX1_fork) := goodIn_app (goodIn_of _ (by decide +kernel)) ggL_law_X1_fork
set_option maxRecDepth 20000 in
theorem ggL_law_X0_due : GoodIn wsL_law wsX0_due := goodIn_r _ [137, 44, 45, 46, 2, 47, 23, 60, 61, 62, 63, 14, 17, 15, 64, 65, 66, 67, 68, 13, 69, 70, 71, 52, 53, 54, 55, 72, 73, 74, 169, 170, 171, 172, 173, 174, 175, 176, 177] (by decide +kernel) (by decide +kernel)
set_option maxRecDepth 20000 in
theorem gL_law_X0_due : GoodIn wsL_law (wsV RL 33 RX0 yX0_due wsX0_due) := goodIn_app (goodIn_of _ (by decide +kernel)) ggL_law_X0_due
set_option maxRecDepth 20000 in
theorem ggL_law_X1_due : GoodIn wsL_law wsX1_due := goodIn_r _ [91, 31, 29, 30, 92, 80, 81, 82, 5, 83, 37, 93, 94, 95, 96, 28, 178, 179, 180, 181, 182, 183, 184, 185, 186] (by decide +kernel) (by decide +kernel)
set_option maxRecDepth 20000 in
theorem gL_law_X1_due : GoodIn wsL_law (wsV RL 36 RX1 yX1_due wsX1_due) := goodIn_app (goodIn_of _ (by decide +kernel)) ggL_law_X1_due
set_option maxRecDepth 20000 in
theorem ggL_law_X0_median : GoodIn wsL_law wsX0_median := goodIn_r _ [142, 44, 45, 46, 2, 47, 23, 48, 49, 50, 51, 14, 52, 53, 54, 55, 15, 13, 21, 56, 57, 58, 59, 169, 170, 171, 172, 173, 174, 175, 176, 177] (by decide +kernel) (by decide +kernel)
set_option maxRecDepth 20000 in
theorem gL_law_X0_median : GoodIn wsL_law (wsV RL 37 RX0 yX0_median wsX0_median) := goodIn_app (goodIn_of _ (by decide +kernel)) ggL_law_X0_median
set_option maxRecDepth 20000 in
theorem ggL_law_X1_median : GoodIn wsL_law wsX1_median := goodIn_r _ [87, 36, 30, 28, 80, 81, 82, 5, 83, 37, 178, 179, 180, 181, 182, 183, 184, 185, 186] (by decide +kernel) (by decide +kernel)
set_option maxRecDepth 20000 in
theorem gL_law_X1_median : GoodIn wsL_law (wsV RL 40 RX1 yX1_median wsX1_median) := goodIn_app (goodIn_of _ (by decide +kernel)) ggL_law_X1_median
set_option maxRecDepth 20000 in
theorem ggL_law_X0_ancestor : GoodIn wsL_law wsX0_ancestor := goodIn_r _ [147, 14, 44, 45, 46, 2, 47, 23, 65, 66, 67, 68, 13, 169, 170, 171, 172, 173, 174, 175, 176, 177] (by decide +kernel) (by decide +kernel)
set_option maxRecDepth 20000 in
theorem gL_law_X0_ancestor : GoodIn wsL_law (wsV RL 41 RX0 yX0_ancestor wsX0_ancestor) := goodIn_app (goodIn_of _ (by decide +kernel)) ggL_law_X0_ancestor
set_option maxRecDepth 20000 in
theorem ggL_law_X1_ancestor : GoodIn wsL_law wsX1_ancestor := goodIn_r _ [96, 29, 28, 80, 81, 82, 5, 83, 37, 178, 179, 180, 181, 182, 183, 184, 185, 186] (by decide +kernel) (by decide +kernel)
set_option maxRecDepth 20000 in
theorem gL_law_X1_ancestor : GoodIn wsL_law (wsV RL 44 RX1 yX1_ancestor wsX1_ancestor) := goodIn_app (goodIn_of _ (by decide +kernel)) ggL_law_X1_ancestor
set_option maxRecDepth 20000 in
theorem ggL_law_X0_look : GoodIn wsL_law wsX0_look := goodIn_r _ [152, 153, 154, 14, 13, 15, 17, 18, 20, 44, 45, 46, 2, 47, 23, 169, 170, 171, 172, 173, 174, 175, 176, 177] (by decide +kernel) (by decide +kernel)
set_option maxRecDepth 20000 in
theorem gL_law_X0_look : GoodIn wsL_law (wsV RL 45 RX0 yX0_look wsX0_look) := goodIn_app (goodIn_of _ (by decide +kernel)) ggL_law_X0_look
set_option maxRecDepth 20000 in
theorem ggL_law_X1_look : GoodIn wsL_law wsX1_look := goodIn_r _ [158, 159, 160, 29, 28, 30, 31, 33, 80, 81, 82, 5, 83, 37, 117, 118, 119, 120, 35, 178, 179, 180, 181, 182, 183, 184, 185, 186] (by decide +kernel) (by decide +kernel)
set_option maxRecDepth 20000 in
theorem gL_law_X1_look : GoodIn wsL_law (wsV RL 49 RX1 yX1_look wsX1_look) := goodIn_app (goodIn_of _ (by decide +kernel)) ggL_law_X1_look
set_option maxRecDepth 20000 in
theorem ggL_law_X0_blocks : GoodIn wsL_law wsX0_blocks := goodIn_r _ [164, 23, 169, 170, 171, 172, 173, 174, 175, 176, 177] (by decide +kernel) (by decide +kernel)
set_option maxRecDepth 20000 in
theorem gL_law_X0_blocks : GoodIn wsL_law (wsV RL 50 RX0 yX0_blocks wsX0_blocks) := goodIn_app (goodIn_of _ (by decide +kernel)) ggL_law_X0_blocks
set_option maxRecDepth 20000 in
theorem ggL_law_X1_blocks : GoodIn wsL_law wsX1_blocks := goodIn_r _ [168, 37, 178, 179, 180, 181, 182, 183, 184, 185, 186] (by decide +kernel) (by decide +kernel)
set_option maxRecDepth 20000 in
theorem gL_law_X1_blocks : GoodIn wsL_law (wsV RL 53 RX1 yX1_blocks wsX1_blocks) := goodIn_app (goodIn_of _ (by decide +kernel)) ggL_law_X1_blocks
abbrev vwCl : List vw_C := [(RX0, TX0, 9), (RX1, TX1, 9)]
