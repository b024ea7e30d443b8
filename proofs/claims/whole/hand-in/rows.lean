section
-- ===== PART A: goes FIRST, ahead of the names: the tables' words, and 'selects' of the private methods out of them =====
/-- a private method of a class that the tables say can be made, by its rows of tables_1 -/
def lw_okq (q : MethodName × Nat) : Prop := (q.1.cls ≠ "java/lang/invoke/MethodHandle" ∧ q.1.cls ≠ "java/lang/invoke/VarHandle") ∧ Cond.instantiable q.1.cls q.2 ∈ tables_1 ∧ Cond.privateMethod q.1 ∈ tables_1 ∧ Cond.instanceMethod q.1 ∈ tables_1
theorem lw_p0 : lw_okq (⟨"WorkTree", "exists", "(I)Z"⟩, 9) := ⟨⟨by decide +kernel, by decide +kernel⟩, List.mem_of_getElem? (i := 5) (by decide +kernel), List.mem_of_getElem? (i := 48) (by decide +kernel), List.mem_of_getElem? (i := 49) (by decide +kernel)⟩
theorem lw_p1 : lw_okq (⟨"WorkTree", "medianTime", "(I)I"⟩, 9) := ⟨⟨by decide +kernel, by decide +kernel⟩, List.mem_of_getElem? (i := 5) (by decide +kernel), List.mem_of_getElem? (i := 52) (by decide +kernel), List.mem_of_getElem? (i := 53) (by decide +kernel)⟩
theorem lw_p2 : lw_okq (⟨"WorkTree", "insertTime", "(II)V"⟩, 9) := ⟨⟨by decide +kernel, by decide +kernel⟩, List.mem_of_getElem? (i := 5) (by decide +kernel), List.mem_of_getElem? (i := 59) (by decide +kernel), List.mem_of_getElem? (i := 60) (by decide +kernel)⟩
theorem lw_p3 : lw_okq (⟨"WorkTree", "targetBehind", "(I)I"⟩, 9) := ⟨⟨by decide +kernel, by decide +kernel⟩, List.mem_of_getElem? (i := 5) (by decide +kernel), List.mem_of_getElem? (i := 63) (by decide +kernel), List.mem_of_getElem? (i := 64) (by decide +kernel)⟩
theorem lw_p4 : lw_okq (⟨"WorkTree", "ancestorAt", "(II)I"⟩, 9) := ⟨⟨by decide +kernel, by decide +kernel⟩, List.mem_of_getElem? (i := 5) (by decide +kernel), List.mem_of_getElem? (i := 67) (by decide +kernel), List.mem_of_getElem? (i := 68) (by decide +kernel)⟩
theorem lw_p5 : lw_okq (⟨"WorkTree", "bestBlock", "()I"⟩, 9) := ⟨⟨by decide +kernel, by decide +kernel⟩, List.mem_of_getElem? (i := 5) (by decide +kernel), List.mem_of_getElem? (i := 83) (by decide +kernel), List.mem_of_getElem? (i := 84) (by decide +kernel)⟩
theorem lw_p6 : lw_okq (⟨"WorkTree", "isBetter", "(II)Z"⟩, 9) := ⟨⟨by decide +kernel, by decide +kernel⟩, List.mem_of_getElem? (i := 5) (by decide +kernel), List.mem_of_getElem? (i := 87) (by decide +kernel), List.mem_of_getElem? (i := 88) (by decide +kernel)⟩
theorem lw_p7 : lw_okq (⟨"WorkTreeModel", "is", "(I)Z"⟩, 9) := ⟨⟨by decide +kernel, by decide +kernel⟩, List.mem_of_getElem? (i := 121) (by decide +kernel), List.mem_of_getElem? (i := 161) (by decide +kernel), List.mem_of_getElem? (i := 162) (by decide +kernel)⟩
theorem lw_p8 : lw_okq (⟨"WorkTreeModel", "wrong", "(I)Z"⟩, 9) := ⟨⟨by decide +kernel, by decide +kernel⟩, List.mem_of_getElem? (i := 121) (by decide +kernel), List.mem_of_getElem? (i := 187) (by decide +kernel), List.mem_of_getElem? (i := 188) (by decide +kernel)⟩
def lw_privs_1 : List (MethodName × Nat) := [(⟨"WorkTree", "exists", "(I)Z"⟩, 9), (⟨"WorkTree", "medianTime", "(I)I"⟩, 9), (⟨"WorkTree", "insertTime", "(II)V"⟩, 9), (⟨"WorkTree", "targetBehind", "(I)I"⟩, 9), (⟨"WorkTree", "ancestorAt", "(II)I"⟩, 9), (⟨"WorkTree", "bestBlock", "()I"⟩, 9), (⟨"WorkTree", "isBetter", "(II)Z"⟩, 9), (⟨"WorkTreeModel", "is", "(I)Z"⟩, 9), (⟨"WorkTreeModel", "wrong", "(I)Z"⟩, 9)]
theorem lw_r1 : ∀ q ∈ lw_privs_1, lw_okq q := List.forall_mem_cons.mpr ⟨lw_p0, List.forall_mem_cons.mpr ⟨lw_p1, List.forall_mem_cons.mpr ⟨lw_p2, List.forall_mem_cons.mpr ⟨lw_p3, List.forall_mem_cons.mpr ⟨lw_p4, List.forall_mem_cons.mpr ⟨lw_p5, List.forall_mem_cons.mpr ⟨lw_p6, List.forall_mem_cons.mpr ⟨lw_p7, List.forall_mem_cons.mpr ⟨lw_p8, fun _ h => absurd h List.not_mem_nil⟩⟩⟩⟩⟩⟩⟩⟩⟩
def lw_privs : List (MethodName × Nat) := lw_privs_1
def lw_tbl : List Cond := k2_sels lw_privs ++ tables_1
theorem lw_privs_ok : ∀ q ∈ lw_privs, lw_okq q := lw_r1
end
section
/-! ===== BEGIN words of one list among another's, by their places ===== -/
theorem goodIn_r {big : List Cond} (ws : List Cond) (ps : List Nat) (hp : ws = ps.filterMap (fun i => big[i]?)) (h : ws.all goodWord = true) : GoodIn big ws := by
  intro w hw
  have h1 := List.all_eq_true.mp h w hw
  rw [hp] at hw
  obtain ⟨i, -, hi⟩ := List.mem_filterMap.mp hw
  have hm : w ∈ big := by first | exact List.mem_of_getElem? hi | exact List.getElem?_mem hi
  exact ⟨hm, good_of_word h1⟩
theorem goodIn_app {big a b : List Cond} (ha : GoodIn big a) (hb : GoodIn big b) : GoodIn big (a ++ b) := fun w h => (List.mem_append.mp h).elim (ha w) (hb w)
theorem goodIn_ca {big a b : List Cond} {c : Cond} (ha : GoodIn big (c :: a)) (hb : GoodIn big b) : GoodIn big (c :: (a ++ b)) := fun w h => (List.mem_cons.mp h).elim (fun e => ha w (List.mem_cons.mpr (Or.inl e))) (fun h => (List.mem_append.mp h).elim (fun h => ha w (List.mem_cons.mpr (Or.inr h))) (hb w))
theorem goodIn_sub {big ws : List Cond} (hm : ∀ w ∈ ws, w ∈ big) (h : ws.all goodWord = true) : GoodIn big ws := fun w hw => ⟨hm w hw, good_of_word (List.all_eq_true.mp h w hw)⟩
/-! ===== END ===== -/

/-! ===== BEGIN printed: names, fields, word lists, decode rows ===== -/
def RX0 : String := "WorkTree"
def TX0 : u_T := fun k => match k with
  | 0 => ("WorkTree", "parents", "[I", true)
  | 1 => ("WorkTree", "heights", "[I", true)
  | 2 => ("WorkTree", "times", "[I", true)
  | 3 => ("WorkTree", "arrivals", "[I", true)
  | 4 => ("WorkTree", "targets", "[I", true)
  | 5 => ("WorkTree", "works", "[I", true)
  | 6 => ("WorkTree", "wrong", "[Z", true)
  | 7 => ("WorkTree", "sortedTimes", "[I", true)
  | _ => ("WorkTree", "count", "I", false)
def tyX0 : Nat → FieldType := fun k => match k with
  | 0 => .array .int
  | 1 => .array .int
  | 2 => .array .int
  | 3 => .array .int
  | 4 => .array .int
  | 5 => .array .int
  | 6 => .array .boolean
  | 7 => .array .int
  | _ => .int
abbrev wsX00 : List Cond := u_ws RX0 TX0 9
theorem nmX0 : ∀ a, a < 9 → ∀ b, b < 9 → a ≠ b → (TX0 a).2.1 ≠ (TX0 b).2.1 := by decide +kernel
theorem tyX0_ok : ∀ k, k < 9 → parseFieldDescriptor (TX0 k).2.2.1 = some (tyX0 k) := by decide +kernel
abbrev cX0_init : ByteArray := prog_1_method_1_code
def yX0_init : MethodName := ⟨RX0, "<init>", "()V"⟩
abbrev cX0_add : ByteArray := prog_1_method_2_code
def yX0_add : MethodName := ⟨RX0, "add", "(III)I"⟩
abbrev cX0_refuse : ByteArray := prog_1_method_3_code
def yX0_refuse : MethodName := ⟨RX0, "refuse", "(I)I"⟩
abbrev cX0_best : ByteArray := prog_1_method_4_code
def yX0_best : MethodName := ⟨RX0, "best", "()I"⟩
abbrev cX0_fork : ByteArray := prog_1_method_5_code
def yX0_fork : MethodName := ⟨RX0, "fork", "(II)I"⟩
abbrev cX0_due : ByteArray := prog_1_method_6_code
def yX0_due : MethodName := ⟨RX0, "due", "(I)I"⟩
abbrev cX0_median : ByteArray := prog_1_method_7_code
def yX0_median : MethodName := ⟨RX0, "median", "(I)I"⟩
abbrev cX0_ancestor : ByteArray := prog_1_method_8_code
def yX0_ancestor : MethodName := ⟨RX0, "ancestor", "(II)I"⟩
abbrev cX0_look : ByteArray := prog_1_method_9_code
def yX0_look : MethodName := ⟨RX0, "look", "(II)J"⟩
abbrev cX0_blocks : ByteArray := prog_1_method_10_code
def yX0_blocks : MethodName := ⟨RX0, "blocks", "()I"⟩
abbrev cX0_exists : ByteArray := prog_1_method_11_code
def yX0_exists : MethodName := ⟨RX0, "exists", "(I)Z"⟩
abbrev cX0_ancestorAt : ByteArray := prog_1_method_12_code
def yX0_ancestorAt : MethodName := ⟨RX0, "ancestorAt", "(II)I"⟩
abbrev cX0_medianTime : ByteArray := prog_1_method_13_code
def yX0_medianTime : MethodName := ⟨RX0, "medianTime", "(I)I"⟩
abbrev cX0_insertTime : ByteArray := prog_1_method_14_code
def yX0_insertTime : MethodName := ⟨RX0, "insertTime", "(II)V"⟩
abbrev cX0_targetBehind : ByteArray := prog_1_method_15_code
def yX0_targetBehind : MethodName := ⟨RX0, "targetBehind", "(I)I"⟩
abbrev cX0_within : ByteArray := prog_1_method_16_code
def yX0_within : MethodName := ⟨RX0, "within", "(III)I"⟩
abbrev cX0_bestBlock : ByteArray := prog_1_method_17_code
def yX0_bestBlock : MethodName := ⟨RX0, "bestBlock", "()I"⟩
abbrev cX0_isBetter : ByteArray := prog_1_method_18_code
def yX0_isBetter : MethodName := ⟨RX0, "isBetter", "(II)Z"⟩
def RX1 : String := "WorkTreeModel"
def TX1 : u_T := fun k => match k with
  | 0 => ("WorkTreeModel", "parent", "[I", true)
  | 1 => ("WorkTreeModel", "height", "[I", true)
  | 2 => ("WorkTreeModel", "time", "[I", true)
  | 3 => ("WorkTreeModel", "target", "[I", true)
  | 4 => ("WorkTreeModel", "work", "[J", true)
  | 5 => ("WorkTreeModel", "arrival", "[I", true)
  | 6 => ("WorkTreeModel", "refused", "[Z", true)
  | 7 => ("WorkTreeModel", "times", "[I", true)
  | _ => ("WorkTreeModel", "count", "I", false)
def tyX1 : Nat → FieldType := fun k => match k with
  | 0 => .array .int
  | 1 => .array .int
  | 2 => .array .int
  | 3 => .array .int
  | 4 => .array .long
  | 5 => .array .int
  | 6 => .array .boolean
  | 7 => .array .int
  | _ => .int
abbrev wsX10 : List Cond := u_ws RX1 TX1 9
theorem nmX1 : ∀ a, a < 9 → ∀ b, b < 9 → a ≠ b → (TX1 a).2.1 ≠ (TX1 b).2.1 := by decide +kernel
theorem tyX1_ok : ∀ k, k < 9 → parseFieldDescriptor (TX1 k).2.2.1 = some (tyX1 k) := by decide +kernel
abbrev cX1_init : ByteArray := prog_3_method_1_code
def yX1_init : MethodName := ⟨RX1, "<init>", "()V"⟩
abbrev cX1_is : ByteArray := prog_3_method_2_code
def yX1_is : MethodName := ⟨RX1, "is", "(I)Z"⟩
abbrev cX1_add : ByteArray := prog_3_method_3_code
def yX1_add : MethodName := ⟨RX1, "add", "(III)I"⟩
abbrev cX1_wrong : ByteArray := prog_3_method_4_code
def yX1_wrong : MethodName := ⟨RX1, "wrong", "(I)Z"⟩
abbrev cX1_refuse : ByteArray := prog_3_method_5_code
def yX1_refuse : MethodName := ⟨RX1, "refuse", "(I)I"⟩
abbrev cX1_best : ByteArray := prog_3_method_6_code
def yX1_best : MethodName := ⟨RX1, "best", "()I"⟩
abbrev cX1_fork : ByteArray := prog_3_method_7_code
def yX1_fork : MethodName := ⟨RX1, "fork", "(II)I"⟩
abbrev cX1_due : ByteArray := prog_3_method_8_code
def yX1_due : MethodName := ⟨RX1, "due", "(I)I"⟩
abbrev cX1_median : ByteArray := prog_3_method_9_code
def yX1_median : MethodName := ⟨RX1, "median", "(I)I"⟩
abbrev cX1_ancestor : ByteArray := prog_3_method_10_code
def yX1_ancestor : MethodName := ⟨RX1, "ancestor", "(II)I"⟩
abbrev cX1_look : ByteArray := prog_3_method_11_code
def yX1_look : MethodName := ⟨RX1, "look", "(II)J"⟩
abbrev cX1_blocks : ByteArray := prog_3_method_12_code
def yX1_blocks : MethodName := ⟨RX1, "blocks", "()I"⟩
def RJ9 : String := "java/lang/Math"
def TJ9 : u_T := fun k => match k with
  | _ => ("", "", "", false)
def tyJ9 : Nat → FieldType := fun k => match k with
  | _ => .int
abbrev wsJ90 : List Cond := u_ws RJ9 TJ9 0
theorem nmJ9 : ∀ a, a < 0 → ∀ b, b < 0 → a ≠ b → (TJ9 a).2.1 ≠ (TJ9 b).2.1 := by decide +kernel
theorem tyJ9_ok : ∀ k, k < 0 → parseFieldDescriptor (TJ9 k).2.2.1 = some (tyJ9 k) := by decide +kernel
abbrev cJ9_max_7cf53 : ByteArray := prog_4_method_65_code
def yJ9_max_7cf53 : MethodName := ⟨RJ9, "max", "(II)I"⟩
abbrev cJ9_min_7cf53 : ByteArray := prog_4_method_69_code
def yJ9_min_7cf53 : MethodName := ⟨RJ9, "min", "(II)I"⟩
def RL : String := "WorkTreeLaw"
abbrev cL_law : ByteArray := code
def yL_law : MethodName := ⟨RL, "law", "([I)Z"⟩
def wsX0_init : List Cond := .code yX0_init cX0_init 1 none :: ([.methodLink RX0 1 objectInit, .instanceMethod objectInit, .code objectInit ⟨#[0xb1]⟩ 1 none, .arrayClass .int, .fieldLink RX0 9 "WorkTree" "parents" "[I", .fieldLink RX0 13 "WorkTree" "heights" "[I", .fieldLink RX0 16 "WorkTree" "times" "[I", .fieldLink RX0 19 "WorkTree" "arrivals" "[I", .fieldLink RX0 22 "WorkTree" "targets" "[I", .fieldLink RX0 25 "WorkTree" "works" "[I", .arrayClass .boolean, .fieldLink RX0 28 "WorkTree" "wrong" "[Z", .fieldLink RX0 32 "WorkTree" "sortedTimes" "[I", .constant RX0 35 (32768), .fieldLink RX0 36 "WorkTree" "count" "I"] ++ wsX00)
def wsX0_exists : List Cond := .code yX0_exists cX0_exists 2 (some .boolean) :: ([.fieldLink RX0 36 "WorkTree" "count" "I"] ++ wsX00)
def wsX0_insertTime : List Cond := .code yX0_insertTime cX0_insertTime 4 none :: ([.fieldLink RX0 32 "WorkTree" "sortedTimes" "[I"] ++ wsX00)
def wsX0_medianTime : List Cond := .code yX0_medianTime cX0_medianTime 5 (some .int) :: ([.fieldLink RX0 13 "WorkTree" "heights" "[I", .methodLink RX0 56 Lib.Math.min.name, .static Lib.Math.min.name, .initialized "java/lang/Math", .code Lib.Math.min.name Lib.Math.min.code 2 (some .int), .fieldLink RX0 16 "WorkTree" "times" "[I", .fieldLink RX0 9 "WorkTree" "parents" "[I", .fieldLink RX0 32 "WorkTree" "sortedTimes" "[I", .methodLink RX0 69 yX0_insertTime, .instanceMethod yX0_insertTime, .selects RX0 yX0_insertTime yX0_insertTime, .initialized RX0, .code yX0_insertTime cX0_insertTime 4 none] ++ wsX00)
def wsX0_ancestorAt : List Cond := .code yX0_ancestorAt cX0_ancestorAt 5 (some .int) :: ([.fieldLink RX0 13 "WorkTree" "heights" "[I", .fieldLink RX0 9 "WorkTree" "parents" "[I"] ++ wsX00)
def wsX0_within : List Cond := .code yX0_within cX0_within 3 (some .int) :: ([.methodLink RX0 56 Lib.Math.min.name, .static Lib.Math.min.name, .initialized "java/lang/Math", .code Lib.Math.min.name Lib.Math.min.code 2 (some .int), .methodLink RX0 78 Lib.Math.max.name, .static Lib.Math.max.name, .code Lib.Math.max.name Lib.Math.max.code 2 (some .int)])
def wsX0_targetBehind : List Cond := .code yX0_targetBehind cX0_targetBehind 5 (some .int) :: ([.fieldLink RX0 13 "WorkTree" "heights" "[I", .fieldLink RX0 22 "WorkTree" "targets" "[I", .fieldLink RX0 16 "WorkTree" "times" "[I", .constant RX0 77 (65535), .methodLink RX0 62 yX0_ancestorAt, .instanceMethod yX0_ancestorAt, .selects RX0 yX0_ancestorAt yX0_ancestorAt, .initialized RX0, .code yX0_ancestorAt cX0_ancestorAt 5 (some .int), .fieldLink RX0 9 "WorkTree" "parents" "[I", .methodLink RX0 73 yX0_within, .static yX0_within, .code yX0_within cX0_within 3 (some .int), .methodLink RX0 56 Lib.Math.min.name, .static Lib.Math.min.name, .initialized "java/lang/Math", .code Lib.Math.min.name Lib.Math.min.code 2 (some .int), .methodLink RX0 78 Lib.Math.max.name, .static Lib.Math.max.name, .code Lib.Math.max.name Lib.Math.max.code 2 (some .int)] ++ wsX00)
def wsX0_add_r1 : List Cond := [Cond.fieldLink RX0 36 "WorkTree" "count" "I", Cond.fieldLink RX0 9 "WorkTree" "parents" "[I", Cond.fieldLink RX0 13 "WorkTree" "heights" "[I", Cond.fieldLink RX0 16 "WorkTree" "times" "[I", Cond.fieldLink RX0 19 "WorkTree" "arrivals" "[I", Cond.fieldLink RX0 22 "WorkTree" "targets" "[I", Cond.fieldLink RX0 25 "WorkTree" "works" "[I", Cond.constant RX0 51 (16777216), Cond.fieldLink RX0 28 "WorkTree" "wrong" "[Z", Cond.methodLink RX0 40 yX0_exists, Cond.instanceMethod yX0_exists, Cond.selects RX0 yX0_exists yX0_exists, Cond.initialized RX0, Cond.code yX0_exists cX0_exists 2 (some .boolean), Cond.methodLink RX0 44 yX0_medianTime, Cond.instanceMethod yX0_medianTime, Cond.selects RX0 yX0_medianTime yX0_medianTime, Cond.code yX0_medianTime cX0_medianTime 5 (some .int), Cond.methodLink RX0 56 Lib.Math.min.name, Cond.static Lib.Math.min.name, Cond.initialized "java/lang/Math", Cond.code Lib.Math.min.name Lib.Math.min.code 2 (some .int), Cond.fieldLink RX0 32 "WorkTree" "sortedTimes" "[I", Cond.methodLink RX0 69 yX0_insertTime]
def wsX0_add_r2 : List Cond := [Cond.instanceMethod yX0_insertTime, Cond.selects RX0 yX0_insertTime yX0_insertTime, Cond.code yX0_insertTime cX0_insertTime 4 none, Cond.methodLink RX0 48 yX0_targetBehind, Cond.instanceMethod yX0_targetBehind, Cond.selects RX0 yX0_targetBehind yX0_targetBehind, Cond.code yX0_targetBehind cX0_targetBehind 5 (some .int), Cond.constant RX0 77 (65535), Cond.methodLink RX0 62 yX0_ancestorAt, Cond.instanceMethod yX0_ancestorAt, Cond.selects RX0 yX0_ancestorAt yX0_ancestorAt, Cond.code yX0_ancestorAt cX0_ancestorAt 5 (some .int), Cond.methodLink RX0 73 yX0_within, Cond.static yX0_within, Cond.code yX0_within cX0_within 3 (some .int), Cond.methodLink RX0 78 Lib.Math.max.name, Cond.static Lib.Math.max.name, Cond.code Lib.Math.max.name Lib.Math.max.code 2 (some .int)]
def wsX0_add : List Cond := .code yX0_add cX0_add 6 (some .int) :: ((wsX0_add_r1 ++ wsX0_add_r2) ++ wsX00)
def wsX0_isBetter : List Cond := .code yX0_isBetter cX0_isBetter 3 (some .boolean) :: ([.fieldLink RX0 25 "WorkTree" "works" "[I", .fieldLink RX0 19 "WorkTree" "arrivals" "[I"] ++ wsX00)
def wsX0_bestBlock : List Cond := .code yX0_bestBlock cX0_bestBlock 3 (some .int) :: ([.fieldLink RX0 36 "WorkTree" "count" "I", .fieldLink RX0 28 "WorkTree" "wrong" "[Z", .methodLink RX0 81 yX0_isBetter, .instanceMethod yX0_isBetter, .selects RX0 yX0_isBetter yX0_isBetter, .initialized RX0, .code yX0_isBetter cX0_isBetter 3 (some .boolean), .fieldLink RX0 25 "WorkTree" "works" "[I", .fieldLink RX0 19 "WorkTree" "arrivals" "[I"] ++ wsX00)
def wsX0_refuse : List Cond := .code yX0_refuse cX0_refuse 3 (some .int) :: ([.fieldLink RX0 28 "WorkTree" "wrong" "[Z", .fieldLink RX0 36 "WorkTree" "count" "I", .fieldLink RX0 9 "WorkTree" "parents" "[I", .methodLink RX0 40 yX0_exists, .instanceMethod yX0_exists, .selects RX0 yX0_exists yX0_exists, .initialized RX0, .code yX0_exists cX0_exists 2 (some .boolean), .methodLink RX0 52 yX0_bestBlock, .instanceMethod yX0_bestBlock, .selects RX0 yX0_bestBlock yX0_bestBlock, .code yX0_bestBlock cX0_bestBlock 3 (some .int), .methodLink RX0 81 yX0_isBetter, .instanceMethod yX0_isBetter, .selects RX0 yX0_isBetter yX0_isBetter, .code yX0_isBetter cX0_isBetter 3 (some .boolean), .fieldLink RX0 25 "WorkTree" "works" "[I", .fieldLink RX0 19 "WorkTree" "arrivals" "[I"] ++ wsX00)
def wsX0_best : List Cond := .code yX0_best cX0_best 1 (some .int) :: ([.methodLink RX0 52 yX0_bestBlock, .instanceMethod yX0_bestBlock, .selects RX0 yX0_bestBlock yX0_bestBlock, .initialized RX0, .code yX0_bestBlock cX0_bestBlock 3 (some .int), .fieldLink RX0 36 "WorkTree" "count" "I", .fieldLink RX0 28 "WorkTree" "wrong" "[Z", .methodLink RX0 81 yX0_isBetter, .instanceMethod yX0_isBetter, .selects RX0 yX0_isBetter yX0_isBetter, .code yX0_isBetter cX0_isBetter 3 (some .boolean), .fieldLink RX0 25 "WorkTree" "works" "[I", .fieldLink RX0 19 "WorkTree" "arrivals" "[I"] ++ wsX00)
def wsX0_fork : List Cond := .code yX0_fork cX0_fork 7 (some .int) :: ([.fieldLink RX0 13 "WorkTree" "heights" "[I", .methodLink RX0 56 Lib.Math.min.name, .static Lib.Math.min.name, .initialized "java/lang/Math", .code Lib.Math.min.name Lib.Math.min.code 2 (some .int), .fieldLink RX0 9 "WorkTree" "parents" "[I", .methodLink RX0 40 yX0_exists, .instanceMethod yX0_exists, .selects RX0 yX0_exists yX0_exists, .initialized RX0, .code yX0_exists cX0_exists 2 (some .boolean), .fieldLink RX0 36 "WorkTree" "count" "I", .methodLink RX0 62 yX0_ancestorAt, .instanceMethod yX0_ancestorAt, .selects RX0 yX0_ancestorAt yX0_ancestorAt, .code yX0_ancestorAt cX0_ancestorAt 5 (some .int)] ++ wsX00)
def wsX0_due_r1 : List Cond := [Cond.methodLink RX0 40 yX0_exists, Cond.instanceMethod yX0_exists, Cond.selects RX0 yX0_exists yX0_exists, Cond.initialized RX0, Cond.code yX0_exists cX0_exists 2 (some .boolean), Cond.fieldLink RX0 36 "WorkTree" "count" "I", Cond.methodLink RX0 48 yX0_targetBehind, Cond.instanceMethod yX0_targetBehind, Cond.selects RX0 yX0_targetBehind yX0_targetBehind, Cond.code yX0_targetBehind cX0_targetBehind 5 (some .int), Cond.fieldLink RX0 13 "WorkTree" "heights" "[I", Cond.fieldLink RX0 22 "WorkTree" "targets" "[I", Cond.fieldLink RX0 16 "WorkTree" "times" "[I", Cond.constant RX0 77 (65535), Cond.methodLink RX0 62 yX0_ancestorAt, Cond.instanceMethod yX0_ancestorAt, Cond.selects RX0 yX0_ancestorAt yX0_ancestorAt, Cond.code yX0_ancestorAt cX0_ancestorAt 5 (some .int), Cond.fieldLink RX0 9 "WorkTree" "parents" "[I", Cond.methodLink RX0 73 yX0_within, Cond.static yX0_within, Cond.code yX0_within cX0_within 3 (some .int), Cond.methodLink RX0 56 Lib.Math.min.name, Cond.static Lib.Math.min.name]
def wsX0_due_r2 : List Cond := [Cond.initialized "java/lang/Math", Cond.code Lib.Math.min.name Lib.Math.min.code 2 (some .int), Cond.methodLink RX0 78 Lib.Math.max.name, Cond.static Lib.Math.max.name, Cond.code Lib.Math.max.name Lib.Math.max.code 2 (some .int)]
def wsX0_due : List Cond := .code yX0_due cX0_due 2 (some .int) :: ((wsX0_due_r1 ++ wsX0_due_r2) ++ wsX00)
def wsX0_median : List Cond := .code yX0_median cX0_median 2 (some .int) :: ([.methodLink RX0 40 yX0_exists, .instanceMethod yX0_exists, .selects RX0 yX0_exists yX0_exists, .initialized RX0, .code yX0_exists cX0_exists 2 (some .boolean), .fieldLink RX0 36 "WorkTree" "count" "I", .methodLink RX0 44 yX0_medianTime, .instanceMethod yX0_medianTime, .selects RX0 yX0_medianTime yX0_medianTime, .code yX0_medianTime cX0_medianTime 5 (some .int), .fieldLink RX0 13 "WorkTree" "heights" "[I", .methodLink RX0 56 Lib.Math.min.name, .static Lib.Math.min.name, .initialized "java/lang/Math", .code Lib.Math.min.name Lib.Math.min.code 2 (some .int), .fieldLink RX0 16 "WorkTree" "times" "[I", .fieldLink RX0 9 "WorkTree" "parents" "[I", .fieldLink RX0 32 "WorkTree" "sortedTimes" "[I", .methodLink RX0 69 yX0_insertTime, .instanceMethod yX0_insertTime, .selects RX0 yX0_insertTime yX0_insertTime, .code yX0_insertTime cX0_insertTime 4 none] ++ wsX00)
def wsX0_ancestor : List Cond := .code yX0_ancestor cX0_ancestor 3 (some .int) :: ([.fieldLink RX0 13 "WorkTree" "heights" "[I", .methodLink RX0 40 yX0_exists, .instanceMethod yX0_exists, .selects RX0 yX0_exists yX0_exists, .initialized RX0, .code yX0_exists cX0_exists 2 (some .boolean), .fieldLink RX0 36 "WorkTree" "count" "I", .methodLink RX0 62 yX0_ancestorAt, .instanceMethod yX0_ancestorAt, .selects RX0 yX0_ancestorAt yX0_ancestorAt, .code yX0_ancestorAt cX0_ancestorAt 5 (some .int), .fieldLink RX0 9 "WorkTree" "parents" "[I"] ++ wsX00)
def wsX0_look : List Cond := .code yX0_look cX0_look 3 (some .long) :: ([.constantLong RX0 65 (-1), .constantLong RX0 67 (-2), .fieldLink RX0 13 "WorkTree" "heights" "[I", .fieldLink RX0 9 "WorkTree" "parents" "[I", .fieldLink RX0 16 "WorkTree" "times" "[I", .fieldLink RX0 22 "WorkTree" "targets" "[I", .fieldLink RX0 25 "WorkTree" "works" "[I", .fieldLink RX0 28 "WorkTree" "wrong" "[Z", .methodLink RX0 40 yX0_exists, .instanceMethod yX0_exists, .selects RX0 yX0_exists yX0_exists, .initialized RX0, .code yX0_exists cX0_exists 2 (some .boolean), .fieldLink RX0 36 "WorkTree" "count" "I"] ++ wsX00)
def wsX0_blocks : List Cond := .code yX0_blocks cX0_blocks 1 (some .int) :: ([.fieldLink RX0 36 "WorkTree" "count" "I"] ++ wsX00)
def wsX1_init : List Cond := .code yX1_init cX1_init 1 none :: ([.methodLink RX1 1 objectInit, .instanceMethod objectInit, .code objectInit ⟨#[0xb1]⟩ 1 none, .arrayClass .int, .fieldLink RX1 9 "WorkTreeModel" "parent" "[I", .fieldLink RX1 13 "WorkTreeModel" "height" "[I", .fieldLink RX1 16 "WorkTreeModel" "time" "[I", .fieldLink RX1 19 "WorkTreeModel" "target" "[I", .arrayClass .long, .fieldLink RX1 22 "WorkTreeModel" "work" "[J", .fieldLink RX1 26 "WorkTreeModel" "arrival" "[I", .arrayClass .boolean, .fieldLink RX1 29 "WorkTreeModel" "refused" "[Z", .fieldLink RX1 33 "WorkTreeModel" "times" "[I", .fieldLink RX1 36 "WorkTreeModel" "count" "I", .constant RX1 40 (32768)] ++ wsX10)
def wsX1_is : List Cond := .code yX1_is cX1_is 2 (some .boolean) :: ([.fieldLink RX1 36 "WorkTreeModel" "count" "I"] ++ wsX10)
def wsX1_median : List Cond := .code yX1_median cX1_median 5 (some .int) :: ([.fieldLink RX1 33 "WorkTreeModel" "times" "[I", .fieldLink RX1 16 "WorkTreeModel" "time" "[I", .fieldLink RX1 9 "WorkTreeModel" "parent" "[I", .methodLink RX1 41 yX1_is, .instanceMethod yX1_is, .selects RX1 yX1_is yX1_is, .initialized RX1, .code yX1_is cX1_is 2 (some .boolean), .fieldLink RX1 36 "WorkTreeModel" "count" "I"] ++ wsX10)
def wsX1_ancestor : List Cond := .code yX1_ancestor cX1_ancestor 4 (some .int) :: ([.fieldLink RX1 13 "WorkTreeModel" "height" "[I", .fieldLink RX1 9 "WorkTreeModel" "parent" "[I", .methodLink RX1 41 yX1_is, .instanceMethod yX1_is, .selects RX1 yX1_is yX1_is, .initialized RX1, .code yX1_is cX1_is 2 (some .boolean), .fieldLink RX1 36 "WorkTreeModel" "count" "I"] ++ wsX10)
def wsX1_due : List Cond := .code yX1_due cX1_due 5 (some .int) :: ([.fieldLink RX1 19 "WorkTreeModel" "target" "[I", .fieldLink RX1 13 "WorkTreeModel" "height" "[I", .fieldLink RX1 16 "WorkTreeModel" "time" "[I", .constant RX1 64 (65535), .methodLink RX1 41 yX1_is, .instanceMethod yX1_is, .selects RX1 yX1_is yX1_is, .initialized RX1, .code yX1_is cX1_is 2 (some .boolean), .fieldLink RX1 36 "WorkTreeModel" "count" "I", .methodLink RX1 60 yX1_ancestor, .instanceMethod yX1_ancestor, .selects RX1 yX1_ancestor yX1_ancestor, .code yX1_ancestor cX1_ancestor 4 (some .int), .fieldLink RX1 9 "WorkTreeModel" "parent" "[I"] ++ wsX10)
def wsX1_add_r1 : List Cond := [Cond.fieldLink RX1 36 "WorkTreeModel" "count" "I", Cond.fieldLink RX1 9 "WorkTreeModel" "parent" "[I", Cond.fieldLink RX1 16 "WorkTreeModel" "time" "[I", Cond.fieldLink RX1 26 "WorkTreeModel" "arrival" "[I", Cond.fieldLink RX1 13 "WorkTreeModel" "height" "[I", Cond.fieldLink RX1 19 "WorkTreeModel" "target" "[I", Cond.fieldLink RX1 22 "WorkTreeModel" "work" "[J", Cond.constant RX1 52 (16777216), Cond.methodLink RX1 41 yX1_is, Cond.instanceMethod yX1_is, Cond.selects RX1 yX1_is yX1_is, Cond.initialized RX1, Cond.code yX1_is cX1_is 2 (some .boolean), Cond.methodLink RX1 45 yX1_median, Cond.instanceMethod yX1_median, Cond.selects RX1 yX1_median yX1_median, Cond.code yX1_median cX1_median 5 (some .int), Cond.fieldLink RX1 33 "WorkTreeModel" "times" "[I", Cond.methodLink RX1 49 yX1_due, Cond.instanceMethod yX1_due, Cond.selects RX1 yX1_due yX1_due, Cond.code yX1_due cX1_due 5 (some .int), Cond.constant RX1 64 (65535), Cond.methodLink RX1 60 yX1_ancestor]
def wsX1_add_r2 : List Cond := [Cond.instanceMethod yX1_ancestor, Cond.selects RX1 yX1_ancestor yX1_ancestor, Cond.code yX1_ancestor cX1_ancestor 4 (some .int)]
def wsX1_add : List Cond := .code yX1_add cX1_add 5 (some .int) :: ((wsX1_add_r1 ++ wsX1_add_r2) ++ wsX10)
def wsX1_wrong : List Cond := .code yX1_wrong cX1_wrong 4 (some .boolean) :: ([.fieldLink RX1 29 "WorkTreeModel" "refused" "[Z", .fieldLink RX1 9 "WorkTreeModel" "parent" "[I"] ++ wsX10)
def wsX1_best : List Cond := .code yX1_best cX1_best 3 (some .int) :: ([.fieldLink RX1 36 "WorkTreeModel" "count" "I", .fieldLink RX1 22 "WorkTreeModel" "work" "[J", .fieldLink RX1 26 "WorkTreeModel" "arrival" "[I", .methodLink RX1 57 yX1_wrong, .instanceMethod yX1_wrong, .selects RX1 yX1_wrong yX1_wrong, .initialized RX1, .code yX1_wrong cX1_wrong 4 (some .boolean), .fieldLink RX1 29 "WorkTreeModel" "refused" "[Z", .fieldLink RX1 9 "WorkTreeModel" "parent" "[I"] ++ wsX10)
def wsX1_refuse : List Cond := .code yX1_refuse cX1_refuse 2 (some .int) :: ([.fieldLink RX1 29 "WorkTreeModel" "refused" "[Z", .methodLink RX1 41 yX1_is, .instanceMethod yX1_is, .selects RX1 yX1_is yX1_is, .initialized RX1, .code yX1_is cX1_is 2 (some .boolean), .fieldLink RX1 36 "WorkTreeModel" "count" "I", .methodLink RX1 53 yX1_best, .instanceMethod yX1_best, .selects RX1 yX1_best yX1_best, .code yX1_best cX1_best 3 (some .int), .fieldLink RX1 22 "WorkTreeModel" "work" "[J", .fieldLink RX1 26 "WorkTreeModel" "arrival" "[I", .methodLink RX1 57 yX1_wrong, .instanceMethod yX1_wrong, .selects RX1 yX1_wrong yX1_wrong, .code yX1_wrong cX1_wrong 4 (some .boolean), .fieldLink RX1 9 "WorkTreeModel" "parent" "[I"] ++ wsX10)
def wsX1_fork : List Cond := .code yX1_fork cX1_fork 5 (some .int) :: ([.fieldLink RX1 13 "WorkTreeModel" "height" "[I", .fieldLink RX1 9 "WorkTreeModel" "parent" "[I", .methodLink RX1 41 yX1_is, .instanceMethod yX1_is, .selects RX1 yX1_is yX1_is, .initialized RX1, .code yX1_is cX1_is 2 (some .boolean), .fieldLink RX1 36 "WorkTreeModel" "count" "I"] ++ wsX10)
def wsX1_look : List Cond := .code yX1_look cX1_look 3 (some .long) :: ([.constantLong RX1 65 (-1), .constantLong RX1 67 (-2), .fieldLink RX1 13 "WorkTreeModel" "height" "[I", .fieldLink RX1 9 "WorkTreeModel" "parent" "[I", .fieldLink RX1 16 "WorkTreeModel" "time" "[I", .fieldLink RX1 19 "WorkTreeModel" "target" "[I", .fieldLink RX1 22 "WorkTreeModel" "work" "[J", .methodLink RX1 41 yX1_is, .instanceMethod yX1_is, .selects RX1 yX1_is yX1_is, .initialized RX1, .code yX1_is cX1_is 2 (some .boolean), .fieldLink RX1 36 "WorkTreeModel" "count" "I", .methodLink RX1 57 yX1_wrong, .instanceMethod yX1_wrong, .selects RX1 yX1_wrong yX1_wrong, .code yX1_wrong cX1_wrong 4 (some .boolean), .fieldLink RX1 29 "WorkTreeModel" "refused" "[Z"] ++ wsX10)
def wsX1_blocks : List Cond := .code yX1_blocks cX1_blocks 1 (some .int) :: ([.fieldLink RX1 36 "WorkTreeModel" "count" "I"] ++ wsX10)
def wsJ9_max_7cf53 : List Cond := .code yJ9_max_7cf53 cJ9_max_7cf53 2 (some .int) :: ([])
def wsJ9_min_7cf53 : List Cond := .code yJ9_min_7cf53 cJ9_min_7cf53 2 (some .int) :: ([])
def wsL_law_r1 : List Cond := [Cond.classLink RL 7 RX0, Cond.instantiable RX0 9, Cond.initialized RX0, Cond.classLink RL 10 RX1, Cond.instantiable RX1 9, Cond.initialized RX1, Cond.methodLink RL 9 yX0_init, Cond.instanceMethod yX0_init, Cond.code yX0_init cX0_init 1 none, Cond.methodLink RX0 1 objectInit, Cond.instanceMethod objectInit, Cond.code objectInit ⟨#[0xb1]⟩ 1 none, Cond.arrayClass .int, Cond.fieldLink RX0 9 "WorkTree" "parents" "[I", Cond.fieldLink RX0 13 "WorkTree" "heights" "[I", Cond.fieldLink RX0 16 "WorkTree" "times" "[I", Cond.fieldLink RX0 19 "WorkTree" "arrivals" "[I", Cond.fieldLink RX0 22 "WorkTree" "targets" "[I", Cond.fieldLink RX0 25 "WorkTree" "works" "[I", Cond.arrayClass .boolean, Cond.fieldLink RX0 28 "WorkTree" "wrong" "[Z", Cond.fieldLink RX0 32 "WorkTree" "sortedTimes" "[I", Cond.constant RX0 35 (32768), Cond.fieldLink RX0 36 "WorkTree" "count" "I"]
def wsL_law_r2 : List Cond := [Cond.methodLink RL 12 yX1_init, Cond.instanceMethod yX1_init, Cond.code yX1_init cX1_init 1 none, Cond.methodLink RX1 1 objectInit, Cond.fieldLink RX1 9 "WorkTreeModel" "parent" "[I", Cond.fieldLink RX1 13 "WorkTreeModel" "height" "[I", Cond.fieldLink RX1 16 "WorkTreeModel" "time" "[I", Cond.fieldLink RX1 19 "WorkTreeModel" "target" "[I", Cond.arrayClass .long, Cond.fieldLink RX1 22 "WorkTreeModel" "work" "[J", Cond.fieldLink RX1 26 "WorkTreeModel" "arrival" "[I", Cond.fieldLink RX1 29 "WorkTreeModel" "refused" "[Z", Cond.fieldLink RX1 33 "WorkTreeModel" "times" "[I", Cond.fieldLink RX1 36 "WorkTreeModel" "count" "I", Cond.constant RX1 40 (32768), Cond.methodLink RL 13 yX0_add, Cond.instanceMethod yX0_add, Cond.selects RX0 yX0_add yX0_add, Cond.code yX0_add cX0_add 6 (some .int), Cond.constant RX0 51 (16777216), Cond.methodLink RX0 40 yX0_exists, Cond.instanceMethod yX0_exists, Cond.selects RX0 yX0_exists yX0_exists, Cond.code yX0_exists cX0_exists 2 (some .boolean)]
def wsL_law_r3 : List Cond := [Cond.methodLink RX0 44 yX0_medianTime, Cond.instanceMethod yX0_medianTime, Cond.selects RX0 yX0_medianTime yX0_medianTime, Cond.code yX0_medianTime cX0_medianTime 5 (some .int), Cond.methodLink RX0 56 Lib.Math.min.name, Cond.static Lib.Math.min.name, Cond.initialized "java/lang/Math", Cond.code Lib.Math.min.name Lib.Math.min.code 2 (some .int), Cond.methodLink RX0 69 yX0_insertTime, Cond.instanceMethod yX0_insertTime, Cond.selects RX0 yX0_insertTime yX0_insertTime, Cond.code yX0_insertTime cX0_insertTime 4 none, Cond.methodLink RX0 48 yX0_targetBehind, Cond.instanceMethod yX0_targetBehind, Cond.selects RX0 yX0_targetBehind yX0_targetBehind, Cond.code yX0_targetBehind cX0_targetBehind 5 (some .int), Cond.constant RX0 77 (65535), Cond.methodLink RX0 62 yX0_ancestorAt, Cond.instanceMethod yX0_ancestorAt, Cond.selects RX0 yX0_ancestorAt yX0_ancestorAt, Cond.code yX0_ancestorAt cX0_ancestorAt 5 (some .int), Cond.methodLink RX0 73 yX0_within, Cond.static yX0_within, Cond.code yX0_within cX0_within 3 (some .int)]
def wsL_law_r4 : List Cond := [Cond.methodLink RX0 78 Lib.Math.max.name, Cond.static Lib.Math.max.name, Cond.code Lib.Math.max.name Lib.Math.max.code 2 (some .int), Cond.methodLink RL 17 yX1_add, Cond.instanceMethod yX1_add, Cond.selects RX1 yX1_add yX1_add, Cond.code yX1_add cX1_add 5 (some .int), Cond.constant RX1 52 (16777216), Cond.methodLink RX1 41 yX1_is, Cond.instanceMethod yX1_is, Cond.selects RX1 yX1_is yX1_is, Cond.code yX1_is cX1_is 2 (some .boolean), Cond.methodLink RX1 45 yX1_median, Cond.instanceMethod yX1_median, Cond.selects RX1 yX1_median yX1_median, Cond.code yX1_median cX1_median 5 (some .int), Cond.methodLink RX1 49 yX1_due, Cond.instanceMethod yX1_due, Cond.selects RX1 yX1_due yX1_due, Cond.code yX1_due cX1_due 5 (some .int), Cond.constant RX1 64 (65535), Cond.methodLink RX1 60 yX1_ancestor, Cond.instanceMethod yX1_ancestor, Cond.selects RX1 yX1_ancestor yX1_ancestor]
def wsL_law_r5 : List Cond := [Cond.code yX1_ancestor cX1_ancestor 4 (some .int), Cond.methodLink RL 18 yX0_refuse, Cond.instanceMethod yX0_refuse, Cond.selects RX0 yX0_refuse yX0_refuse, Cond.code yX0_refuse cX0_refuse 3 (some .int), Cond.methodLink RX0 52 yX0_bestBlock, Cond.instanceMethod yX0_bestBlock, Cond.selects RX0 yX0_bestBlock yX0_bestBlock, Cond.code yX0_bestBlock cX0_bestBlock 3 (some .int), Cond.methodLink RX0 81 yX0_isBetter, Cond.instanceMethod yX0_isBetter, Cond.selects RX0 yX0_isBetter yX0_isBetter, Cond.code yX0_isBetter cX0_isBetter 3 (some .boolean), Cond.methodLink RL 22 yX1_refuse, Cond.instanceMethod yX1_refuse, Cond.selects RX1 yX1_refuse yX1_refuse, Cond.code yX1_refuse cX1_refuse 2 (some .int), Cond.methodLink RX1 53 yX1_best, Cond.instanceMethod yX1_best, Cond.selects RX1 yX1_best yX1_best, Cond.code yX1_best cX1_best 3 (some .int), Cond.methodLink RX1 57 yX1_wrong, Cond.instanceMethod yX1_wrong, Cond.selects RX1 yX1_wrong yX1_wrong]
def wsL_law_r6 : List Cond := [Cond.code yX1_wrong cX1_wrong 4 (some .boolean), Cond.methodLink RL 23 yX0_best, Cond.instanceMethod yX0_best, Cond.selects RX0 yX0_best yX0_best, Cond.code yX0_best cX0_best 1 (some .int), Cond.methodLink RL 27 yX1_best, Cond.methodLink RL 28 yX0_fork, Cond.instanceMethod yX0_fork, Cond.selects RX0 yX0_fork yX0_fork, Cond.code yX0_fork cX0_fork 7 (some .int), Cond.methodLink RL 32 yX1_fork, Cond.instanceMethod yX1_fork, Cond.selects RX1 yX1_fork yX1_fork, Cond.code yX1_fork cX1_fork 5 (some .int), Cond.methodLink RL 33 yX0_due, Cond.instanceMethod yX0_due, Cond.selects RX0 yX0_due yX0_due, Cond.code yX0_due cX0_due 2 (some .int), Cond.methodLink RL 36 yX1_due, Cond.methodLink RL 37 yX0_median, Cond.instanceMethod yX0_median, Cond.selects RX0 yX0_median yX0_median, Cond.code yX0_median cX0_median 2 (some .int), Cond.methodLink RL 40 yX1_median]
def wsL_law_r7 : List Cond := [Cond.methodLink RL 41 yX0_ancestor, Cond.instanceMethod yX0_ancestor, Cond.selects RX0 yX0_ancestor yX0_ancestor, Cond.code yX0_ancestor cX0_ancestor 3 (some .int), Cond.methodLink RL 44 yX1_ancestor, Cond.methodLink RL 45 yX0_look, Cond.instanceMethod yX0_look, Cond.selects RX0 yX0_look yX0_look, Cond.code yX0_look cX0_look 3 (some .long), Cond.constantLong RX0 65 (-1), Cond.constantLong RX0 67 (-2), Cond.methodLink RL 49 yX1_look, Cond.instanceMethod yX1_look, Cond.selects RX1 yX1_look yX1_look, Cond.code yX1_look cX1_look 3 (some .long), Cond.constantLong RX1 65 (-1), Cond.constantLong RX1 67 (-2), Cond.methodLink RL 50 yX0_blocks, Cond.instanceMethod yX0_blocks, Cond.selects RX0 yX0_blocks yX0_blocks, Cond.code yX0_blocks cX0_blocks 1 (some .int), Cond.methodLink RL 53 yX1_blocks, Cond.instanceMethod yX1_blocks, Cond.selects RX1 yX1_blocks yX1_blocks]
def wsL_law_r8 : List Cond := [Cond.code yX1_blocks cX1_blocks 1 (some .int)]
def wsL_law : List Cond := (wsL_law_r1 ++ (wsL_law_r2 ++ (wsL_law_r3 ++ (wsL_law_r4 ++ (wsL_law_r5 ++ (wsL_law_r6 ++ (wsL_law_r7 ++ wsL_law_r8))))))) ++ wsX00 ++ wsX10 ++ ([] : List Cond)
set_option maxRecDepth 20000 in
theorem wsL_law_in : ∀ w ∈ wsL_law, w ∈ lw_tbl := fun w h => (goodIn_p wsL_law [17, 20, 133, 55, 59, 63, 66, 70, 74, 78, 81, 84, 168, 172, 176, 180, 184, 90, 94, 98, 190, 194, 198, 102, 106, 203, 110, 114, 118, 122, 210, 128, 216] (by decide +kernel) (by decide +kernel) w h).1
theorem inlX0 : ∀ w ∈ wsX00, w ∈ wsL_law := fun _ h => List.mem_append_left _ (List.mem_append_left _ (List.mem_append_right _ h))
theorem inX0 : ∀ w ∈ wsX00, w ∈ lw_tbl := fun w h => wsL_law_in w (inlX0 w h)
theorem inlX1 : ∀ w ∈ wsX10, w ∈ wsL_law := fun _ h => List.mem_append_left _ (List.mem_append_right _ h)
theorem inX1 : ∀ w ∈ wsX10, w ∈ lw_tbl := fun w h => wsL_law_in w (inlX1 w h)
theorem inJ9 : ∀ w ∈ wsJ90, w ∈ lw_tbl := by decide +kernel
set_option maxRecDepth 20000 in
theorem ggX0_add_X0_exists : GoodIn wsX0_add wsX0_exists := goodIn_r _ [14, 1, 43, 44, 45, 46, 47, 48, 49, 50, 51] (by decide +kernel) (by decide +kernel)
set_option maxRecDepth 20000 in
theorem gX0_add_X0_exists : GoodIn wsX0_add (wsV RX0 40 RX0 yX0_exists wsX0_exists) := goodIn_app (goodIn_of _ (by decide +kernel)) ggX0_add_X0_exists
set_option maxRecDepth 20000 in
theorem ggX0_add_X0_medianTime : GoodIn wsX0_add wsX0_medianTime := goodIn_r _ [18, 3, 19, 20, 21, 22, 4, 2, 23, 24, 25, 26, 13, 27, 43, 44, 45, 46, 47, 48, 49, 50, 51] (by decide +kernel) (by decide +kernel)
set_option maxRecDepth 20000 in
theorem gX0_add_X0_medianTime : GoodIn wsX0_add (wsV RX0 44 RX0 yX0_medianTime wsX0_medianTime) := goodIn_app (goodIn_of _ (by decide +kernel)) ggX0_add_X0_medianTime
set_option maxRecDepth 20000 in
theorem ggX0_add_X0_targetBehind : GoodIn wsX0_add wsX0_targetBehind := goodIn_r _ [31, 3, 6, 4, 32, 33, 34, 35, 13, 36, 2, 37, 38, 39, 19, 20, 21, 22, 40, 41, 42, 43, 44, 45, 46, 47, 48, 49, 50, 51] (by decide +kernel) (by decide +kernel)
set_option maxRecDepth 20000 in
theorem gX0_add_X0_targetBehind : GoodIn wsX0_add (wsV RX0 48 RX0 yX0_targetBehind wsX0_targetBehind) := goodIn_app (goodIn_of _ (by decide +kernel)) ggX0_add_X0_targetBehind
set_option maxRecDepth 20000 in
theorem ggX0_refuse_X0_exists : GoodIn wsX0_refuse wsX0_exists := goodIn_r _ [8, 2, 19, 20, 21, 22, 23, 24, 25, 26, 27] (by decide +kernel) (by decide +kernel)
set_option maxRecDepth 20000 in
theorem gX0_refuse_X0_exists : GoodIn wsX0_refuse (wsV RX0 40 RX0 yX0_exists wsX0_exists) := goodIn_app (goodIn_of _ (by decide +kernel)) ggX0_refuse_X0_exists
set_option maxRecDepth 20000 in
theorem ggX0_refuse_X0_bestBlock : GoodIn wsX0_refuse wsX0_bestBlock := goodIn_r _ [12, 2, 1, 13, 14, 15, 7, 16, 17, 18, 19, 20, 21, 22, 23, 24, 25, 26, 27] (by decide +kernel) (by decide +kernel)
set_option maxRecDepth 20000 in
theorem gX0_refuse_X0_bestBlock : GoodIn wsX0_refuse (wsV RX0 52 RX0 yX0_bestBlock wsX0_bestBlock) := goodIn_app (goodIn_of _ (by decide +kernel)) ggX0_refuse_X0_bestBlock
set_option maxRecDepth 20000 in
theorem ggX0_best_X0_bestBlock : GoodIn wsX0_best wsX0_bestBlock := goodIn_r _ [5, 6, 7, 8, 9, 10, 4, 11, 12, 13, 14, 15, 16, 17, 18, 19, 20, 21, 22] (by decide +kernel) (by decide +kernel)
set_option maxRecDepth 20000 in
theorem gX0_best_X0_bestBlock : GoodIn wsX0_best (wsV RX0 52 RX0 yX0_bestBlock wsX0_bestBlock) := goodIn_app (goodIn_of _ (by decide +kernel)) ggX0_best_X0_bestBlock
set_option maxRecDepth 20000 in
theorem ggX0_fork_X0_exists : GoodIn wsX0_fork wsX0_exists := goodIn_r _ [11, 12, 17, 18, 19, 20, 21, 22, 23, 24, 25] (by decide +kernel) (by decide +kernel)
set_option maxRecDepth 20000 in
theorem gX0_fork_X0_exists : GoodIn wsX0_fork (wsV RX0 40 RX0 yX0_exists wsX0_exists) := goodIn_app (goodIn_of _ (by decide +kernel)) ggX0_fork_X0_exists
set_option maxRecDepth 20000 in
theorem ggX0_fork_X0_ancestorAt : GoodIn wsX0_fork wsX0_ancestorAt := goodIn_r _ [16, 1, 6, 17, 18, 19, 20, 21, 22, 23, 24, 25] (by decide +kernel) (by decide +kernel)
set_option maxRecDepth 20000 in
theorem gX0_fork_X0_ancestorAt : GoodIn wsX0_fork (wsV RX0 62 RX0 yX0_ancestorAt wsX0_ancestorAt) := goodIn_app (goodIn_of _ (by decide +kernel)) ggX0_fork_X0_ancestorAt
set_option maxRecDepth 20000 in
theorem ggX0_due_X0_exists : GoodIn wsX0_due wsX0_exists := goodIn_r _ [5, 6, 30, 31, 32, 33, 34, 35, 36, 37, 38] (by decide +kernel) (by decide +kernel)
set_option maxRecDepth 20000 in
theorem gX0_due_X0_exists : GoodIn wsX0_due (wsV RX0 40 RX0 yX0_exists wsX0_exists) := goodIn_app (goodIn_of _ (by decide +kernel)) ggX0_due_X0_exists
set_option maxRecDepth 20000 in
theorem ggX0_due_X0_targetBehind : GoodIn wsX0_due wsX0_targetBehind := goodIn_r _ [10, 11, 12, 13, 14, 15, 16, 17, 4, 18, 19, 20, 21, 22, 23, 24, 25, 26, 27, 28, 29, 30, 31, 32, 33, 34, 35, 36, 37, 38] (by decide +kernel) (by decide +kernel)
set_option maxRecDepth 20000 in
theorem gX0_due_X0_targetBehind : GoodIn wsX0_due (wsV RX0 48 RX0 yX0_targetBehind wsX0_targetBehind) := goodIn_app (goodIn_of _ (by decide +kernel)) ggX0_due_X0_targetBehind
set_option maxRecDepth 20000 in
theorem ggX0_median_X0_exists : GoodIn wsX0_median wsX0_exists := goodIn_r _ [5, 6, 23, 24, 25, 26, 27, 28, 29, 30, 31] (by decide +kernel) (by decide +kernel)
set_option maxRecDepth 20000 in
theorem gX0_median_X0_exists : GoodIn wsX0_median (wsV RX0 40 RX0 yX0_exists wsX0_exists) := goodIn_app (goodIn_of _ (by decide +kernel)) ggX0_median_X0_exists
set_option maxRecDepth 20000 in
theorem ggX0_median_X0_medianTime : GoodIn wsX0_median wsX0_medianTime := goodIn_r _ [10, 11, 12, 13, 14, 15, 16, 17, 18, 19, 20, 21, 4, 22, 23, 24, 25, 26, 27, 28, 29, 30, 31] (by decide +kernel) (by decide +kernel)
set_option maxRecDepth 20000 in
theorem gX0_median_X0_medianTime : GoodIn wsX0_median (wsV RX0 44 RX0 yX0_medianTime wsX0_medianTime) := goodIn_app (goodIn_of _ (by decide +kernel)) ggX0_median_X0_medianTime
set_option maxRecDepth 20000 in
theorem ggX0_ancestor_X0_exists : GoodIn wsX0_ancestor wsX0_exists := goodIn_r _ [6, 7, 13, 14, 15, 16, 17, 18, 19, 20, 21] (by decide +kernel) (by decide +kernel)
set_option maxRecDepth 20000 in
theorem gX0_ancestor_X0_exists : GoodIn wsX0_ancestor (wsV RX0 40 RX0 yX0_exists wsX0_exists) := goodIn_app (goodIn_of _ (by decide +kernel)) ggX0_ancestor_X0_exists
set_option maxRecDepth 20000 in
theorem ggX0_ancestor_X0_ancestorAt : GoodIn wsX0_ancestor wsX0_ancestorAt := goodIn_r _ [11, 1, 12, 13, 14, 15, 16, 17, 18, 19, 20, 21] (by decide +kernel) (by decide +kernel)
set_option maxRecDepth 20000 in
theorem gX0_ancestor_X0_ancestorAt : GoodIn wsX0_ancestor (wsV RX0 62 RX0 yX0_ancestorAt wsX0_ancestorAt) := goodIn_app (goodIn_of _ (by decide +kernel)) ggX0_ancestor_X0_ancestorAt
set_option maxRecDepth 20000 in
theorem ggX0_look_X0_exists : GoodIn wsX0_look wsX0_exists := goodIn_r _ [13, 14, 15, 16, 17, 18, 19, 20, 21, 22, 23] (by decide +kernel) (by decide +kernel)
set_option maxRecDepth 20000 in
theorem gX0_look_X0_exists : GoodIn wsX0_look (wsV RX0 40 RX0 yX0_exists wsX0_exists) := goodIn_app (goodIn_of _ (by decide +kernel)) ggX0_look_X0_exists
set_option maxRecDepth 20000 in
theorem ggX0_medianTime_X0_insertTime : GoodIn wsX0_medianTime wsX0_insertTime := goodIn_r _ [13, 8, 14, 15, 16, 17, 18, 19, 20, 21, 22] (by decide +kernel) (by decide +kernel)
set_option maxRecDepth 20000 in
theorem gX0_medianTime_X0_insertTime : GoodIn wsX0_medianTime (wsV RX0 69 RX0 yX0_insertTime wsX0_insertTime) := goodIn_app (goodIn_of _ (by decide +kernel)) ggX0_medianTime_X0_insertTime
set_option maxRecDepth 20000 in
theorem ggX0_targetBehind_X0_ancestorAt : GoodIn wsX0_targetBehind wsX0_ancestorAt := goodIn_r _ [9, 1, 10, 21, 22, 23, 24, 25, 26, 27, 28, 29] (by decide +kernel) (by decide +kernel)
set_option maxRecDepth 20000 in
theorem gX0_targetBehind_X0_ancestorAt : GoodIn wsX0_targetBehind (wsV RX0 62 RX0 yX0_ancestorAt wsX0_ancestorAt) := goodIn_app (goodIn_of _ (by decide +kernel)) ggX0_targetBehind_X0_ancestorAt
set_option maxRecDepth 20000 in
theorem ggX0_targetBehind_X0_within : GoodIn wsX0_targetBehind wsX0_within := goodIn_r _ [13, 14, 15, 16, 17, 18, 19, 20] (by decide +kernel) (by decide +kernel)
set_option maxRecDepth 20000 in
theorem gX0_targetBehind_X0_within : GoodIn wsX0_targetBehind (va_wsS RX0 73 yX0_within wsX0_within) := goodIn_app (goodIn_of _ (by decide +kernel)) ggX0_targetBehind_X0_within
set_option maxRecDepth 20000 in
theorem ggX0_bestBlock_X0_isBetter : GoodIn wsX0_bestBlock wsX0_isBetter := goodIn_r _ [7, 8, 9, 10, 11, 12, 13, 14, 15, 16, 17, 18] (by decide +kernel) (by decide +kernel)
set_option maxRecDepth 20000 in
theorem gX0_bestBlock_X0_isBetter : GoodIn wsX0_bestBlock (wsV RX0 81 RX0 yX0_isBetter wsX0_isBetter) := goodIn_app (goodIn_of _ (by decide +kernel)) ggX0_bestBlock_X0_isBetter
set_option maxRecDepth 20000 in
theorem ggX1_add_X1_is : GoodIn wsX1_add wsX1_is := goodIn_r _ [13, 1, 28, 29, 30, 31, 32, 33, 34, 35, 36] (by decide +kernel) (by decide +kernel)
set_option maxRecDepth 20000 in
theorem gX1_add_X1_is : GoodIn wsX1_add (wsV RX1 41 RX1 yX1_is wsX1_is) := goodIn_app (goodIn_of _ (by decide +kernel)) ggX1_add_X1_is
set_option maxRecDepth 20000 in
theorem ggX1_add_X1_median : GoodIn wsX1_add wsX1_median := goodIn_r _ [17, 18, 3, 2, 9, 10, 11, 12, 13, 1, 28, 29, 30, 31, 32, 33, 34, 35, 36] (by decide +kernel) (by decide +kernel)
set_option maxRecDepth 20000 in
theorem gX1_add_X1_median : GoodIn wsX1_add (wsV RX1 45 RX1 yX1_median wsX1_median) := goodIn_app (goodIn_of _ (by decide +kernel)) ggX1_add_X1_median
set_option maxRecDepth 20000 in
theorem ggX1_add_X1_due : GoodIn wsX1_add wsX1_due := goodIn_r _ [22, 6, 5, 3, 23, 9, 10, 11, 12, 13, 1, 24, 25, 26, 27, 2, 28, 29, 30, 31, 32, 33, 34, 35, 36] (by decide +kernel) (by decide +kernel)
set_option maxRecDepth 20000 in
theorem gX1_add_X1_due : GoodIn wsX1_add (wsV RX1 49 RX1 yX1_due wsX1_due) := goodIn_app (goodIn_of _ (by decide +kernel)) ggX1_add_X1_due
set_option maxRecDepth 20000 in
theorem ggX1_refuse_X1_is : GoodIn wsX1_refuse wsX1_is := goodIn_r _ [6, 7, 19, 20, 21, 22, 23, 24, 25, 26, 27] (by decide +kernel) (by decide +kernel)
set_option maxRecDepth 20000 in
theorem gX1_refuse_X1_is : GoodIn wsX1_refuse (wsV RX1 41 RX1 yX1_is wsX1_is) := goodIn_app (goodIn_of _ (by decide +kernel)) ggX1_refuse_X1_is
set_option maxRecDepth 20000 in
theorem ggX1_refuse_X1_best : GoodIn wsX1_refuse wsX1_best := goodIn_r _ [11, 7, 12, 13, 14, 15, 16, 5, 17, 1, 18, 19, 20, 21, 22, 23, 24, 25, 26, 27] (by decide +kernel) (by decide +kernel)
set_option maxRecDepth 20000 in
theorem gX1_refuse_X1_best : GoodIn wsX1_refuse (wsV RX1 53 RX1 yX1_best wsX1_best) := goodIn_app (goodIn_of _ (by decide +kernel)) ggX1_refuse_X1_best
set_option maxRecDepth 20000 in
theorem ggX1_best_X1_wrong : GoodIn wsX1_best wsX1_wrong := goodIn_r _ [8, 9, 10, 11, 12, 13, 14, 15, 16, 17, 18, 19] (by decide +kernel) (by decide +kernel)
set_option maxRecDepth 20000 in
theorem gX1_best_X1_wrong : GoodIn wsX1_best (wsV RX1 57 RX1 yX1_wrong wsX1_wrong) := goodIn_app (goodIn_of _ (by decide +kernel)) ggX1_best_X1_wrong
set_option maxRecDepth 20000 in
theorem ggX1_fork_X1_is : GoodIn wsX1_fork wsX1_is := goodIn_r _ [7, 8, 9, 10, 11, 12, 13, 14, 15, 16, 17] (by decide +kernel) (by decide +kernel)
set_option maxRecDepth 20000 in
theorem gX1_fork_X1_is : GoodIn wsX1_fork (wsV RX1 41 RX1 yX1_is wsX1_is) := goodIn_app (goodIn_of _ (by decide +kernel)) ggX1_fork_X1_is
set_option maxRecDepth 20000 in
theorem ggX1_due_X1_is : GoodIn wsX1_due wsX1_is := goodIn_r _ [9, 10, 16, 17, 18, 19, 20, 21, 22, 23, 24] (by decide +kernel) (by decide +kernel)
set_option maxRecDepth 20000 in
theorem gX1_due_X1_is : GoodIn wsX1_due (wsV RX1 41 RX1 yX1_is wsX1_is) := goodIn_app (goodIn_of _ (by decide +kernel)) ggX1_due_X1_is
set_option maxRecDepth 20000 in
theorem ggX1_due_X1_ancestor : GoodIn wsX1_due wsX1_ancestor := goodIn_r _ [14, 2, 15, 5, 6, 7, 8, 9, 10, 16, 17, 18, 19, 20, 21, 22, 23, 24] (by decide +kernel) (by decide +kernel)
set_option maxRecDepth 20000 in
theorem gX1_due_X1_ancestor : GoodIn wsX1_due (wsV RX1 60 RX1 yX1_ancestor wsX1_ancestor) := goodIn_app (goodIn_of _ (by decide +kernel)) ggX1_due_X1_ancestor
set_option maxRecDepth 20000 in
theorem ggX1_median_X1_is : GoodIn wsX1_median wsX1_is := goodIn_r _ [8, 9, 10, 11, 12, 13, 14, 15, 16, 17, 18] (by decide +kernel) (by decide +kernel)
set_option maxRecDepth 20000 in
theorem gX1_median_X1_is : GoodIn wsX1_median (wsV RX1 41 RX1 yX1_is wsX1_is) := goodIn_app (goodIn_of _ (by decide +kernel)) ggX1_median_X1_is
set_option maxRecDepth 20000 in
theorem ggX1_ancestor_X1_is : GoodIn wsX1_ancestor wsX1_is := goodIn_r _ [7, 8, 9, 10, 11, 12, 13, 14, 15, 16, 17] (by decide +kernel) (by decide +kernel)
set_option maxRecDepth 20000 in
theorem gX1_ancestor_X1_is : GoodIn wsX1_ancestor (wsV RX1 41 RX1 yX1_is wsX1_is) := goodIn_app (goodIn_of _ (by decide +kernel)) ggX1_ancestor_X1_is
set_option maxRecDepth 20000 in
theorem ggX1_look_X1_is : GoodIn wsX1_look wsX1_is := goodIn_r _ [12, 13, 19, 20, 21, 22, 23, 24, 25, 26, 27] (by decide +kernel) (by decide +kernel)
set_option maxRecDepth 20000 in
theorem gX1_look_X1_is : GoodIn wsX1_look (wsV RX1 41 RX1 yX1_is wsX1_is) := goodIn_app (goodIn_of _ (by decide +kernel)) ggX1_look_X1_is
set_option maxRecDepth 20000 in
theorem ggX1_look_X1_wrong : GoodIn wsX1_look wsX1_wrong := goodIn_r _ [17, 18, 4, 19, 20, 21, 22, 23, 24, 25, 26, 27] (by decide +kernel) (by decide +kernel)
set_option maxRecDepth 20000 in
theorem gX1_look_X1_wrong : GoodIn wsX1_look (wsV RX1 57 RX1 yX1_wrong wsX1_wrong) := goodIn_app (goodIn_of _ (by decide +kernel)) ggX1_look_X1_wrong
set_option maxRecDepth 20000 in
theorem ggL_law_X0_init : GoodIn wsL_law wsX0_init := goodIn_r _ [8, 9, 10, 11, 12, 13, 14, 15, 16, 17, 18, 19, 20, 21, 22, 23, 169, 170, 171, 172, 173, 174, 175, 176, 177] (by decide +kernel) (by decide +kernel)
set_option maxRecDepth 20000 in
theorem gL_law_X0_init : GoodIn wsL_law (wsX0_init) := ggL_law_X0_init
set_option maxRecDepth 20000 in
theorem ggL_law_X1_init : GoodIn wsL_law wsX1_init := goodIn_r _ [26, 27, 10, 11, 12, 28, 29, 30, 31, 32, 33, 34, 19, 35, 36, 37, 38, 178, 179, 180, 181, 182, 183, 184, 185, 186] (by decide +kernel) (by decide +kernel)
set_option maxRecDepth 20000 in
theorem gL_law_X1_init : GoodIn wsL_law (wsX1_init) := ggL_law_X1_init
set_option maxRecDepth 20000 in
theorem ggL_law_X0_add : GoodIn wsL_law wsX0_add := goodIn_r _ [42, 23, 13, 14, 15, 16, 17, 18, 43, 20, 44, 45, 46, 2, 47, 48, 49, 50, 51, 52, 53, 54, 55, 21, 56, 57, 58, 59, 60, 61, 62, 63, 64, 65, 66, 67, 68, 69, 70, 71, 72, 73, 74, 169, 170, 171, 172, 173, 174, 175, 176, 177] (by decide +kernel) (by decide +kernel)
set_option maxRecDepth 20000 in
theorem gL_law_X0_add : GoodIn wsL_law (wsV RL 13 RX0 yX0_add wsX0_add) := goodIn_app (goodIn_of _ (by decide +kernel)) ggL_law_X0_add
set_option maxRecDepth 20000 in
theorem ggL_law_X1_add : GoodIn wsL_law wsX1_add := goodIn_r _ [78, 37, 28, 30, 34, 29, 31, 33, 79, 80, 81, 82, 5, 83, 84, 85, 86, 87, 36, 88, 89, 90, 91, 92, 93, 94, 95, 96, 178, 179, 180, 181, 182, 183, 184, 185, 186] (by decide +kernel) (by decide +kernel)
set_option maxRecDepth 20000 in
theorem gL_law_X1_add : GoodIn wsL_law (wsV RL 17 RX1 yX1_add wsX1_add) := goodIn_app (goodIn_of _ (by decide +kernel)) ggL_law_X1_add
set_option maxRecDepth 20000 in
theorem ggL_law_X0_refuse : GoodIn wsL_law wsX0_refuse := goodIn_r _ [100, 20, 23, 13, 44, 45, 46, 2, 47, 101, 102, 103, 104, 105, 106, 107, 108, 18, 16, 169, 170, 171, 172, 173, 174, 175, 176, 177] (by decide +kernel) (by decide +kernel)
set_option maxRecDepth 20000 in
theorem gL_law_X0_refuse : GoodIn wsL_law (wsV RL 18 RX0 yX0_refuse wsX0_refuse) := goodIn_app (goodIn_of _ (by decide +kernel)) ggL_law_X0_refuse
set_option maxRecDepth 20000 in
theorem ggL_law_X1_refuse : GoodIn wsL_law wsX1_refuse := goodIn_r _ [112, 35, 80, 81, 82, 5, 83, 37, 113, 114, 115, 116, 33, 34, 117, 118, 119, 120, 28, 178, 179, 180, 181, 182, 183, 184, 185, 186] (by decide +kernel) (by decide +kernel)
set_option maxRecDepth 20000 in
theorem gL_law_X1_refuse : GoodIn wsL_law (wsV RL 22 RX1 yX1_refuse wsX1_refuse) := goodIn_app (goodIn_of _ (by decide +kernel)) ggL_law_X1_refuse
set_option maxRecDepth 20000 in
theorem ggL_law_X0_best : GoodIn wsL_law wsX0_best := goodIn_r _ [124, 101, 102, 103, 2, 104, 23, 20, 105, 106, 107, 108, 18, 16, 169, 170, 171, 172, 173, 174, 175, 176, 177] (by decide +kernel) (by decide +kernel)
set_option maxRecDepth 20000 in
theorem gL_law_X0_best : GoodIn wsL_law (wsV RL 23 RX0 yX0_best wsX0_best) := goodIn_app (goodIn_of _ (by decide +kernel)) ggL_law_X0_best
set_option maxRecDepth 20000 in
theorem ggL_law_X1_best : GoodIn wsL_law wsX1_best := goodIn_r _ [116, 37, 33, 34, 117, 118, 119, 5, 120, 35, 28, 178, 179, 180, 181, 182, 183, 184, 185, 186] (by decide +kernel) (by decide +kernel)
set_option maxRecDepth 20000 in
theorem gL_law_X1_best : GoodIn wsL_law (wsV RL 27 RX1 yX1_best wsX1_best) := goodIn_app (goodIn_of _ (by decide +kernel)) ggL_law_X1_best
set_option maxRecDepth 20000 in
theorem ggL_law_X0_fork : GoodIn wsL_law wsX0_fork := goodIn_r _ [129, 14, 52, 53, 54, 55, 13, 44, 45, 46, 2, 47, 23, 65, 66, 67, 68, 169, 170, 171, 172, 173, 174, 175, 176, 177] (by decide +kernel) (by decide +kernel)
set_option maxRecDepth 20000 in
theorem gL_law_X0_fork : GoodIn wsL_law (wsV RL 28 RX0 yX0_fork wsX0_fork) := goodIn_app (goodIn_of _ (by decide +kernel)) ggL_law_X0_fork
set_option maxRecDepth 20000 in
theorem ggL_law_X1_fork : GoodIn wsL_law wsX1_fork := goodIn_r _ [133, 29, 28, 80, 81, 82, 5, 83, 37, 178, 179, 180, 181, 182, 183, 184, 185, 186] (by decide +kernel) (by decide +kernel)
set_option maxRecDepth 20000 in
theorem gL_law_X1_fork : GoodIn wsL_law (wsV RL 32 RX1 yX1_fork wsX1_fork) := goodIn_app (goodIn_of _ (by decide +kernel)) ggL_law_X1_fork
set_option maxRecDepth 20000 in
theorem ggL_law_X0_due : GoodIn wsL_law wsX0_due := goodIn_r _ [137, 44, 45, 46, 2, 47, 23, 60, 61, 62, 63, 14, 17, 15, 64, 65, 66, 67, 68, 13, 69, 70, 71, 52, 53, 54, 55, 72, 73, 74, 169, 170, 171, 172, 173, 174, 175, 176, 177] (by decide +kernel) (by decide +kernel)
set_option maxRecDepth 20000 in
theorem gL_law_X0_due : GoodIn wsL_law (wsV RL 33 RX0 yX0_due wsX0_due) := goodIn_app (goodIn_of _ (by decide +kernel)) ggL_law_X0_due
set_option maxRecDepth 20000 in
theorem ggL_law_X1_due : GoodIn wsL_law wsX1_due := goodIn_r _ [91, 31, 29, 30, 92, 80, 81, 82, 5, 83, 37, 93, 94, 95, 96, 28, 178, 179, 180, 181, 182, 183, 184, 185, 186] (by decide +kernel) (by decide +kernel)
set_option maxRecDepth 20000 in
theorem gL_law_X1_due : GoodIn wsL_law (wsV RL 36 RX1 yX1_due wsX1_due) := goodIn_app (goodIn_of _ (by decide +kernel)) ggL_law_X1_due
set_option maxRecDepth 20000 in
theorem ggL_law_X0_median : GoodIn wsL_law wsX0_median := goodIn_r _ [142, 44, 45, 46, 2, 47, 23, 48, 49, 50, 51, 14, 52, 53, 54, 55, 15, 13, 21, 56, 57, 58, 59, 169, 170, 171, 172, 173, 174, 175, 176, 177] (by decide +kernel) (by decide +kernel)
set_option maxRecDepth 20000 in
theorem gL_law_X0_median : GoodIn wsL_law (wsV RL 37 RX0 yX0_median wsX0_median) := goodIn_app (goodIn_of _ (by decide +kernel)) ggL_law_X0_median
set_option maxRecDepth 20000 in
theorem ggL_law_X1_median : GoodIn wsL_law wsX1_median := goodIn_r _ [87, 36, 30, 28, 80, 81, 82, 5, 83, 37, 178, 179, 180, 181, 182, 183, 184, 185, 186] (by decide +kernel) (by decide +kernel)
set_option maxRecDepth 20000 in
theorem gL_law_X1_median : GoodIn wsL_law (wsV RL 40 RX1 yX1_median wsX1_median) := goodIn_app (goodIn_of _ (by decide +kernel)) ggL_law_X1_median
set_option maxRecDepth 20000 in
theorem ggL_law_X0_ancestor : GoodIn wsL_law wsX0_ancestor := goodIn_r _ [147, 14, 44, 45, 46, 2, 47, 23, 65, 66, 67, 68, 13, 169, 170, 171, 172, 173, 174, 175, 176, 177] (by decide +kernel) (by decide +kernel)
set_option maxRecDepth 20000 in
theorem gL_law_X0_ancestor : GoodIn wsL_law (wsV RL 41 RX0 yX0_ancestor wsX0_ancestor) := goodIn_app (goodIn_of _ (by decide +kernel)) ggL_law_X0_ancestor
set_option maxRecDepth 20000 in
theorem ggL_law_X1_ancestor : GoodIn wsL_law wsX1_ancestor := goodIn_r _ [96, 29, 28, 80, 81, 82, 5, 83, 37, 178, 179, 180, 181, 182, 183, 184, 185, 186] (by decide +kernel) (by decide +kernel)
set_option maxRecDepth 20000 in
theorem gL_law_X1_ancestor : GoodIn wsL_law (wsV RL 44 RX1 yX1_ancestor wsX1_ancestor) := goodIn_app (goodIn_of _ (by decide +kernel)) ggL_law_X1_ancestor
set_option maxRecDepth 20000 in
theorem ggL_law_X0_look : GoodIn wsL_law wsX0_look := goodIn_r _ [152, 153, 154, 14, 13, 15, 17, 18, 20, 44, 45, 46, 2, 47, 23, 169, 170, 171, 172, 173, 174, 175, 176, 177] (by decide +kernel) (by decide +kernel)
set_option maxRecDepth 20000 in
theorem gL_law_X0_look : GoodIn wsL_law (wsV RL 45 RX0 yX0_look wsX0_look) := goodIn_app (goodIn_of _ (by decide +kernel)) ggL_law_X0_look
set_option maxRecDepth 20000 in
theorem ggL_law_X1_look : GoodIn wsL_law wsX1_look := goodIn_r _ [158, 159, 160, 29, 28, 30, 31, 33, 80, 81, 82, 5, 83, 37, 117, 118, 119, 120, 35, 178, 179, 180, 181, 182, 183, 184, 185, 186] (by decide +kernel) (by decide +kernel)
set_option maxRecDepth 20000 in
theorem gL_law_X1_look : GoodIn wsL_law (wsV RL 49 RX1 yX1_look wsX1_look) := goodIn_app (goodIn_of _ (by decide +kernel)) ggL_law_X1_look
set_option maxRecDepth 20000 in
theorem ggL_law_X0_blocks : GoodIn wsL_law wsX0_blocks := goodIn_r _ [164, 23, 169, 170, 171, 172, 173, 174, 175, 176, 177] (by decide +kernel) (by decide +kernel)
set_option maxRecDepth 20000 in
theorem gL_law_X0_blocks : GoodIn wsL_law (wsV RL 50 RX0 yX0_blocks wsX0_blocks) := goodIn_app (goodIn_of _ (by decide +kernel)) ggL_law_X0_blocks
set_option maxRecDepth 20000 in
theorem ggL_law_X1_blocks : GoodIn wsL_law wsX1_blocks := goodIn_r _ [168, 37, 178, 179, 180, 181, 182, 183, 184, 185, 186] (by decide +kernel) (by decide +kernel)
set_option maxRecDepth 20000 in
theorem gL_law_X1_blocks : GoodIn wsL_law (wsV RL 53 RX1 yX1_blocks wsX1_blocks) := goodIn_app (goodIn_of _ (by decide +kernel)) ggL_law_X1_blocks
abbrev vwCl : List vw_C := [(RX0, TX0, 9), (RX1, TX1, 9)]
end
section
theorem dX0_init_0 : decode cX0_init 0 = .ok (.aload_n 0, 1) := by decide +kernel
theorem dX0_init_1 : decode cX0_init 1 = .ok (.invokespecial 1, 3) := by decide +kernel
theorem dX0_init_4 : decode cX0_init 4 = .ok (.aload_n 0, 1) := by decide +kernel
theorem dX0_init_5 : decode cX0_init 5 = .ok (.sipush 512, 3) := by decide +kernel
theorem dX0_init_8 : decode cX0_init 8 = .ok (.newarray .int, 2) := by decide +kernel
theorem dX0_init_10 : decode cX0_init 10 = .ok (.putfield 9, 3) := by decide +kernel
theorem dX0_init_13 : decode cX0_init 13 = .ok (.aload_n 0, 1) := by decide +kernel
theorem dX0_init_14 : decode cX0_init 14 = .ok (.sipush 512, 3) := by decide +kernel
theorem dX0_init_17 : decode cX0_init 17 = .ok (.newarray .int, 2) := by decide +kernel
theorem dX0_init_19 : decode cX0_init 19 = .ok (.putfield 13, 3) := by decide +kernel
theorem dX0_init_22 : decode cX0_init 22 = .ok (.aload_n 0, 1) := by decide +kernel
theorem dX0_init_23 : decode cX0_init 23 = .ok (.sipush 512, 3) := by decide +kernel
theorem dX0_init_26 : decode cX0_init 26 = .ok (.newarray .int, 2) := by decide +kernel
theorem dX0_init_28 : decode cX0_init 28 = .ok (.putfield 16, 3) := by decide +kernel
theorem dX0_init_31 : decode cX0_init 31 = .ok (.aload_n 0, 1) := by decide +kernel
theorem dX0_init_32 : decode cX0_init 32 = .ok (.sipush 512, 3) := by decide +kernel
theorem dX0_init_35 : decode cX0_init 35 = .ok (.newarray .int, 2) := by decide +kernel
theorem dX0_init_37 : decode cX0_init 37 = .ok (.putfield 19, 3) := by decide +kernel
theorem dX0_init_40 : decode cX0_init 40 = .ok (.aload_n 0, 1) := by decide +kernel
theorem dX0_init_41 : decode cX0_init 41 = .ok (.sipush 512, 3) := by decide +kernel
theorem dX0_init_44 : decode cX0_init 44 = .ok (.newarray .int, 2) := by decide +kernel
theorem dX0_init_46 : decode cX0_init 46 = .ok (.putfield 22, 3) := by decide +kernel
theorem dX0_init_49 : decode cX0_init 49 = .ok (.aload_n 0, 1) := by decide +kernel
theorem dX0_init_50 : decode cX0_init 50 = .ok (.sipush 512, 3) := by decide +kernel
theorem dX0_init_53 : decode cX0_init 53 = .ok (.newarray .int, 2) := by decide +kernel
theorem dX0_init_55 : decode cX0_init 55 = .ok (.putfield 25, 3) := by decide +kernel
theorem dX0_init_58 : decode cX0_init 58 = .ok (.aload_n 0, 1) := by decide +kernel
theorem dX0_init_59 : decode cX0_init 59 = .ok (.sipush 512, 3) := by decide +kernel
theorem dX0_init_62 : decode cX0_init 62 = .ok (.newarray .boolean, 2) := by decide +kernel
theorem dX0_init_64 : decode cX0_init 64 = .ok (.putfield 28, 3) := by decide +kernel
theorem dX0_init_67 : decode cX0_init 67 = .ok (.aload_n 0, 1) := by decide +kernel
theorem dX0_init_68 : decode cX0_init 68 = .ok (.bipush 7, 2) := by decide +kernel
theorem dX0_init_70 : decode cX0_init 70 = .ok (.newarray .int, 2) := by decide +kernel
theorem dX0_init_72 : decode cX0_init 72 = .ok (.putfield 32, 3) := by decide +kernel
theorem dX0_init_75 : decode cX0_init 75 = .ok (.aload_n 0, 1) := by decide +kernel
theorem dX0_init_76 : decode cX0_init 76 = .ok (.getfield 9, 3) := by decide +kernel
theorem dX0_init_79 : decode cX0_init 79 = .ok (.iconst 0, 1) := by decide +kernel
theorem dX0_init_80 : decode cX0_init 80 = .ok (.bipush (-2), 2) := by decide +kernel
theorem dX0_init_82 : decode cX0_init 82 = .ok (.iastore, 1) := by decide +kernel
theorem dX0_init_83 : decode cX0_init 83 = .ok (.aload_n 0, 1) := by decide +kernel
theorem dX0_init_84 : decode cX0_init 84 = .ok (.getfield 22, 3) := by decide +kernel
theorem dX0_init_87 : decode cX0_init 87 = .ok (.iconst 0, 1) := by decide +kernel
theorem dX0_init_88 : decode cX0_init 88 = .ok (.ldc 35, 2) := by decide +kernel
theorem dX0_init_90 : decode cX0_init 90 = .ok (.iastore, 1) := by decide +kernel
theorem dX0_init_91 : decode cX0_init 91 = .ok (.aload_n 0, 1) := by decide +kernel
theorem dX0_init_92 : decode cX0_init 92 = .ok (.iconst 1, 1) := by decide +kernel
theorem dX0_init_93 : decode cX0_init 93 = .ok (.putfield 36, 3) := by decide +kernel
theorem dX0_init_96 : decode cX0_init 96 = .ok (.return_, 1) := by decide +kernel
theorem dX0_add_0 : decode cX0_add 0 = .ok (.aload_n 0, 1) := by decide +kernel
theorem dX0_add_1 : decode cX0_add 1 = .ok (.iload_n 1, 1) := by decide +kernel
theorem dX0_add_2 : decode cX0_add 2 = .ok (.invokevirtual 40, 3) := by decide +kernel
theorem dX0_add_5 : decode cX0_add 5 = .ok (.ifCond .eq 16, 3) := by decide +kernel
theorem dX0_add_8 : decode cX0_add 8 = .ok (.iload_n 2, 1) := by decide +kernel
theorem dX0_add_9 : decode cX0_add 9 = .ok (.aload_n 0, 1) := by decide +kernel
theorem dX0_add_10 : decode cX0_add 10 = .ok (.iload_n 1, 1) := by decide +kernel
theorem dX0_add_11 : decode cX0_add 11 = .ok (.invokevirtual 44, 3) := by decide +kernel
theorem dX0_add_14 : decode cX0_add 14 = .ok (.if_icmp .le 7, 3) := by decide +kernel
theorem dX0_add_17 : decode cX0_add 17 = .ok (.iload_n 3, 1) := by decide +kernel
theorem dX0_add_18 : decode cX0_add 18 = .ok (.ifCond .ge 5, 3) := by decide +kernel
theorem dX0_add_21 : decode cX0_add 21 = .ok (.iconst (-1), 1) := by decide +kernel
theorem dX0_add_22 : decode cX0_add 22 = .ok (.ireturn, 1) := by decide +kernel
theorem dX0_add_23 : decode cX0_add 23 = .ok (.aload_n 0, 1) := by decide +kernel
theorem dX0_add_24 : decode cX0_add 24 = .ok (.getfield 36, 3) := by decide +kernel
theorem dX0_add_27 : decode cX0_add 27 = .ok (.sipush 512, 3) := by decide +kernel
theorem dX0_add_30 : decode cX0_add 30 = .ok (.if_icmp .lt 6, 3) := by decide +kernel
theorem dX0_add_33 : decode cX0_add 33 = .ok (.bipush (-3), 2) := by decide +kernel
theorem dX0_add_35 : decode cX0_add 35 = .ok (.ireturn, 1) := by decide +kernel
theorem dX0_add_36 : decode cX0_add 36 = .ok (.aload_n 0, 1) := by decide +kernel
theorem dX0_add_37 : decode cX0_add 37 = .ok (.getfield 36, 3) := by decide +kernel
theorem dX0_add_40 : decode cX0_add 40 = .ok (.istore 4, 2) := by decide +kernel
theorem dX0_add_42 : decode cX0_add 42 = .ok (.aload_n 0, 1) := by decide +kernel
theorem dX0_add_43 : decode cX0_add 43 = .ok (.iload_n 1, 1) := by decide +kernel
theorem dX0_add_44 : decode cX0_add 44 = .ok (.invokevirtual 48, 3) := by decide +kernel
theorem dX0_add_47 : decode cX0_add 47 = .ok (.istore 5, 2) := by decide +kernel
theorem dX0_add_49 : decode cX0_add 49 = .ok (.aload_n 0, 1) := by decide +kernel
theorem dX0_add_50 : decode cX0_add 50 = .ok (.getfield 9, 3) := by decide +kernel
theorem dX0_add_53 : decode cX0_add 53 = .ok (.iload 4, 2) := by decide +kernel
theorem dX0_add_55 : decode cX0_add 55 = .ok (.iload_n 1, 1) := by decide +kernel
theorem dX0_add_56 : decode cX0_add 56 = .ok (.iastore, 1) := by decide +kernel
theorem dX0_add_57 : decode cX0_add 57 = .ok (.aload_n 0, 1) := by decide +kernel
theorem dX0_add_58 : decode cX0_add 58 = .ok (.getfield 13, 3) := by decide +kernel
theorem dX0_add_61 : decode cX0_add 61 = .ok (.iload 4, 2) := by decide +kernel
theorem dX0_add_63 : decode cX0_add 63 = .ok (.aload_n 0, 1) := by decide +kernel
theorem dX0_add_64 : decode cX0_add 64 = .ok (.getfield 13, 3) := by decide +kernel
theorem dX0_add_67 : decode cX0_add 67 = .ok (.iload_n 1, 1) := by decide +kernel
theorem dX0_add_68 : decode cX0_add 68 = .ok (.iaload, 1) := by decide +kernel
theorem dX0_add_69 : decode cX0_add 69 = .ok (.iconst 1, 1) := by decide +kernel
theorem dX0_add_70 : decode cX0_add 70 = .ok (.iadd, 1) := by decide +kernel
theorem dX0_add_71 : decode cX0_add 71 = .ok (.iastore, 1) := by decide +kernel
theorem dX0_add_72 : decode cX0_add 72 = .ok (.aload_n 0, 1) := by decide +kernel
theorem dX0_add_73 : decode cX0_add 73 = .ok (.getfield 16, 3) := by decide +kernel
theorem dX0_add_76 : decode cX0_add 76 = .ok (.iload 4, 2) := by decide +kernel
theorem dX0_add_78 : decode cX0_add 78 = .ok (.iload_n 2, 1) := by decide +kernel
theorem dX0_add_79 : decode cX0_add 79 = .ok (.iastore, 1) := by decide +kernel
theorem dX0_add_80 : decode cX0_add 80 = .ok (.aload_n 0, 1) := by decide +kernel
theorem dX0_add_81 : decode cX0_add 81 = .ok (.getfield 19, 3) := by decide +kernel
theorem dX0_add_84 : decode cX0_add 84 = .ok (.iload 4, 2) := by decide +kernel
theorem dX0_add_86 : decode cX0_add 86 = .ok (.iload_n 3, 1) := by decide +kernel
theorem dX0_add_87 : decode cX0_add 87 = .ok (.iastore, 1) := by decide +kernel
theorem dX0_add_88 : decode cX0_add 88 = .ok (.aload_n 0, 1) := by decide +kernel
theorem dX0_add_89 : decode cX0_add 89 = .ok (.getfield 22, 3) := by decide +kernel
theorem dX0_add_92 : decode cX0_add 92 = .ok (.iload 4, 2) := by decide +kernel
theorem dX0_add_94 : decode cX0_add 94 = .ok (.iload 5, 2) := by decide +kernel
theorem dX0_add_96 : decode cX0_add 96 = .ok (.iastore, 1) := by decide +kernel
theorem dX0_add_97 : decode cX0_add 97 = .ok (.aload_n 0, 1) := by decide +kernel
theorem dX0_add_98 : decode cX0_add 98 = .ok (.getfield 25, 3) := by decide +kernel
theorem dX0_add_101 : decode cX0_add 101 = .ok (.iload 4, 2) := by decide +kernel
theorem dX0_add_103 : decode cX0_add 103 = .ok (.aload_n 0, 1) := by decide +kernel
theorem dX0_add_104 : decode cX0_add 104 = .ok (.getfield 25, 3) := by decide +kernel
theorem dX0_add_107 : decode cX0_add 107 = .ok (.iload_n 1, 1) := by decide +kernel
theorem dX0_add_108 : decode cX0_add 108 = .ok (.iaload, 1) := by decide +kernel
theorem dX0_add_109 : decode cX0_add 109 = .ok (.ldc 51, 2) := by decide +kernel
theorem dX0_add_111 : decode cX0_add 111 = .ok (.iload 5, 2) := by decide +kernel
theorem dX0_add_113 : decode cX0_add 113 = .ok (.idiv, 1) := by decide +kernel
theorem dX0_add_114 : decode cX0_add 114 = .ok (.iadd, 1) := by decide +kernel
theorem dX0_add_115 : decode cX0_add 115 = .ok (.iastore, 1) := by decide +kernel
theorem dX0_add_116 : decode cX0_add 116 = .ok (.aload_n 0, 1) := by decide +kernel
theorem dX0_add_117 : decode cX0_add 117 = .ok (.getfield 28, 3) := by decide +kernel
theorem dX0_add_120 : decode cX0_add 120 = .ok (.iload 4, 2) := by decide +kernel
theorem dX0_add_122 : decode cX0_add 122 = .ok (.aload_n 0, 1) := by decide +kernel
theorem dX0_add_123 : decode cX0_add 123 = .ok (.getfield 28, 3) := by decide +kernel
theorem dX0_add_126 : decode cX0_add 126 = .ok (.iload_n 1, 1) := by decide +kernel
theorem dX0_add_127 : decode cX0_add 127 = .ok (.baload, 1) := by decide +kernel
theorem dX0_add_128 : decode cX0_add 128 = .ok (.bastore, 1) := by decide +kernel
theorem dX0_add_129 : decode cX0_add 129 = .ok (.aload_n 0, 1) := by decide +kernel
theorem dX0_add_130 : decode cX0_add 130 = .ok (.dup, 1) := by decide +kernel
theorem dX0_add_131 : decode cX0_add 131 = .ok (.getfield 36, 3) := by decide +kernel
theorem dX0_add_134 : decode cX0_add 134 = .ok (.iconst 1, 1) := by decide +kernel
theorem dX0_add_135 : decode cX0_add 135 = .ok (.iadd, 1) := by decide +kernel
theorem dX0_add_136 : decode cX0_add 136 = .ok (.putfield 36, 3) := by decide +kernel
theorem dX0_add_139 : decode cX0_add 139 = .ok (.iload 4, 2) := by decide +kernel
theorem dX0_add_141 : decode cX0_add 141 = .ok (.ireturn, 1) := by decide +kernel
theorem dX0_refuse_0 : decode cX0_refuse 0 = .ok (.aload_n 0, 1) := by decide +kernel
theorem dX0_refuse_1 : decode cX0_refuse 1 = .ok (.iload_n 1, 1) := by decide +kernel
theorem dX0_refuse_2 : decode cX0_refuse 2 = .ok (.invokevirtual 40, 3) := by decide +kernel
theorem dX0_refuse_5 : decode cX0_refuse 5 = .ok (.ifCond .eq 7, 3) := by decide +kernel
theorem dX0_refuse_8 : decode cX0_refuse 8 = .ok (.iload_n 1, 1) := by decide +kernel
theorem dX0_refuse_9 : decode cX0_refuse 9 = .ok (.ifCond .ne 5, 3) := by decide +kernel
theorem dX0_refuse_12 : decode cX0_refuse 12 = .ok (.iconst (-1), 1) := by decide +kernel
theorem dX0_refuse_13 : decode cX0_refuse 13 = .ok (.ireturn, 1) := by decide +kernel
theorem dX0_refuse_14 : decode cX0_refuse 14 = .ok (.aload_n 0, 1) := by decide +kernel
theorem dX0_refuse_15 : decode cX0_refuse 15 = .ok (.getfield 28, 3) := by decide +kernel
theorem dX0_refuse_18 : decode cX0_refuse 18 = .ok (.iload_n 1, 1) := by decide +kernel
theorem dX0_refuse_19 : decode cX0_refuse 19 = .ok (.iconst 1, 1) := by decide +kernel
theorem dX0_refuse_20 : decode cX0_refuse 20 = .ok (.bastore, 1) := by decide +kernel
theorem dX0_refuse_21 : decode cX0_refuse 21 = .ok (.iload_n 1, 1) := by decide +kernel
theorem dX0_refuse_22 : decode cX0_refuse 22 = .ok (.iconst 1, 1) := by decide +kernel
theorem dX0_refuse_23 : decode cX0_refuse 23 = .ok (.iadd, 1) := by decide +kernel
theorem dX0_refuse_24 : decode cX0_refuse 24 = .ok (.istore_n 2, 1) := by decide +kernel
theorem dX0_refuse_25 : decode cX0_refuse 25 = .ok (.iload_n 2, 1) := by decide +kernel
theorem dX0_refuse_26 : decode cX0_refuse 26 = .ok (.aload_n 0, 1) := by decide +kernel
theorem dX0_refuse_27 : decode cX0_refuse 27 = .ok (.getfield 36, 3) := by decide +kernel
theorem dX0_refuse_30 : decode cX0_refuse 30 = .ok (.if_icmp .ge 30, 3) := by decide +kernel
theorem dX0_refuse_33 : decode cX0_refuse 33 = .ok (.aload_n 0, 1) := by decide +kernel
theorem dX0_refuse_34 : decode cX0_refuse 34 = .ok (.getfield 28, 3) := by decide +kernel
theorem dX0_refuse_37 : decode cX0_refuse 37 = .ok (.aload_n 0, 1) := by decide +kernel
theorem dX0_refuse_38 : decode cX0_refuse 38 = .ok (.getfield 9, 3) := by decide +kernel
theorem dX0_refuse_41 : decode cX0_refuse 41 = .ok (.iload_n 2, 1) := by decide +kernel
theorem dX0_refuse_42 : decode cX0_refuse 42 = .ok (.iaload, 1) := by decide +kernel
theorem dX0_refuse_43 : decode cX0_refuse 43 = .ok (.baload, 1) := by decide +kernel
theorem dX0_refuse_44 : decode cX0_refuse 44 = .ok (.ifCond .eq 10, 3) := by decide +kernel
theorem dX0_refuse_47 : decode cX0_refuse 47 = .ok (.aload_n 0, 1) := by decide +kernel
theorem dX0_refuse_48 : decode cX0_refuse 48 = .ok (.getfield 28, 3) := by decide +kernel
theorem dX0_refuse_51 : decode cX0_refuse 51 = .ok (.iload_n 2, 1) := by decide +kernel
theorem dX0_refuse_52 : decode cX0_refuse 52 = .ok (.iconst 1, 1) := by decide +kernel
theorem dX0_refuse_53 : decode cX0_refuse 53 = .ok (.bastore, 1) := by decide +kernel
theorem dX0_refuse_54 : decode cX0_refuse 54 = .ok (.iinc 2 1, 3) := by decide +kernel
theorem dX0_refuse_57 : decode cX0_refuse 57 = .ok (.goto (-32), 3) := by decide +kernel
theorem dX0_refuse_60 : decode cX0_refuse 60 = .ok (.aload_n 0, 1) := by decide +kernel
theorem dX0_refuse_61 : decode cX0_refuse 61 = .ok (.invokevirtual 52, 3) := by decide +kernel
theorem dX0_refuse_64 : decode cX0_refuse 64 = .ok (.ireturn, 1) := by decide +kernel
theorem dX0_best_0 : decode cX0_best 0 = .ok (.aload_n 0, 1) := by decide +kernel
theorem dX0_best_1 : decode cX0_best 1 = .ok (.invokevirtual 52, 3) := by decide +kernel
theorem dX0_best_4 : decode cX0_best 4 = .ok (.ireturn, 1) := by decide +kernel
theorem dX0_fork_0 : decode cX0_fork 0 = .ok (.aload_n 0, 1) := by decide +kernel
theorem dX0_fork_1 : decode cX0_fork 1 = .ok (.iload_n 1, 1) := by decide +kernel
theorem dX0_fork_2 : decode cX0_fork 2 = .ok (.invokevirtual 40, 3) := by decide +kernel
theorem dX0_fork_5 : decode cX0_fork 5 = .ok (.ifCond .eq 11, 3) := by decide +kernel
theorem dX0_fork_8 : decode cX0_fork 8 = .ok (.aload_n 0, 1) := by decide +kernel
theorem dX0_fork_9 : decode cX0_fork 9 = .ok (.iload_n 2, 1) := by decide +kernel
theorem dX0_fork_10 : decode cX0_fork 10 = .ok (.invokevirtual 40, 3) := by decide +kernel
theorem dX0_fork_13 : decode cX0_fork 13 = .ok (.ifCond .ne 6, 3) := by decide +kernel
theorem dX0_fork_16 : decode cX0_fork 16 = .ok (.bipush (-2), 2) := by decide +kernel
theorem dX0_fork_18 : decode cX0_fork 18 = .ok (.ireturn, 1) := by decide +kernel
theorem dX0_fork_19 : decode cX0_fork 19 = .ok (.aload_n 0, 1) := by decide +kernel
theorem dX0_fork_20 : decode cX0_fork 20 = .ok (.getfield 13, 3) := by decide +kernel
theorem dX0_fork_23 : decode cX0_fork 23 = .ok (.iload_n 1, 1) := by decide +kernel
theorem dX0_fork_24 : decode cX0_fork 24 = .ok (.iaload, 1) := by decide +kernel
theorem dX0_fork_25 : decode cX0_fork 25 = .ok (.aload_n 0, 1) := by decide +kernel
theorem dX0_fork_26 : decode cX0_fork 26 = .ok (.getfield 13, 3) := by decide +kernel
theorem dX0_fork_29 : decode cX0_fork 29 = .ok (.iload_n 2, 1) := by decide +kernel
theorem dX0_fork_30 : decode cX0_fork 30 = .ok (.iaload, 1) := by decide +kernel
theorem dX0_fork_31 : decode cX0_fork 31 = .ok (.invokestatic 56, 3) := by decide +kernel
theorem dX0_fork_34 : decode cX0_fork 34 = .ok (.istore_n 3, 1) := by decide +kernel
theorem dX0_fork_35 : decode cX0_fork 35 = .ok (.aload_n 0, 1) := by decide +kernel
theorem dX0_fork_36 : decode cX0_fork 36 = .ok (.iload_n 1, 1) := by decide +kernel
theorem dX0_fork_37 : decode cX0_fork 37 = .ok (.iload_n 3, 1) := by decide +kernel
theorem dX0_fork_38 : decode cX0_fork 38 = .ok (.invokevirtual 62, 3) := by decide +kernel
theorem dX0_fork_41 : decode cX0_fork 41 = .ok (.istore 4, 2) := by decide +kernel
theorem dX0_fork_43 : decode cX0_fork 43 = .ok (.aload_n 0, 1) := by decide +kernel
theorem dX0_fork_44 : decode cX0_fork 44 = .ok (.iload_n 2, 1) := by decide +kernel
theorem dX0_fork_45 : decode cX0_fork 45 = .ok (.iload_n 3, 1) := by decide +kernel
theorem dX0_fork_46 : decode cX0_fork 46 = .ok (.invokevirtual 62, 3) := by decide +kernel
theorem dX0_fork_49 : decode cX0_fork 49 = .ok (.istore 5, 2) := by decide +kernel
theorem dX0_fork_51 : decode cX0_fork 51 = .ok (.iload_n 3, 1) := by decide +kernel
theorem dX0_fork_52 : decode cX0_fork 52 = .ok (.istore 6, 2) := by decide +kernel
theorem dX0_fork_54 : decode cX0_fork 54 = .ok (.iload 6, 2) := by decide +kernel
theorem dX0_fork_56 : decode cX0_fork 56 = .ok (.ifCond .le 34, 3) := by decide +kernel
theorem dX0_fork_59 : decode cX0_fork 59 = .ok (.iload 4, 2) := by decide +kernel
theorem dX0_fork_61 : decode cX0_fork 61 = .ok (.iload 5, 2) := by decide +kernel
theorem dX0_fork_63 : decode cX0_fork 63 = .ok (.if_icmp .eq 27, 3) := by decide +kernel
theorem dX0_fork_66 : decode cX0_fork 66 = .ok (.aload_n 0, 1) := by decide +kernel
theorem dX0_fork_67 : decode cX0_fork 67 = .ok (.getfield 9, 3) := by decide +kernel
theorem dX0_fork_70 : decode cX0_fork 70 = .ok (.iload 4, 2) := by decide +kernel
theorem dX0_fork_72 : decode cX0_fork 72 = .ok (.iaload, 1) := by decide +kernel
theorem dX0_fork_73 : decode cX0_fork 73 = .ok (.istore 4, 2) := by decide +kernel
theorem dX0_fork_75 : decode cX0_fork 75 = .ok (.aload_n 0, 1) := by decide +kernel
theorem dX0_fork_76 : decode cX0_fork 76 = .ok (.getfield 9, 3) := by decide +kernel
theorem dX0_fork_79 : decode cX0_fork 79 = .ok (.iload 5, 2) := by decide +kernel
theorem dX0_fork_81 : decode cX0_fork 81 = .ok (.iaload, 1) := by decide +kernel
theorem dX0_fork_82 : decode cX0_fork 82 = .ok (.istore 5, 2) := by decide +kernel
theorem dX0_fork_84 : decode cX0_fork 84 = .ok (.iinc 6 (-1), 3) := by decide +kernel
theorem dX0_fork_87 : decode cX0_fork 87 = .ok (.goto (-33), 3) := by decide +kernel
theorem dX0_fork_90 : decode cX0_fork 90 = .ok (.iload 4, 2) := by decide +kernel
theorem dX0_fork_92 : decode cX0_fork 92 = .ok (.ireturn, 1) := by decide +kernel
theorem dX0_due_0 : decode cX0_due 0 = .ok (.aload_n 0, 1) := by decide +kernel
theorem dX0_due_1 : decode cX0_due 1 = .ok (.iload_n 1, 1) := by decide +kernel
theorem dX0_due_2 : decode cX0_due 2 = .ok (.invokevirtual 40, 3) := by decide +kernel
theorem dX0_due_5 : decode cX0_due 5 = .ok (.ifCond .eq 11, 3) := by decide +kernel
theorem dX0_due_8 : decode cX0_due 8 = .ok (.aload_n 0, 1) := by decide +kernel
theorem dX0_due_9 : decode cX0_due 9 = .ok (.iload_n 1, 1) := by decide +kernel
theorem dX0_due_10 : decode cX0_due 10 = .ok (.invokevirtual 48, 3) := by decide +kernel
theorem dX0_due_13 : decode cX0_due 13 = .ok (.goto 5, 3) := by decide +kernel
theorem dX0_due_16 : decode cX0_due 16 = .ok (.bipush (-2), 2) := by decide +kernel
theorem dX0_due_18 : decode cX0_due 18 = .ok (.ireturn, 1) := by decide +kernel
theorem dX0_median_0 : decode cX0_median 0 = .ok (.aload_n 0, 1) := by decide +kernel
theorem dX0_median_1 : decode cX0_median 1 = .ok (.iload_n 1, 1) := by decide +kernel
theorem dX0_median_2 : decode cX0_median 2 = .ok (.invokevirtual 40, 3) := by decide +kernel
theorem dX0_median_5 : decode cX0_median 5 = .ok (.ifCond .eq 11, 3) := by decide +kernel
theorem dX0_median_8 : decode cX0_median 8 = .ok (.aload_n 0, 1) := by decide +kernel
theorem dX0_median_9 : decode cX0_median 9 = .ok (.iload_n 1, 1) := by decide +kernel
theorem dX0_median_10 : decode cX0_median 10 = .ok (.invokevirtual 44, 3) := by decide +kernel
theorem dX0_median_13 : decode cX0_median 13 = .ok (.goto 5, 3) := by decide +kernel
theorem dX0_median_16 : decode cX0_median 16 = .ok (.bipush (-2), 2) := by decide +kernel
theorem dX0_median_18 : decode cX0_median 18 = .ok (.ireturn, 1) := by decide +kernel
theorem dX0_ancestor_0 : decode cX0_ancestor 0 = .ok (.aload_n 0, 1) := by decide +kernel
theorem dX0_ancestor_1 : decode cX0_ancestor 1 = .ok (.iload_n 1, 1) := by decide +kernel
theorem dX0_ancestor_2 : decode cX0_ancestor 2 = .ok (.invokevirtual 40, 3) := by decide +kernel
theorem dX0_ancestor_5 : decode cX0_ancestor 5 = .ok (.ifCond .eq 17, 3) := by decide +kernel
theorem dX0_ancestor_8 : decode cX0_ancestor 8 = .ok (.iload_n 2, 1) := by decide +kernel
theorem dX0_ancestor_9 : decode cX0_ancestor 9 = .ok (.ifCond .lt 13, 3) := by decide +kernel
theorem dX0_ancestor_12 : decode cX0_ancestor 12 = .ok (.iload_n 2, 1) := by decide +kernel
theorem dX0_ancestor_13 : decode cX0_ancestor 13 = .ok (.aload_n 0, 1) := by decide +kernel
theorem dX0_ancestor_14 : decode cX0_ancestor 14 = .ok (.getfield 13, 3) := by decide +kernel
theorem dX0_ancestor_17 : decode cX0_ancestor 17 = .ok (.iload_n 1, 1) := by decide +kernel
theorem dX0_ancestor_18 : decode cX0_ancestor 18 = .ok (.iaload, 1) := by decide +kernel
theorem dX0_ancestor_19 : decode cX0_ancestor 19 = .ok (.if_icmp .le 6, 3) := by decide +kernel
theorem dX0_ancestor_22 : decode cX0_ancestor 22 = .ok (.bipush (-2), 2) := by decide +kernel
theorem dX0_ancestor_24 : decode cX0_ancestor 24 = .ok (.ireturn, 1) := by decide +kernel
theorem dX0_ancestor_25 : decode cX0_ancestor 25 = .ok (.aload_n 0, 1) := by decide +kernel
theorem dX0_ancestor_26 : decode cX0_ancestor 26 = .ok (.iload_n 1, 1) := by decide +kernel
theorem dX0_ancestor_27 : decode cX0_ancestor 27 = .ok (.iload_n 2, 1) := by decide +kernel
theorem dX0_ancestor_28 : decode cX0_ancestor 28 = .ok (.invokevirtual 62, 3) := by decide +kernel
theorem dX0_ancestor_31 : decode cX0_ancestor 31 = .ok (.ireturn, 1) := by decide +kernel
theorem dX0_look_0 : decode cX0_look 0 = .ok (.iload_n 2, 1) := by decide +kernel
theorem dX0_look_1 : decode cX0_look 1 = .ok (.ifCond .lt 8, 3) := by decide +kernel
theorem dX0_look_4 : decode cX0_look 4 = .ok (.iload_n 2, 1) := by decide +kernel
theorem dX0_look_5 : decode cX0_look 5 = .ok (.iconst 5, 1) := by decide +kernel
theorem dX0_look_6 : decode cX0_look 6 = .ok (.if_icmp .le 7, 3) := by decide +kernel
theorem dX0_look_9 : decode cX0_look 9 = .ok (.ldc2_w 65, 3) := by decide +kernel
theorem dX0_look_12 : decode cX0_look 12 = .ok (.lreturn, 1) := by decide +kernel
theorem dX0_look_13 : decode cX0_look 13 = .ok (.aload_n 0, 1) := by decide +kernel
theorem dX0_look_14 : decode cX0_look 14 = .ok (.iload_n 1, 1) := by decide +kernel
theorem dX0_look_15 : decode cX0_look 15 = .ok (.invokevirtual 40, 3) := by decide +kernel
theorem dX0_look_18 : decode cX0_look 18 = .ok (.ifCond .ne 7, 3) := by decide +kernel
theorem dX0_look_21 : decode cX0_look 21 = .ok (.ldc2_w 67, 3) := by decide +kernel
theorem dX0_look_24 : decode cX0_look 24 = .ok (.lreturn, 1) := by decide +kernel
theorem dX0_look_25 : decode cX0_look 25 = .ok (.iload_n 2, 1) := by decide +kernel
theorem dX0_look_26 : decode cX0_look 26 = .ok (.tableswitch 74 0 4 #[34, 42, 50, 58, 66], 34) := by decide +kernel
theorem dX0_look_60 : decode cX0_look 60 = .ok (.aload_n 0, 1) := by decide +kernel
theorem dX0_look_61 : decode cX0_look 61 = .ok (.getfield 13, 3) := by decide +kernel
theorem dX0_look_64 : decode cX0_look 64 = .ok (.iload_n 1, 1) := by decide +kernel
theorem dX0_look_65 : decode cX0_look 65 = .ok (.iaload, 1) := by decide +kernel
theorem dX0_look_66 : decode cX0_look 66 = .ok (.i2l, 1) := by decide +kernel
theorem dX0_look_67 : decode cX0_look 67 = .ok (.lreturn, 1) := by decide +kernel
theorem dX0_look_68 : decode cX0_look 68 = .ok (.aload_n 0, 1) := by decide +kernel
theorem dX0_look_69 : decode cX0_look 69 = .ok (.getfield 9, 3) := by decide +kernel
theorem dX0_look_72 : decode cX0_look 72 = .ok (.iload_n 1, 1) := by decide +kernel
theorem dX0_look_73 : decode cX0_look 73 = .ok (.iaload, 1) := by decide +kernel
theorem dX0_look_74 : decode cX0_look 74 = .ok (.i2l, 1) := by decide +kernel
theorem dX0_look_75 : decode cX0_look 75 = .ok (.lreturn, 1) := by decide +kernel
theorem dX0_look_76 : decode cX0_look 76 = .ok (.aload_n 0, 1) := by decide +kernel
theorem dX0_look_77 : decode cX0_look 77 = .ok (.getfield 16, 3) := by decide +kernel
theorem dX0_look_80 : decode cX0_look 80 = .ok (.iload_n 1, 1) := by decide +kernel
theorem dX0_look_81 : decode cX0_look 81 = .ok (.iaload, 1) := by decide +kernel
theorem dX0_look_82 : decode cX0_look 82 = .ok (.i2l, 1) := by decide +kernel
theorem dX0_look_83 : decode cX0_look 83 = .ok (.lreturn, 1) := by decide +kernel
theorem dX0_look_84 : decode cX0_look 84 = .ok (.aload_n 0, 1) := by decide +kernel
theorem dX0_look_85 : decode cX0_look 85 = .ok (.getfield 22, 3) := by decide +kernel
theorem dX0_look_88 : decode cX0_look 88 = .ok (.iload_n 1, 1) := by decide +kernel
theorem dX0_look_89 : decode cX0_look 89 = .ok (.iaload, 1) := by decide +kernel
theorem dX0_look_90 : decode cX0_look 90 = .ok (.i2l, 1) := by decide +kernel
theorem dX0_look_91 : decode cX0_look 91 = .ok (.lreturn, 1) := by decide +kernel
theorem dX0_look_92 : decode cX0_look 92 = .ok (.aload_n 0, 1) := by decide +kernel
theorem dX0_look_93 : decode cX0_look 93 = .ok (.getfield 25, 3) := by decide +kernel
theorem dX0_look_96 : decode cX0_look 96 = .ok (.iload_n 1, 1) := by decide +kernel
theorem dX0_look_97 : decode cX0_look 97 = .ok (.iaload, 1) := by decide +kernel
theorem dX0_look_98 : decode cX0_look 98 = .ok (.i2l, 1) := by decide +kernel
theorem dX0_look_99 : decode cX0_look 99 = .ok (.lreturn, 1) := by decide +kernel
theorem dX0_look_100 : decode cX0_look 100 = .ok (.aload_n 0, 1) := by decide +kernel
theorem dX0_look_101 : decode cX0_look 101 = .ok (.getfield 28, 3) := by decide +kernel
theorem dX0_look_104 : decode cX0_look 104 = .ok (.iload_n 1, 1) := by decide +kernel
theorem dX0_look_105 : decode cX0_look 105 = .ok (.baload, 1) := by decide +kernel
theorem dX0_look_106 : decode cX0_look 106 = .ok (.ifCond .eq 7, 3) := by decide +kernel
theorem dX0_look_109 : decode cX0_look 109 = .ok (.lconst 1, 1) := by decide +kernel
theorem dX0_look_110 : decode cX0_look 110 = .ok (.goto 4, 3) := by decide +kernel
theorem dX0_look_113 : decode cX0_look 113 = .ok (.lconst 0, 1) := by decide +kernel
theorem dX0_look_114 : decode cX0_look 114 = .ok (.lreturn, 1) := by decide +kernel
theorem dX0_blocks_0 : decode cX0_blocks 0 = .ok (.aload_n 0, 1) := by decide +kernel
theorem dX0_blocks_1 : decode cX0_blocks 1 = .ok (.getfield 36, 3) := by decide +kernel
theorem dX0_blocks_4 : decode cX0_blocks 4 = .ok (.ireturn, 1) := by decide +kernel
theorem dX0_exists_0 : decode cX0_exists 0 = .ok (.iload_n 1, 1) := by decide +kernel
theorem dX0_exists_1 : decode cX0_exists 1 = .ok (.ifCond .lt 15, 3) := by decide +kernel
theorem dX0_exists_4 : decode cX0_exists 4 = .ok (.iload_n 1, 1) := by decide +kernel
theorem dX0_exists_5 : decode cX0_exists 5 = .ok (.aload_n 0, 1) := by decide +kernel
theorem dX0_exists_6 : decode cX0_exists 6 = .ok (.getfield 36, 3) := by decide +kernel
theorem dX0_exists_9 : decode cX0_exists 9 = .ok (.if_icmp .ge 7, 3) := by decide +kernel
theorem dX0_exists_12 : decode cX0_exists 12 = .ok (.iconst 1, 1) := by decide +kernel
theorem dX0_exists_13 : decode cX0_exists 13 = .ok (.goto 4, 3) := by decide +kernel
theorem dX0_exists_16 : decode cX0_exists 16 = .ok (.iconst 0, 1) := by decide +kernel
theorem dX0_exists_17 : decode cX0_exists 17 = .ok (.ireturn, 1) := by decide +kernel
theorem dX0_ancestorAt_0 : decode cX0_ancestorAt 0 = .ok (.iload_n 1, 1) := by decide +kernel
theorem dX0_ancestorAt_1 : decode cX0_ancestorAt 1 = .ok (.istore_n 3, 1) := by decide +kernel
theorem dX0_ancestorAt_2 : decode cX0_ancestorAt 2 = .ok (.aload_n 0, 1) := by decide +kernel
theorem dX0_ancestorAt_3 : decode cX0_ancestorAt 3 = .ok (.getfield 13, 3) := by decide +kernel
theorem dX0_ancestorAt_6 : decode cX0_ancestorAt 6 = .ok (.iload_n 1, 1) := by decide +kernel
theorem dX0_ancestorAt_7 : decode cX0_ancestorAt 7 = .ok (.iaload, 1) := by decide +kernel
theorem dX0_ancestorAt_8 : decode cX0_ancestorAt 8 = .ok (.istore 4, 2) := by decide +kernel
theorem dX0_ancestorAt_10 : decode cX0_ancestorAt 10 = .ok (.iload 4, 2) := by decide +kernel
theorem dX0_ancestorAt_12 : decode cX0_ancestorAt 12 = .ok (.iload_n 2, 1) := by decide +kernel
theorem dX0_ancestorAt_13 : decode cX0_ancestorAt 13 = .ok (.if_icmp .le 16, 3) := by decide +kernel
theorem dX0_ancestorAt_16 : decode cX0_ancestorAt 16 = .ok (.aload_n 0, 1) := by decide +kernel
theorem dX0_ancestorAt_17 : decode cX0_ancestorAt 17 = .ok (.getfield 9, 3) := by decide +kernel
theorem dX0_ancestorAt_20 : decode cX0_ancestorAt 20 = .ok (.iload_n 3, 1) := by decide +kernel
theorem dX0_ancestorAt_21 : decode cX0_ancestorAt 21 = .ok (.iaload, 1) := by decide +kernel
theorem dX0_ancestorAt_22 : decode cX0_ancestorAt 22 = .ok (.istore_n 3, 1) := by decide +kernel
theorem dX0_ancestorAt_23 : decode cX0_ancestorAt 23 = .ok (.iinc 4 (-1), 3) := by decide +kernel
theorem dX0_ancestorAt_26 : decode cX0_ancestorAt 26 = .ok (.goto (-16), 3) := by decide +kernel
theorem dX0_ancestorAt_29 : decode cX0_ancestorAt 29 = .ok (.iload_n 3, 1) := by decide +kernel
theorem dX0_ancestorAt_30 : decode cX0_ancestorAt 30 = .ok (.ireturn, 1) := by decide +kernel
theorem dX0_medianTime_0 : decode cX0_medianTime 0 = .ok (.aload_n 0, 1) := by decide +kernel
theorem dX0_medianTime_1 : decode cX0_medianTime 1 = .ok (.getfield 13, 3) := by decide +kernel
theorem dX0_medianTime_4 : decode cX0_medianTime 4 = .ok (.iload_n 1, 1) := by decide +kernel
theorem dX0_medianTime_5 : decode cX0_medianTime 5 = .ok (.iaload, 1) := by decide +kernel
theorem dX0_medianTime_6 : decode cX0_medianTime 6 = .ok (.iconst 1, 1) := by decide +kernel
theorem dX0_medianTime_7 : decode cX0_medianTime 7 = .ok (.iadd, 1) := by decide +kernel
theorem dX0_medianTime_8 : decode cX0_medianTime 8 = .ok (.bipush 7, 2) := by decide +kernel
theorem dX0_medianTime_10 : decode cX0_medianTime 10 = .ok (.invokestatic 56, 3) := by decide +kernel
theorem dX0_medianTime_13 : decode cX0_medianTime 13 = .ok (.istore_n 2, 1) := by decide +kernel
theorem dX0_medianTime_14 : decode cX0_medianTime 14 = .ok (.iload_n 1, 1) := by decide +kernel
theorem dX0_medianTime_15 : decode cX0_medianTime 15 = .ok (.istore_n 3, 1) := by decide +kernel
theorem dX0_medianTime_16 : decode cX0_medianTime 16 = .ok (.iconst 0, 1) := by decide +kernel
theorem dX0_medianTime_17 : decode cX0_medianTime 17 = .ok (.istore 4, 2) := by decide +kernel
theorem dX0_medianTime_19 : decode cX0_medianTime 19 = .ok (.iload 4, 2) := by decide +kernel
theorem dX0_medianTime_21 : decode cX0_medianTime 21 = .ok (.iload_n 2, 1) := by decide +kernel
theorem dX0_medianTime_22 : decode cX0_medianTime 22 = .ok (.if_icmp .ge 28, 3) := by decide +kernel
theorem dX0_medianTime_25 : decode cX0_medianTime 25 = .ok (.aload_n 0, 1) := by decide +kernel
theorem dX0_medianTime_26 : decode cX0_medianTime 26 = .ok (.aload_n 0, 1) := by decide +kernel
theorem dX0_medianTime_27 : decode cX0_medianTime 27 = .ok (.getfield 16, 3) := by decide +kernel
theorem dX0_medianTime_30 : decode cX0_medianTime 30 = .ok (.iload_n 3, 1) := by decide +kernel
theorem dX0_medianTime_31 : decode cX0_medianTime 31 = .ok (.iaload, 1) := by decide +kernel
theorem dX0_medianTime_32 : decode cX0_medianTime 32 = .ok (.iload 4, 2) := by decide +kernel
theorem dX0_medianTime_34 : decode cX0_medianTime 34 = .ok (.invokevirtual 69, 3) := by decide +kernel
theorem dX0_medianTime_37 : decode cX0_medianTime 37 = .ok (.aload_n 0, 1) := by decide +kernel
theorem dX0_medianTime_38 : decode cX0_medianTime 38 = .ok (.getfield 9, 3) := by decide +kernel
theorem dX0_medianTime_41 : decode cX0_medianTime 41 = .ok (.iload_n 3, 1) := by decide +kernel
theorem dX0_medianTime_42 : decode cX0_medianTime 42 = .ok (.iaload, 1) := by decide +kernel
theorem dX0_medianTime_43 : decode cX0_medianTime 43 = .ok (.istore_n 3, 1) := by decide +kernel
theorem dX0_medianTime_44 : decode cX0_medianTime 44 = .ok (.iinc 4 1, 3) := by decide +kernel
theorem dX0_medianTime_47 : decode cX0_medianTime 47 = .ok (.goto (-28), 3) := by decide +kernel
theorem dX0_medianTime_50 : decode cX0_medianTime 50 = .ok (.aload_n 0, 1) := by decide +kernel
theorem dX0_medianTime_51 : decode cX0_medianTime 51 = .ok (.getfield 32, 3) := by decide +kernel
theorem dX0_medianTime_54 : decode cX0_medianTime 54 = .ok (.iload_n 2, 1) := by decide +kernel
theorem dX0_medianTime_55 : decode cX0_medianTime 55 = .ok (.iconst 2, 1) := by decide +kernel
theorem dX0_medianTime_56 : decode cX0_medianTime 56 = .ok (.idiv, 1) := by decide +kernel
theorem dX0_medianTime_57 : decode cX0_medianTime 57 = .ok (.iaload, 1) := by decide +kernel
theorem dX0_medianTime_58 : decode cX0_medianTime 58 = .ok (.ireturn, 1) := by decide +kernel
theorem dX0_insertTime_0 : decode cX0_insertTime 0 = .ok (.iload_n 2, 1) := by decide +kernel
theorem dX0_insertTime_1 : decode cX0_insertTime 1 = .ok (.istore_n 3, 1) := by decide +kernel
theorem dX0_insertTime_2 : decode cX0_insertTime 2 = .ok (.iload_n 3, 1) := by decide +kernel
theorem dX0_insertTime_3 : decode cX0_insertTime 3 = .ok (.ifCond .le 35, 3) := by decide +kernel
theorem dX0_insertTime_6 : decode cX0_insertTime 6 = .ok (.aload_n 0, 1) := by decide +kernel
theorem dX0_insertTime_7 : decode cX0_insertTime 7 = .ok (.getfield 32, 3) := by decide +kernel
theorem dX0_insertTime_10 : decode cX0_insertTime 10 = .ok (.iload_n 3, 1) := by decide +kernel
theorem dX0_insertTime_11 : decode cX0_insertTime 11 = .ok (.iconst 1, 1) := by decide +kernel
theorem dX0_insertTime_12 : decode cX0_insertTime 12 = .ok (.isub, 1) := by decide +kernel
theorem dX0_insertTime_13 : decode cX0_insertTime 13 = .ok (.iaload, 1) := by decide +kernel
theorem dX0_insertTime_14 : decode cX0_insertTime 14 = .ok (.iload_n 1, 1) := by decide +kernel
theorem dX0_insertTime_15 : decode cX0_insertTime 15 = .ok (.if_icmp .le 23, 3) := by decide +kernel
theorem dX0_insertTime_18 : decode cX0_insertTime 18 = .ok (.aload_n 0, 1) := by decide +kernel
theorem dX0_insertTime_19 : decode cX0_insertTime 19 = .ok (.getfield 32, 3) := by decide +kernel
theorem dX0_insertTime_22 : decode cX0_insertTime 22 = .ok (.iload_n 3, 1) := by decide +kernel
theorem dX0_insertTime_23 : decode cX0_insertTime 23 = .ok (.aload_n 0, 1) := by decide +kernel
theorem dX0_insertTime_24 : decode cX0_insertTime 24 = .ok (.getfield 32, 3) := by decide +kernel
theorem dX0_insertTime_27 : decode cX0_insertTime 27 = .ok (.iload_n 3, 1) := by decide +kernel
theorem dX0_insertTime_28 : decode cX0_insertTime 28 = .ok (.iconst 1, 1) := by decide +kernel
theorem dX0_insertTime_29 : decode cX0_insertTime 29 = .ok (.isub, 1) := by decide +kernel
theorem dX0_insertTime_30 : decode cX0_insertTime 30 = .ok (.iaload, 1) := by decide +kernel
theorem dX0_insertTime_31 : decode cX0_insertTime 31 = .ok (.iastore, 1) := by decide +kernel
theorem dX0_insertTime_32 : decode cX0_insertTime 32 = .ok (.iinc 3 (-1), 3) := by decide +kernel
theorem dX0_insertTime_35 : decode cX0_insertTime 35 = .ok (.goto (-33), 3) := by decide +kernel
theorem dX0_insertTime_38 : decode cX0_insertTime 38 = .ok (.aload_n 0, 1) := by decide +kernel
theorem dX0_insertTime_39 : decode cX0_insertTime 39 = .ok (.getfield 32, 3) := by decide +kernel
theorem dX0_insertTime_42 : decode cX0_insertTime 42 = .ok (.iload_n 3, 1) := by decide +kernel
theorem dX0_insertTime_43 : decode cX0_insertTime 43 = .ok (.iload_n 1, 1) := by decide +kernel
theorem dX0_insertTime_44 : decode cX0_insertTime 44 = .ok (.iastore, 1) := by decide +kernel
theorem dX0_insertTime_45 : decode cX0_insertTime 45 = .ok (.return_, 1) := by decide +kernel
theorem dX0_targetBehind_0 : decode cX0_targetBehind 0 = .ok (.aload_n 0, 1) := by decide +kernel
theorem dX0_targetBehind_1 : decode cX0_targetBehind 1 = .ok (.getfield 13, 3) := by decide +kernel
theorem dX0_targetBehind_4 : decode cX0_targetBehind 4 = .ok (.iload_n 1, 1) := by decide +kernel
theorem dX0_targetBehind_5 : decode cX0_targetBehind 5 = .ok (.iaload, 1) := by decide +kernel
theorem dX0_targetBehind_6 : decode cX0_targetBehind 6 = .ok (.iconst 1, 1) := by decide +kernel
theorem dX0_targetBehind_7 : decode cX0_targetBehind 7 = .ok (.iadd, 1) := by decide +kernel
theorem dX0_targetBehind_8 : decode cX0_targetBehind 8 = .ok (.istore_n 2, 1) := by decide +kernel
theorem dX0_targetBehind_9 : decode cX0_targetBehind 9 = .ok (.iload_n 2, 1) := by decide +kernel
theorem dX0_targetBehind_10 : decode cX0_targetBehind 10 = .ok (.bipush 8, 2) := by decide +kernel
theorem dX0_targetBehind_12 : decode cX0_targetBehind 12 = .ok (.irem, 1) := by decide +kernel
theorem dX0_targetBehind_13 : decode cX0_targetBehind 13 = .ok (.ifCond .eq 10, 3) := by decide +kernel
theorem dX0_targetBehind_16 : decode cX0_targetBehind 16 = .ok (.aload_n 0, 1) := by decide +kernel
theorem dX0_targetBehind_17 : decode cX0_targetBehind 17 = .ok (.getfield 22, 3) := by decide +kernel
theorem dX0_targetBehind_20 : decode cX0_targetBehind 20 = .ok (.iload_n 1, 1) := by decide +kernel
theorem dX0_targetBehind_21 : decode cX0_targetBehind 21 = .ok (.iaload, 1) := by decide +kernel
theorem dX0_targetBehind_22 : decode cX0_targetBehind 22 = .ok (.ireturn, 1) := by decide +kernel
theorem dX0_targetBehind_23 : decode cX0_targetBehind 23 = .ok (.aload_n 0, 1) := by decide +kernel
theorem dX0_targetBehind_24 : decode cX0_targetBehind 24 = .ok (.iload_n 1, 1) := by decide +kernel
theorem dX0_targetBehind_25 : decode cX0_targetBehind 25 = .ok (.iload_n 2, 1) := by decide +kernel
theorem dX0_targetBehind_26 : decode cX0_targetBehind 26 = .ok (.bipush 8, 2) := by decide +kernel
theorem dX0_targetBehind_28 : decode cX0_targetBehind 28 = .ok (.isub, 1) := by decide +kernel
theorem dX0_targetBehind_29 : decode cX0_targetBehind 29 = .ok (.invokevirtual 62, 3) := by decide +kernel
theorem dX0_targetBehind_32 : decode cX0_targetBehind 32 = .ok (.istore_n 3, 1) := by decide +kernel
theorem dX0_targetBehind_33 : decode cX0_targetBehind 33 = .ok (.aload_n 0, 1) := by decide +kernel
theorem dX0_targetBehind_34 : decode cX0_targetBehind 34 = .ok (.getfield 16, 3) := by decide +kernel
theorem dX0_targetBehind_37 : decode cX0_targetBehind 37 = .ok (.iload_n 1, 1) := by decide +kernel
theorem dX0_targetBehind_38 : decode cX0_targetBehind 38 = .ok (.iaload, 1) := by decide +kernel
theorem dX0_targetBehind_39 : decode cX0_targetBehind 39 = .ok (.aload_n 0, 1) := by decide +kernel
theorem dX0_targetBehind_40 : decode cX0_targetBehind 40 = .ok (.getfield 16, 3) := by decide +kernel
theorem dX0_targetBehind_43 : decode cX0_targetBehind 43 = .ok (.iload_n 3, 1) := by decide +kernel
theorem dX0_targetBehind_44 : decode cX0_targetBehind 44 = .ok (.iaload, 1) := by decide +kernel
theorem dX0_targetBehind_45 : decode cX0_targetBehind 45 = .ok (.isub, 1) := by decide +kernel
theorem dX0_targetBehind_46 : decode cX0_targetBehind 46 = .ok (.bipush 20, 2) := by decide +kernel
theorem dX0_targetBehind_48 : decode cX0_targetBehind 48 = .ok (.sipush 320, 3) := by decide +kernel
theorem dX0_targetBehind_51 : decode cX0_targetBehind 51 = .ok (.invokestatic 73, 3) := by decide +kernel
theorem dX0_targetBehind_54 : decode cX0_targetBehind 54 = .ok (.istore 4, 2) := by decide +kernel
theorem dX0_targetBehind_56 : decode cX0_targetBehind 56 = .ok (.aload_n 0, 1) := by decide +kernel
theorem dX0_targetBehind_57 : decode cX0_targetBehind 57 = .ok (.getfield 22, 3) := by decide +kernel
theorem dX0_targetBehind_60 : decode cX0_targetBehind 60 = .ok (.iload_n 1, 1) := by decide +kernel
theorem dX0_targetBehind_61 : decode cX0_targetBehind 61 = .ok (.iaload, 1) := by decide +kernel
theorem dX0_targetBehind_62 : decode cX0_targetBehind 62 = .ok (.iload 4, 2) := by decide +kernel
theorem dX0_targetBehind_64 : decode cX0_targetBehind 64 = .ok (.imul, 1) := by decide +kernel
theorem dX0_targetBehind_65 : decode cX0_targetBehind 65 = .ok (.bipush 80, 2) := by decide +kernel
theorem dX0_targetBehind_67 : decode cX0_targetBehind 67 = .ok (.idiv, 1) := by decide +kernel
theorem dX0_targetBehind_68 : decode cX0_targetBehind 68 = .ok (.sipush 2048, 3) := by decide +kernel
theorem dX0_targetBehind_71 : decode cX0_targetBehind 71 = .ok (.ldc 77, 2) := by decide +kernel
theorem dX0_targetBehind_73 : decode cX0_targetBehind 73 = .ok (.invokestatic 73, 3) := by decide +kernel
theorem dX0_targetBehind_76 : decode cX0_targetBehind 76 = .ok (.ireturn, 1) := by decide +kernel
theorem dX0_within_0 : decode cX0_within 0 = .ok (.iload_n 1, 1) := by decide +kernel
theorem dX0_within_1 : decode cX0_within 1 = .ok (.iload_n 2, 1) := by decide +kernel
theorem dX0_within_2 : decode cX0_within 2 = .ok (.iload_n 0, 1) := by decide +kernel
theorem dX0_within_3 : decode cX0_within 3 = .ok (.invokestatic 56, 3) := by decide +kernel
theorem dX0_within_6 : decode cX0_within 6 = .ok (.invokestatic 78, 3) := by decide +kernel
theorem dX0_within_9 : decode cX0_within 9 = .ok (.ireturn, 1) := by decide +kernel
theorem dX0_bestBlock_0 : decode cX0_bestBlock 0 = .ok (.iconst 0, 1) := by decide +kernel
theorem dX0_bestBlock_1 : decode cX0_bestBlock 1 = .ok (.istore_n 1, 1) := by decide +kernel
theorem dX0_bestBlock_2 : decode cX0_bestBlock 2 = .ok (.iconst 1, 1) := by decide +kernel
theorem dX0_bestBlock_3 : decode cX0_bestBlock 3 = .ok (.istore_n 2, 1) := by decide +kernel
theorem dX0_bestBlock_4 : decode cX0_bestBlock 4 = .ok (.iload_n 2, 1) := by decide +kernel
theorem dX0_bestBlock_5 : decode cX0_bestBlock 5 = .ok (.aload_n 0, 1) := by decide +kernel
theorem dX0_bestBlock_6 : decode cX0_bestBlock 6 = .ok (.getfield 36, 3) := by decide +kernel
theorem dX0_bestBlock_9 : decode cX0_bestBlock 9 = .ok (.if_icmp .ge 29, 3) := by decide +kernel
theorem dX0_bestBlock_12 : decode cX0_bestBlock 12 = .ok (.aload_n 0, 1) := by decide +kernel
theorem dX0_bestBlock_13 : decode cX0_bestBlock 13 = .ok (.getfield 28, 3) := by decide +kernel
theorem dX0_bestBlock_16 : decode cX0_bestBlock 16 = .ok (.iload_n 2, 1) := by decide +kernel
theorem dX0_bestBlock_17 : decode cX0_bestBlock 17 = .ok (.baload, 1) := by decide +kernel
theorem dX0_bestBlock_18 : decode cX0_bestBlock 18 = .ok (.ifCond .ne 14, 3) := by decide +kernel
theorem dX0_bestBlock_21 : decode cX0_bestBlock 21 = .ok (.aload_n 0, 1) := by decide +kernel
theorem dX0_bestBlock_22 : decode cX0_bestBlock 22 = .ok (.iload_n 2, 1) := by decide +kernel
theorem dX0_bestBlock_23 : decode cX0_bestBlock 23 = .ok (.iload_n 1, 1) := by decide +kernel
theorem dX0_bestBlock_24 : decode cX0_bestBlock 24 = .ok (.invokevirtual 81, 3) := by decide +kernel
theorem dX0_bestBlock_27 : decode cX0_bestBlock 27 = .ok (.ifCond .eq 5, 3) := by decide +kernel
theorem dX0_bestBlock_30 : decode cX0_bestBlock 30 = .ok (.iload_n 2, 1) := by decide +kernel
theorem dX0_bestBlock_31 : decode cX0_bestBlock 31 = .ok (.istore_n 1, 1) := by decide +kernel
theorem dX0_bestBlock_32 : decode cX0_bestBlock 32 = .ok (.iinc 2 1, 3) := by decide +kernel
theorem dX0_bestBlock_35 : decode cX0_bestBlock 35 = .ok (.goto (-31), 3) := by decide +kernel
theorem dX0_bestBlock_38 : decode cX0_bestBlock 38 = .ok (.iload_n 1, 1) := by decide +kernel
theorem dX0_bestBlock_39 : decode cX0_bestBlock 39 = .ok (.ireturn, 1) := by decide +kernel
theorem dX0_isBetter_0 : decode cX0_isBetter 0 = .ok (.aload_n 0, 1) := by decide +kernel
theorem dX0_isBetter_1 : decode cX0_isBetter 1 = .ok (.getfield 25, 3) := by decide +kernel
theorem dX0_isBetter_4 : decode cX0_isBetter 4 = .ok (.iload_n 1, 1) := by decide +kernel
theorem dX0_isBetter_5 : decode cX0_isBetter 5 = .ok (.iaload, 1) := by decide +kernel
theorem dX0_isBetter_6 : decode cX0_isBetter 6 = .ok (.aload_n 0, 1) := by decide +kernel
theorem dX0_isBetter_7 : decode cX0_isBetter 7 = .ok (.getfield 25, 3) := by decide +kernel
theorem dX0_isBetter_10 : decode cX0_isBetter 10 = .ok (.iload_n 2, 1) := by decide +kernel
theorem dX0_isBetter_11 : decode cX0_isBetter 11 = .ok (.iaload, 1) := by decide +kernel
theorem dX0_isBetter_12 : decode cX0_isBetter 12 = .ok (.if_icmp .eq 24, 3) := by decide +kernel
theorem dX0_isBetter_15 : decode cX0_isBetter 15 = .ok (.aload_n 0, 1) := by decide +kernel
theorem dX0_isBetter_16 : decode cX0_isBetter 16 = .ok (.getfield 25, 3) := by decide +kernel
theorem dX0_isBetter_19 : decode cX0_isBetter 19 = .ok (.iload_n 1, 1) := by decide +kernel
theorem dX0_isBetter_20 : decode cX0_isBetter 20 = .ok (.iaload, 1) := by decide +kernel
theorem dX0_isBetter_21 : decode cX0_isBetter 21 = .ok (.aload_n 0, 1) := by decide +kernel
theorem dX0_isBetter_22 : decode cX0_isBetter 22 = .ok (.getfield 25, 3) := by decide +kernel
theorem dX0_isBetter_25 : decode cX0_isBetter 25 = .ok (.iload_n 2, 1) := by decide +kernel
theorem dX0_isBetter_26 : decode cX0_isBetter 26 = .ok (.iaload, 1) := by decide +kernel
theorem dX0_isBetter_27 : decode cX0_isBetter 27 = .ok (.if_icmp .le 7, 3) := by decide +kernel
theorem dX0_isBetter_30 : decode cX0_isBetter 30 = .ok (.iconst 1, 1) := by decide +kernel
theorem dX0_isBetter_31 : decode cX0_isBetter 31 = .ok (.goto 4, 3) := by decide +kernel
theorem dX0_isBetter_34 : decode cX0_isBetter 34 = .ok (.iconst 0, 1) := by decide +kernel
theorem dX0_isBetter_35 : decode cX0_isBetter 35 = .ok (.ireturn, 1) := by decide +kernel
theorem dX0_isBetter_36 : decode cX0_isBetter 36 = .ok (.aload_n 0, 1) := by decide +kernel
theorem dX0_isBetter_37 : decode cX0_isBetter 37 = .ok (.getfield 19, 3) := by decide +kernel
theorem dX0_isBetter_40 : decode cX0_isBetter 40 = .ok (.iload_n 1, 1) := by decide +kernel
theorem dX0_isBetter_41 : decode cX0_isBetter 41 = .ok (.iaload, 1) := by decide +kernel
theorem dX0_isBetter_42 : decode cX0_isBetter 42 = .ok (.aload_n 0, 1) := by decide +kernel
theorem dX0_isBetter_43 : decode cX0_isBetter 43 = .ok (.getfield 19, 3) := by decide +kernel
theorem dX0_isBetter_46 : decode cX0_isBetter 46 = .ok (.iload_n 2, 1) := by decide +kernel
theorem dX0_isBetter_47 : decode cX0_isBetter 47 = .ok (.iaload, 1) := by decide +kernel
theorem dX0_isBetter_48 : decode cX0_isBetter 48 = .ok (.if_icmp .ge 7, 3) := by decide +kernel
theorem dX0_isBetter_51 : decode cX0_isBetter 51 = .ok (.iconst 1, 1) := by decide +kernel
theorem dX0_isBetter_52 : decode cX0_isBetter 52 = .ok (.goto 4, 3) := by decide +kernel
theorem dX0_isBetter_55 : decode cX0_isBetter 55 = .ok (.iconst 0, 1) := by decide +kernel
theorem dX0_isBetter_56 : decode cX0_isBetter 56 = .ok (.ireturn, 1) := by decide +kernel
theorem dJ9_max_7cf53_0 : decode cJ9_max_7cf53 0 = .ok (.iload_n 0, 1) := by decide +kernel
theorem dJ9_max_7cf53_1 : decode cJ9_max_7cf53 1 = .ok (.iload_n 1, 1) := by decide +kernel
theorem dJ9_max_7cf53_2 : decode cJ9_max_7cf53 2 = .ok (.if_icmp .lt 7, 3) := by decide +kernel
theorem dJ9_max_7cf53_5 : decode cJ9_max_7cf53 5 = .ok (.iload_n 0, 1) := by decide +kernel
theorem dJ9_max_7cf53_6 : decode cJ9_max_7cf53 6 = .ok (.goto 4, 3) := by decide +kernel
theorem dJ9_max_7cf53_9 : decode cJ9_max_7cf53 9 = .ok (.iload_n 1, 1) := by decide +kernel
theorem dJ9_max_7cf53_10 : decode cJ9_max_7cf53 10 = .ok (.ireturn, 1) := by decide +kernel
theorem dJ9_min_7cf53_0 : decode cJ9_min_7cf53 0 = .ok (.iload_n 0, 1) := by decide +kernel
theorem dJ9_min_7cf53_1 : decode cJ9_min_7cf53 1 = .ok (.iload_n 1, 1) := by decide +kernel
theorem dJ9_min_7cf53_2 : decode cJ9_min_7cf53 2 = .ok (.if_icmp .gt 7, 3) := by decide +kernel
theorem dJ9_min_7cf53_5 : decode cJ9_min_7cf53 5 = .ok (.iload_n 0, 1) := by decide +kernel
theorem dJ9_min_7cf53_6 : decode cJ9_min_7cf53 6 = .ok (.goto 4, 3) := by decide +kernel
theorem dJ9_min_7cf53_9 : decode cJ9_min_7cf53 9 = .ok (.iload_n 1, 1) := by decide +kernel
theorem dJ9_min_7cf53_10 : decode cJ9_min_7cf53 10 = .ok (.ireturn, 1) := by decide +kernel
end
section
theorem dX1_init_0 : decode cX1_init 0 = .ok (.aload_n 0, 1) := by decide +kernel
theorem dX1_init_1 : decode cX1_init 1 = .ok (.invokespecial 1, 3) := by decide +kernel
theorem dX1_init_4 : decode cX1_init 4 = .ok (.aload_n 0, 1) := by decide +kernel
theorem dX1_init_5 : decode cX1_init 5 = .ok (.sipush 512, 3) := by decide +kernel
theorem dX1_init_8 : decode cX1_init 8 = .ok (.newarray .int, 2) := by decide +kernel
theorem dX1_init_10 : decode cX1_init 10 = .ok (.putfield 9, 3) := by decide +kernel
theorem dX1_init_13 : decode cX1_init 13 = .ok (.aload_n 0, 1) := by decide +kernel
theorem dX1_init_14 : decode cX1_init 14 = .ok (.sipush 512, 3) := by decide +kernel
theorem dX1_init_17 : decode cX1_init 17 = .ok (.newarray .int, 2) := by decide +kernel
theorem dX1_init_19 : decode cX1_init 19 = .ok (.putfield 13, 3) := by decide +kernel
theorem dX1_init_22 : decode cX1_init 22 = .ok (.aload_n 0, 1) := by decide +kernel
theorem dX1_init_23 : decode cX1_init 23 = .ok (.sipush 512, 3) := by decide +kernel
theorem dX1_init_26 : decode cX1_init 26 = .ok (.newarray .int, 2) := by decide +kernel
theorem dX1_init_28 : decode cX1_init 28 = .ok (.putfield 16, 3) := by decide +kernel
theorem dX1_init_31 : decode cX1_init 31 = .ok (.aload_n 0, 1) := by decide +kernel
theorem dX1_init_32 : decode cX1_init 32 = .ok (.sipush 512, 3) := by decide +kernel
theorem dX1_init_35 : decode cX1_init 35 = .ok (.newarray .int, 2) := by decide +kernel
theorem dX1_init_37 : decode cX1_init 37 = .ok (.putfield 19, 3) := by decide +kernel
theorem dX1_init_40 : decode cX1_init 40 = .ok (.aload_n 0, 1) := by decide +kernel
theorem dX1_init_41 : decode cX1_init 41 = .ok (.sipush 512, 3) := by decide +kernel
theorem dX1_init_44 : decode cX1_init 44 = .ok (.newarray .long, 2) := by decide +kernel
theorem dX1_init_46 : decode cX1_init 46 = .ok (.putfield 22, 3) := by decide +kernel
theorem dX1_init_49 : decode cX1_init 49 = .ok (.aload_n 0, 1) := by decide +kernel
theorem dX1_init_50 : decode cX1_init 50 = .ok (.sipush 512, 3) := by decide +kernel
theorem dX1_init_53 : decode cX1_init 53 = .ok (.newarray .int, 2) := by decide +kernel
theorem dX1_init_55 : decode cX1_init 55 = .ok (.putfield 26, 3) := by decide +kernel
theorem dX1_init_58 : decode cX1_init 58 = .ok (.aload_n 0, 1) := by decide +kernel
theorem dX1_init_59 : decode cX1_init 59 = .ok (.sipush 512, 3) := by decide +kernel
theorem dX1_init_62 : decode cX1_init 62 = .ok (.newarray .boolean, 2) := by decide +kernel
theorem dX1_init_64 : decode cX1_init 64 = .ok (.putfield 29, 3) := by decide +kernel
theorem dX1_init_67 : decode cX1_init 67 = .ok (.aload_n 0, 1) := by decide +kernel
theorem dX1_init_68 : decode cX1_init 68 = .ok (.bipush 7, 2) := by decide +kernel
theorem dX1_init_70 : decode cX1_init 70 = .ok (.newarray .int, 2) := by decide +kernel
theorem dX1_init_72 : decode cX1_init 72 = .ok (.putfield 33, 3) := by decide +kernel
theorem dX1_init_75 : decode cX1_init 75 = .ok (.aload_n 0, 1) := by decide +kernel
theorem dX1_init_76 : decode cX1_init 76 = .ok (.iconst 1, 1) := by decide +kernel
theorem dX1_init_77 : decode cX1_init 77 = .ok (.putfield 36, 3) := by decide +kernel
theorem dX1_init_80 : decode cX1_init 80 = .ok (.aload_n 0, 1) := by decide +kernel
theorem dX1_init_81 : decode cX1_init 81 = .ok (.getfield 9, 3) := by decide +kernel
theorem dX1_init_84 : decode cX1_init 84 = .ok (.iconst 0, 1) := by decide +kernel
theorem dX1_init_85 : decode cX1_init 85 = .ok (.bipush (-2), 2) := by decide +kernel
theorem dX1_init_87 : decode cX1_init 87 = .ok (.iastore, 1) := by decide +kernel
theorem dX1_init_88 : decode cX1_init 88 = .ok (.aload_n 0, 1) := by decide +kernel
theorem dX1_init_89 : decode cX1_init 89 = .ok (.getfield 19, 3) := by decide +kernel
theorem dX1_init_92 : decode cX1_init 92 = .ok (.iconst 0, 1) := by decide +kernel
theorem dX1_init_93 : decode cX1_init 93 = .ok (.ldc 40, 2) := by decide +kernel
theorem dX1_init_95 : decode cX1_init 95 = .ok (.iastore, 1) := by decide +kernel
theorem dX1_init_96 : decode cX1_init 96 = .ok (.return_, 1) := by decide +kernel
theorem dX1_is_0 : decode cX1_is 0 = .ok (.iload_n 1, 1) := by decide +kernel
theorem dX1_is_1 : decode cX1_is 1 = .ok (.ifCond .lt 15, 3) := by decide +kernel
theorem dX1_is_4 : decode cX1_is 4 = .ok (.iload_n 1, 1) := by decide +kernel
theorem dX1_is_5 : decode cX1_is 5 = .ok (.aload_n 0, 1) := by decide +kernel
theorem dX1_is_6 : decode cX1_is 6 = .ok (.getfield 36, 3) := by decide +kernel
theorem dX1_is_9 : decode cX1_is 9 = .ok (.if_icmp .ge 7, 3) := by decide +kernel
theorem dX1_is_12 : decode cX1_is 12 = .ok (.iconst 1, 1) := by decide +kernel
theorem dX1_is_13 : decode cX1_is 13 = .ok (.goto 4, 3) := by decide +kernel
theorem dX1_is_16 : decode cX1_is 16 = .ok (.iconst 0, 1) := by decide +kernel
theorem dX1_is_17 : decode cX1_is 17 = .ok (.ireturn, 1) := by decide +kernel
theorem dX1_add_0 : decode cX1_add 0 = .ok (.aload_n 0, 1) := by decide +kernel
theorem dX1_add_1 : decode cX1_add 1 = .ok (.iload_n 1, 1) := by decide +kernel
theorem dX1_add_2 : decode cX1_add 2 = .ok (.invokevirtual 41, 3) := by decide +kernel
theorem dX1_add_5 : decode cX1_add 5 = .ok (.ifCond .eq 16, 3) := by decide +kernel
theorem dX1_add_8 : decode cX1_add 8 = .ok (.iload_n 2, 1) := by decide +kernel
theorem dX1_add_9 : decode cX1_add 9 = .ok (.aload_n 0, 1) := by decide +kernel
theorem dX1_add_10 : decode cX1_add 10 = .ok (.iload_n 1, 1) := by decide +kernel
theorem dX1_add_11 : decode cX1_add 11 = .ok (.invokevirtual 45, 3) := by decide +kernel
theorem dX1_add_14 : decode cX1_add 14 = .ok (.if_icmp .le 7, 3) := by decide +kernel
theorem dX1_add_17 : decode cX1_add 17 = .ok (.iload_n 3, 1) := by decide +kernel
theorem dX1_add_18 : decode cX1_add 18 = .ok (.ifCond .ge 5, 3) := by decide +kernel
theorem dX1_add_21 : decode cX1_add 21 = .ok (.iconst (-1), 1) := by decide +kernel
theorem dX1_add_22 : decode cX1_add 22 = .ok (.ireturn, 1) := by decide +kernel
theorem dX1_add_23 : decode cX1_add 23 = .ok (.aload_n 0, 1) := by decide +kernel
theorem dX1_add_24 : decode cX1_add 24 = .ok (.getfield 36, 3) := by decide +kernel
theorem dX1_add_27 : decode cX1_add 27 = .ok (.sipush 512, 3) := by decide +kernel
theorem dX1_add_30 : decode cX1_add 30 = .ok (.if_icmp .ne 6, 3) := by decide +kernel
theorem dX1_add_33 : decode cX1_add 33 = .ok (.bipush (-3), 2) := by decide +kernel
theorem dX1_add_35 : decode cX1_add 35 = .ok (.ireturn, 1) := by decide +kernel
theorem dX1_add_36 : decode cX1_add 36 = .ok (.aload_n 0, 1) := by decide +kernel
theorem dX1_add_37 : decode cX1_add 37 = .ok (.getfield 36, 3) := by decide +kernel
theorem dX1_add_40 : decode cX1_add 40 = .ok (.istore 4, 2) := by decide +kernel
theorem dX1_add_42 : decode cX1_add 42 = .ok (.aload_n 0, 1) := by decide +kernel
theorem dX1_add_43 : decode cX1_add 43 = .ok (.getfield 9, 3) := by decide +kernel
theorem dX1_add_46 : decode cX1_add 46 = .ok (.iload 4, 2) := by decide +kernel
theorem dX1_add_48 : decode cX1_add 48 = .ok (.iload_n 1, 1) := by decide +kernel
theorem dX1_add_49 : decode cX1_add 49 = .ok (.iastore, 1) := by decide +kernel
theorem dX1_add_50 : decode cX1_add 50 = .ok (.aload_n 0, 1) := by decide +kernel
theorem dX1_add_51 : decode cX1_add 51 = .ok (.getfield 16, 3) := by decide +kernel
theorem dX1_add_54 : decode cX1_add 54 = .ok (.iload 4, 2) := by decide +kernel
theorem dX1_add_56 : decode cX1_add 56 = .ok (.iload_n 2, 1) := by decide +kernel
theorem dX1_add_57 : decode cX1_add 57 = .ok (.iastore, 1) := by decide +kernel
theorem dX1_add_58 : decode cX1_add 58 = .ok (.aload_n 0, 1) := by decide +kernel
theorem dX1_add_59 : decode cX1_add 59 = .ok (.getfield 26, 3) := by decide +kernel
theorem dX1_add_62 : decode cX1_add 62 = .ok (.iload 4, 2) := by decide +kernel
theorem dX1_add_64 : decode cX1_add 64 = .ok (.iload_n 3, 1) := by decide +kernel
theorem dX1_add_65 : decode cX1_add 65 = .ok (.iastore, 1) := by decide +kernel
theorem dX1_add_66 : decode cX1_add 66 = .ok (.aload_n 0, 1) := by decide +kernel
theorem dX1_add_67 : decode cX1_add 67 = .ok (.getfield 13, 3) := by decide +kernel
theorem dX1_add_70 : decode cX1_add 70 = .ok (.iload 4, 2) := by decide +kernel
theorem dX1_add_72 : decode cX1_add 72 = .ok (.aload_n 0, 1) := by decide +kernel
theorem dX1_add_73 : decode cX1_add 73 = .ok (.getfield 13, 3) := by decide +kernel
theorem dX1_add_76 : decode cX1_add 76 = .ok (.iload_n 1, 1) := by decide +kernel
theorem dX1_add_77 : decode cX1_add 77 = .ok (.iaload, 1) := by decide +kernel
theorem dX1_add_78 : decode cX1_add 78 = .ok (.iconst 1, 1) := by decide +kernel
theorem dX1_add_79 : decode cX1_add 79 = .ok (.iadd, 1) := by decide +kernel
theorem dX1_add_80 : decode cX1_add 80 = .ok (.iastore, 1) := by decide +kernel
theorem dX1_add_81 : decode cX1_add 81 = .ok (.aload_n 0, 1) := by decide +kernel
theorem dX1_add_82 : decode cX1_add 82 = .ok (.getfield 19, 3) := by decide +kernel
theorem dX1_add_85 : decode cX1_add 85 = .ok (.iload 4, 2) := by decide +kernel
theorem dX1_add_87 : decode cX1_add 87 = .ok (.aload_n 0, 1) := by decide +kernel
theorem dX1_add_88 : decode cX1_add 88 = .ok (.iload_n 1, 1) := by decide +kernel
theorem dX1_add_89 : decode cX1_add 89 = .ok (.invokevirtual 49, 3) := by decide +kernel
theorem dX1_add_92 : decode cX1_add 92 = .ok (.iastore, 1) := by decide +kernel
theorem dX1_add_93 : decode cX1_add 93 = .ok (.aload_n 0, 1) := by decide +kernel
theorem dX1_add_94 : decode cX1_add 94 = .ok (.getfield 22, 3) := by decide +kernel
theorem dX1_add_97 : decode cX1_add 97 = .ok (.iload 4, 2) := by decide +kernel
theorem dX1_add_99 : decode cX1_add 99 = .ok (.aload_n 0, 1) := by decide +kernel
theorem dX1_add_100 : decode cX1_add 100 = .ok (.getfield 22, 3) := by decide +kernel
theorem dX1_add_103 : decode cX1_add 103 = .ok (.iload_n 1, 1) := by decide +kernel
theorem dX1_add_104 : decode cX1_add 104 = .ok (.laload, 1) := by decide +kernel
theorem dX1_add_105 : decode cX1_add 105 = .ok (.ldc 52, 2) := by decide +kernel
theorem dX1_add_107 : decode cX1_add 107 = .ok (.aload_n 0, 1) := by decide +kernel
theorem dX1_add_108 : decode cX1_add 108 = .ok (.getfield 19, 3) := by decide +kernel
theorem dX1_add_111 : decode cX1_add 111 = .ok (.iload 4, 2) := by decide +kernel
theorem dX1_add_113 : decode cX1_add 113 = .ok (.iaload, 1) := by decide +kernel
theorem dX1_add_114 : decode cX1_add 114 = .ok (.idiv, 1) := by decide +kernel
theorem dX1_add_115 : decode cX1_add 115 = .ok (.i2l, 1) := by decide +kernel
theorem dX1_add_116 : decode cX1_add 116 = .ok (.ladd, 1) := by decide +kernel
theorem dX1_add_117 : decode cX1_add 117 = .ok (.lastore, 1) := by decide +kernel
theorem dX1_add_118 : decode cX1_add 118 = .ok (.aload_n 0, 1) := by decide +kernel
theorem dX1_add_119 : decode cX1_add 119 = .ok (.dup, 1) := by decide +kernel
theorem dX1_add_120 : decode cX1_add 120 = .ok (.getfield 36, 3) := by decide +kernel
theorem dX1_add_123 : decode cX1_add 123 = .ok (.iconst 1, 1) := by decide +kernel
theorem dX1_add_124 : decode cX1_add 124 = .ok (.iadd, 1) := by decide +kernel
theorem dX1_add_125 : decode cX1_add 125 = .ok (.putfield 36, 3) := by decide +kernel
theorem dX1_add_128 : decode cX1_add 128 = .ok (.iload 4, 2) := by decide +kernel
theorem dX1_add_130 : decode cX1_add 130 = .ok (.ireturn, 1) := by decide +kernel
theorem dX1_wrong_0 : decode cX1_wrong 0 = .ok (.iconst 0, 1) := by decide +kernel
theorem dX1_wrong_1 : decode cX1_wrong 1 = .ok (.istore_n 2, 1) := by decide +kernel
theorem dX1_wrong_2 : decode cX1_wrong 2 = .ok (.iload_n 1, 1) := by decide +kernel
theorem dX1_wrong_3 : decode cX1_wrong 3 = .ok (.istore_n 3, 1) := by decide +kernel
theorem dX1_wrong_4 : decode cX1_wrong 4 = .ok (.iload_n 3, 1) := by decide +kernel
theorem dX1_wrong_5 : decode cX1_wrong 5 = .ok (.ifCond .le 32, 3) := by decide +kernel
theorem dX1_wrong_8 : decode cX1_wrong 8 = .ok (.iload_n 2, 1) := by decide +kernel
theorem dX1_wrong_9 : decode cX1_wrong 9 = .ok (.ifCond .ne 12, 3) := by decide +kernel
theorem dX1_wrong_12 : decode cX1_wrong 12 = .ok (.aload_n 0, 1) := by decide +kernel
theorem dX1_wrong_13 : decode cX1_wrong 13 = .ok (.getfield 29, 3) := by decide +kernel
theorem dX1_wrong_16 : decode cX1_wrong 16 = .ok (.iload_n 3, 1) := by decide +kernel
theorem dX1_wrong_17 : decode cX1_wrong 17 = .ok (.baload, 1) := by decide +kernel
theorem dX1_wrong_18 : decode cX1_wrong 18 = .ok (.ifCond .eq 7, 3) := by decide +kernel
theorem dX1_wrong_21 : decode cX1_wrong 21 = .ok (.iconst 1, 1) := by decide +kernel
theorem dX1_wrong_22 : decode cX1_wrong 22 = .ok (.goto 4, 3) := by decide +kernel
theorem dX1_wrong_25 : decode cX1_wrong 25 = .ok (.iconst 0, 1) := by decide +kernel
theorem dX1_wrong_26 : decode cX1_wrong 26 = .ok (.istore_n 2, 1) := by decide +kernel
theorem dX1_wrong_27 : decode cX1_wrong 27 = .ok (.aload_n 0, 1) := by decide +kernel
theorem dX1_wrong_28 : decode cX1_wrong 28 = .ok (.getfield 9, 3) := by decide +kernel
theorem dX1_wrong_31 : decode cX1_wrong 31 = .ok (.iload_n 3, 1) := by decide +kernel
theorem dX1_wrong_32 : decode cX1_wrong 32 = .ok (.iaload, 1) := by decide +kernel
theorem dX1_wrong_33 : decode cX1_wrong 33 = .ok (.istore_n 3, 1) := by decide +kernel
theorem dX1_wrong_34 : decode cX1_wrong 34 = .ok (.goto (-30), 3) := by decide +kernel
theorem dX1_wrong_37 : decode cX1_wrong 37 = .ok (.iload_n 2, 1) := by decide +kernel
theorem dX1_wrong_38 : decode cX1_wrong 38 = .ok (.ireturn, 1) := by decide +kernel
theorem dX1_refuse_0 : decode cX1_refuse 0 = .ok (.aload_n 0, 1) := by decide +kernel
theorem dX1_refuse_1 : decode cX1_refuse 1 = .ok (.iload_n 1, 1) := by decide +kernel
theorem dX1_refuse_2 : decode cX1_refuse 2 = .ok (.invokevirtual 41, 3) := by decide +kernel
theorem dX1_refuse_5 : decode cX1_refuse 5 = .ok (.ifCond .eq 7, 3) := by decide +kernel
theorem dX1_refuse_8 : decode cX1_refuse 8 = .ok (.iload_n 1, 1) := by decide +kernel
theorem dX1_refuse_9 : decode cX1_refuse 9 = .ok (.ifCond .ne 5, 3) := by decide +kernel
theorem dX1_refuse_12 : decode cX1_refuse 12 = .ok (.iconst (-1), 1) := by decide +kernel
theorem dX1_refuse_13 : decode cX1_refuse 13 = .ok (.ireturn, 1) := by decide +kernel
theorem dX1_refuse_14 : decode cX1_refuse 14 = .ok (.aload_n 0, 1) := by decide +kernel
theorem dX1_refuse_15 : decode cX1_refuse 15 = .ok (.getfield 29, 3) := by decide +kernel
theorem dX1_refuse_18 : decode cX1_refuse 18 = .ok (.iload_n 1, 1) := by decide +kernel
theorem dX1_refuse_19 : decode cX1_refuse 19 = .ok (.iconst 1, 1) := by decide +kernel
theorem dX1_refuse_20 : decode cX1_refuse 20 = .ok (.bastore, 1) := by decide +kernel
theorem dX1_refuse_21 : decode cX1_refuse 21 = .ok (.aload_n 0, 1) := by decide +kernel
theorem dX1_refuse_22 : decode cX1_refuse 22 = .ok (.invokevirtual 53, 3) := by decide +kernel
theorem dX1_refuse_25 : decode cX1_refuse 25 = .ok (.ireturn, 1) := by decide +kernel
theorem dX1_best_0 : decode cX1_best 0 = .ok (.iconst 0, 1) := by decide +kernel
theorem dX1_best_1 : decode cX1_best 1 = .ok (.istore_n 1, 1) := by decide +kernel
theorem dX1_best_2 : decode cX1_best 2 = .ok (.iconst 1, 1) := by decide +kernel
theorem dX1_best_3 : decode cX1_best 3 = .ok (.istore_n 2, 1) := by decide +kernel
theorem dX1_best_4 : decode cX1_best 4 = .ok (.iload_n 2, 1) := by decide +kernel
theorem dX1_best_5 : decode cX1_best 5 = .ok (.aload_n 0, 1) := by decide +kernel
theorem dX1_best_6 : decode cX1_best 6 = .ok (.getfield 36, 3) := by decide +kernel
theorem dX1_best_9 : decode cX1_best 9 = .ok (.if_icmp .ge 66, 3) := by decide +kernel
theorem dX1_best_12 : decode cX1_best 12 = .ok (.aload_n 0, 1) := by decide +kernel
theorem dX1_best_13 : decode cX1_best 13 = .ok (.getfield 22, 3) := by decide +kernel
theorem dX1_best_16 : decode cX1_best 16 = .ok (.iload_n 2, 1) := by decide +kernel
theorem dX1_best_17 : decode cX1_best 17 = .ok (.laload, 1) := by decide +kernel
theorem dX1_best_18 : decode cX1_best 18 = .ok (.aload_n 0, 1) := by decide +kernel
theorem dX1_best_19 : decode cX1_best 19 = .ok (.getfield 22, 3) := by decide +kernel
theorem dX1_best_22 : decode cX1_best 22 = .ok (.iload_n 1, 1) := by decide +kernel
theorem dX1_best_23 : decode cX1_best 23 = .ok (.laload, 1) := by decide +kernel
theorem dX1_best_24 : decode cX1_best 24 = .ok (.lcmp, 1) := by decide +kernel
theorem dX1_best_25 : decode cX1_best 25 = .ok (.ifCond .gt 34, 3) := by decide +kernel
theorem dX1_best_28 : decode cX1_best 28 = .ok (.aload_n 0, 1) := by decide +kernel
theorem dX1_best_29 : decode cX1_best 29 = .ok (.getfield 22, 3) := by decide +kernel
theorem dX1_best_32 : decode cX1_best 32 = .ok (.iload_n 2, 1) := by decide +kernel
theorem dX1_best_33 : decode cX1_best 33 = .ok (.laload, 1) := by decide +kernel
theorem dX1_best_34 : decode cX1_best 34 = .ok (.aload_n 0, 1) := by decide +kernel
theorem dX1_best_35 : decode cX1_best 35 = .ok (.getfield 22, 3) := by decide +kernel
theorem dX1_best_38 : decode cX1_best 38 = .ok (.iload_n 1, 1) := by decide +kernel
theorem dX1_best_39 : decode cX1_best 39 = .ok (.laload, 1) := by decide +kernel
theorem dX1_best_40 : decode cX1_best 40 = .ok (.lcmp, 1) := by decide +kernel
theorem dX1_best_41 : decode cX1_best 41 = .ok (.ifCond .ne 28, 3) := by decide +kernel
theorem dX1_best_44 : decode cX1_best 44 = .ok (.aload_n 0, 1) := by decide +kernel
theorem dX1_best_45 : decode cX1_best 45 = .ok (.getfield 26, 3) := by decide +kernel
theorem dX1_best_48 : decode cX1_best 48 = .ok (.iload_n 2, 1) := by decide +kernel
theorem dX1_best_49 : decode cX1_best 49 = .ok (.iaload, 1) := by decide +kernel
theorem dX1_best_50 : decode cX1_best 50 = .ok (.aload_n 0, 1) := by decide +kernel
theorem dX1_best_51 : decode cX1_best 51 = .ok (.getfield 26, 3) := by decide +kernel
theorem dX1_best_54 : decode cX1_best 54 = .ok (.iload_n 1, 1) := by decide +kernel
theorem dX1_best_55 : decode cX1_best 55 = .ok (.iaload, 1) := by decide +kernel
theorem dX1_best_56 : decode cX1_best 56 = .ok (.if_icmp .ge 13, 3) := by decide +kernel
theorem dX1_best_59 : decode cX1_best 59 = .ok (.aload_n 0, 1) := by decide +kernel
theorem dX1_best_60 : decode cX1_best 60 = .ok (.iload_n 2, 1) := by decide +kernel
theorem dX1_best_61 : decode cX1_best 61 = .ok (.invokevirtual 57, 3) := by decide +kernel
theorem dX1_best_64 : decode cX1_best 64 = .ok (.ifCond .ne 5, 3) := by decide +kernel
theorem dX1_best_67 : decode cX1_best 67 = .ok (.iload_n 2, 1) := by decide +kernel
theorem dX1_best_68 : decode cX1_best 68 = .ok (.istore_n 1, 1) := by decide +kernel
theorem dX1_best_69 : decode cX1_best 69 = .ok (.iinc 2 1, 3) := by decide +kernel
theorem dX1_best_72 : decode cX1_best 72 = .ok (.goto (-68), 3) := by decide +kernel
theorem dX1_best_75 : decode cX1_best 75 = .ok (.iload_n 1, 1) := by decide +kernel
theorem dX1_best_76 : decode cX1_best 76 = .ok (.ireturn, 1) := by decide +kernel
theorem dX1_fork_0 : decode cX1_fork 0 = .ok (.aload_n 0, 1) := by decide +kernel
theorem dX1_fork_1 : decode cX1_fork 1 = .ok (.iload_n 1, 1) := by decide +kernel
theorem dX1_fork_2 : decode cX1_fork 2 = .ok (.invokevirtual 41, 3) := by decide +kernel
theorem dX1_fork_5 : decode cX1_fork 5 = .ok (.ifCond .eq 11, 3) := by decide +kernel
theorem dX1_fork_8 : decode cX1_fork 8 = .ok (.aload_n 0, 1) := by decide +kernel
theorem dX1_fork_9 : decode cX1_fork 9 = .ok (.iload_n 2, 1) := by decide +kernel
theorem dX1_fork_10 : decode cX1_fork 10 = .ok (.invokevirtual 41, 3) := by decide +kernel
theorem dX1_fork_13 : decode cX1_fork 13 = .ok (.ifCond .ne 6, 3) := by decide +kernel
theorem dX1_fork_16 : decode cX1_fork 16 = .ok (.bipush (-2), 2) := by decide +kernel
theorem dX1_fork_18 : decode cX1_fork 18 = .ok (.ireturn, 1) := by decide +kernel
theorem dX1_fork_19 : decode cX1_fork 19 = .ok (.iload_n 1, 1) := by decide +kernel
theorem dX1_fork_20 : decode cX1_fork 20 = .ok (.istore_n 3, 1) := by decide +kernel
theorem dX1_fork_21 : decode cX1_fork 21 = .ok (.iload_n 2, 1) := by decide +kernel
theorem dX1_fork_22 : decode cX1_fork 22 = .ok (.istore 4, 2) := by decide +kernel
theorem dX1_fork_24 : decode cX1_fork 24 = .ok (.iload_n 3, 1) := by decide +kernel
theorem dX1_fork_25 : decode cX1_fork 25 = .ok (.iload 4, 2) := by decide +kernel
theorem dX1_fork_27 : decode cX1_fork 27 = .ok (.if_icmp .eq 41, 3) := by decide +kernel
theorem dX1_fork_30 : decode cX1_fork 30 = .ok (.aload_n 0, 1) := by decide +kernel
theorem dX1_fork_31 : decode cX1_fork 31 = .ok (.getfield 13, 3) := by decide +kernel
theorem dX1_fork_34 : decode cX1_fork 34 = .ok (.iload_n 3, 1) := by decide +kernel
theorem dX1_fork_35 : decode cX1_fork 35 = .ok (.iaload, 1) := by decide +kernel
theorem dX1_fork_36 : decode cX1_fork 36 = .ok (.aload_n 0, 1) := by decide +kernel
theorem dX1_fork_37 : decode cX1_fork 37 = .ok (.getfield 13, 3) := by decide +kernel
theorem dX1_fork_40 : decode cX1_fork 40 = .ok (.iload 4, 2) := by decide +kernel
theorem dX1_fork_42 : decode cX1_fork 42 = .ok (.iaload, 1) := by decide +kernel
theorem dX1_fork_43 : decode cX1_fork 43 = .ok (.if_icmp .lt 13, 3) := by decide +kernel
theorem dX1_fork_46 : decode cX1_fork 46 = .ok (.aload_n 0, 1) := by decide +kernel
theorem dX1_fork_47 : decode cX1_fork 47 = .ok (.getfield 9, 3) := by decide +kernel
theorem dX1_fork_50 : decode cX1_fork 50 = .ok (.iload_n 3, 1) := by decide +kernel
theorem dX1_fork_51 : decode cX1_fork 51 = .ok (.iaload, 1) := by decide +kernel
theorem dX1_fork_52 : decode cX1_fork 52 = .ok (.istore_n 3, 1) := by decide +kernel
theorem dX1_fork_53 : decode cX1_fork 53 = .ok (.goto (-29), 3) := by decide +kernel
theorem dX1_fork_56 : decode cX1_fork 56 = .ok (.aload_n 0, 1) := by decide +kernel
theorem dX1_fork_57 : decode cX1_fork 57 = .ok (.getfield 9, 3) := by decide +kernel
theorem dX1_fork_60 : decode cX1_fork 60 = .ok (.iload 4, 2) := by decide +kernel
theorem dX1_fork_62 : decode cX1_fork 62 = .ok (.iaload, 1) := by decide +kernel
theorem dX1_fork_63 : decode cX1_fork 63 = .ok (.istore 4, 2) := by decide +kernel
theorem dX1_fork_65 : decode cX1_fork 65 = .ok (.goto (-41), 3) := by decide +kernel
theorem dX1_fork_68 : decode cX1_fork 68 = .ok (.iload_n 3, 1) := by decide +kernel
theorem dX1_fork_69 : decode cX1_fork 69 = .ok (.ireturn, 1) := by decide +kernel
theorem dX1_due_0 : decode cX1_due 0 = .ok (.aload_n 0, 1) := by decide +kernel
theorem dX1_due_1 : decode cX1_due 1 = .ok (.iload_n 1, 1) := by decide +kernel
theorem dX1_due_2 : decode cX1_due 2 = .ok (.invokevirtual 41, 3) := by decide +kernel
theorem dX1_due_5 : decode cX1_due 5 = .ok (.ifCond .ne 6, 3) := by decide +kernel
theorem dX1_due_8 : decode cX1_due 8 = .ok (.bipush (-2), 2) := by decide +kernel
theorem dX1_due_10 : decode cX1_due 10 = .ok (.ireturn, 1) := by decide +kernel
theorem dX1_due_11 : decode cX1_due 11 = .ok (.aload_n 0, 1) := by decide +kernel
theorem dX1_due_12 : decode cX1_due 12 = .ok (.getfield 19, 3) := by decide +kernel
theorem dX1_due_15 : decode cX1_due 15 = .ok (.iload_n 1, 1) := by decide +kernel
theorem dX1_due_16 : decode cX1_due 16 = .ok (.iaload, 1) := by decide +kernel
theorem dX1_due_17 : decode cX1_due 17 = .ok (.istore_n 2, 1) := by decide +kernel
theorem dX1_due_18 : decode cX1_due 18 = .ok (.aload_n 0, 1) := by decide +kernel
theorem dX1_due_19 : decode cX1_due 19 = .ok (.getfield 13, 3) := by decide +kernel
theorem dX1_due_22 : decode cX1_due 22 = .ok (.iload_n 1, 1) := by decide +kernel
theorem dX1_due_23 : decode cX1_due 23 = .ok (.iaload, 1) := by decide +kernel
theorem dX1_due_24 : decode cX1_due 24 = .ok (.iconst 1, 1) := by decide +kernel
theorem dX1_due_25 : decode cX1_due 25 = .ok (.iadd, 1) := by decide +kernel
theorem dX1_due_26 : decode cX1_due 26 = .ok (.istore_n 3, 1) := by decide +kernel
theorem dX1_due_27 : decode cX1_due 27 = .ok (.iload_n 3, 1) := by decide +kernel
theorem dX1_due_28 : decode cX1_due 28 = .ok (.bipush 8, 2) := by decide +kernel
theorem dX1_due_30 : decode cX1_due 30 = .ok (.irem, 1) := by decide +kernel
theorem dX1_due_31 : decode cX1_due 31 = .ok (.ifCond .eq 5, 3) := by decide +kernel
theorem dX1_due_34 : decode cX1_due 34 = .ok (.iload_n 2, 1) := by decide +kernel
theorem dX1_due_35 : decode cX1_due 35 = .ok (.ireturn, 1) := by decide +kernel
theorem dX1_due_36 : decode cX1_due 36 = .ok (.aload_n 0, 1) := by decide +kernel
theorem dX1_due_37 : decode cX1_due 37 = .ok (.getfield 16, 3) := by decide +kernel
theorem dX1_due_40 : decode cX1_due 40 = .ok (.iload_n 1, 1) := by decide +kernel
theorem dX1_due_41 : decode cX1_due 41 = .ok (.iaload, 1) := by decide +kernel
theorem dX1_due_42 : decode cX1_due 42 = .ok (.aload_n 0, 1) := by decide +kernel
theorem dX1_due_43 : decode cX1_due 43 = .ok (.getfield 16, 3) := by decide +kernel
theorem dX1_due_46 : decode cX1_due 46 = .ok (.aload_n 0, 1) := by decide +kernel
theorem dX1_due_47 : decode cX1_due 47 = .ok (.iload_n 1, 1) := by decide +kernel
theorem dX1_due_48 : decode cX1_due 48 = .ok (.iload_n 3, 1) := by decide +kernel
theorem dX1_due_49 : decode cX1_due 49 = .ok (.bipush 8, 2) := by decide +kernel
theorem dX1_due_51 : decode cX1_due 51 = .ok (.isub, 1) := by decide +kernel
theorem dX1_due_52 : decode cX1_due 52 = .ok (.invokevirtual 60, 3) := by decide +kernel
theorem dX1_due_55 : decode cX1_due 55 = .ok (.iaload, 1) := by decide +kernel
theorem dX1_due_56 : decode cX1_due 56 = .ok (.isub, 1) := by decide +kernel
theorem dX1_due_57 : decode cX1_due 57 = .ok (.istore 4, 2) := by decide +kernel
theorem dX1_due_59 : decode cX1_due 59 = .ok (.iload 4, 2) := by decide +kernel
theorem dX1_due_61 : decode cX1_due 61 = .ok (.bipush 20, 2) := by decide +kernel
theorem dX1_due_63 : decode cX1_due 63 = .ok (.if_icmp .ge 7, 3) := by decide +kernel
theorem dX1_due_66 : decode cX1_due 66 = .ok (.bipush 20, 2) := by decide +kernel
theorem dX1_due_68 : decode cX1_due 68 = .ok (.istore 4, 2) := by decide +kernel
theorem dX1_due_70 : decode cX1_due 70 = .ok (.iload 4, 2) := by decide +kernel
theorem dX1_due_72 : decode cX1_due 72 = .ok (.sipush 320, 3) := by decide +kernel
theorem dX1_due_75 : decode cX1_due 75 = .ok (.if_icmp .le 8, 3) := by decide +kernel
theorem dX1_due_78 : decode cX1_due 78 = .ok (.sipush 320, 3) := by decide +kernel
theorem dX1_due_81 : decode cX1_due 81 = .ok (.istore 4, 2) := by decide +kernel
theorem dX1_due_83 : decode cX1_due 83 = .ok (.iload_n 2, 1) := by decide +kernel
theorem dX1_due_84 : decode cX1_due 84 = .ok (.iload 4, 2) := by decide +kernel
theorem dX1_due_86 : decode cX1_due 86 = .ok (.imul, 1) := by decide +kernel
theorem dX1_due_87 : decode cX1_due 87 = .ok (.bipush 80, 2) := by decide +kernel
theorem dX1_due_89 : decode cX1_due 89 = .ok (.idiv, 1) := by decide +kernel
theorem dX1_due_90 : decode cX1_due 90 = .ok (.istore_n 2, 1) := by decide +kernel
theorem dX1_due_91 : decode cX1_due 91 = .ok (.iload_n 2, 1) := by decide +kernel
theorem dX1_due_92 : decode cX1_due 92 = .ok (.sipush 2048, 3) := by decide +kernel
theorem dX1_due_95 : decode cX1_due 95 = .ok (.if_icmp .ge 9, 3) := by decide +kernel
theorem dX1_due_98 : decode cX1_due 98 = .ok (.sipush 2048, 3) := by decide +kernel
theorem dX1_due_101 : decode cX1_due 101 = .ok (.goto 15, 3) := by decide +kernel
theorem dX1_due_104 : decode cX1_due 104 = .ok (.iload_n 2, 1) := by decide +kernel
theorem dX1_due_105 : decode cX1_due 105 = .ok (.ldc 64, 2) := by decide +kernel
theorem dX1_due_107 : decode cX1_due 107 = .ok (.if_icmp .le 8, 3) := by decide +kernel
theorem dX1_due_110 : decode cX1_due 110 = .ok (.ldc 64, 2) := by decide +kernel
theorem dX1_due_112 : decode cX1_due 112 = .ok (.goto 4, 3) := by decide +kernel
theorem dX1_due_115 : decode cX1_due 115 = .ok (.iload_n 2, 1) := by decide +kernel
theorem dX1_due_116 : decode cX1_due 116 = .ok (.ireturn, 1) := by decide +kernel
theorem dX1_median_0 : decode cX1_median 0 = .ok (.aload_n 0, 1) := by decide +kernel
theorem dX1_median_1 : decode cX1_median 1 = .ok (.iload_n 1, 1) := by decide +kernel
theorem dX1_median_2 : decode cX1_median 2 = .ok (.invokevirtual 41, 3) := by decide +kernel
theorem dX1_median_5 : decode cX1_median 5 = .ok (.ifCond .ne 6, 3) := by decide +kernel
theorem dX1_median_8 : decode cX1_median 8 = .ok (.bipush (-2), 2) := by decide +kernel
theorem dX1_median_10 : decode cX1_median 10 = .ok (.ireturn, 1) := by decide +kernel
theorem dX1_median_11 : decode cX1_median 11 = .ok (.iconst 0, 1) := by decide +kernel
theorem dX1_median_12 : decode cX1_median 12 = .ok (.istore_n 2, 1) := by decide +kernel
theorem dX1_median_13 : decode cX1_median 13 = .ok (.iload_n 1, 1) := by decide +kernel
theorem dX1_median_14 : decode cX1_median 14 = .ok (.istore_n 3, 1) := by decide +kernel
theorem dX1_median_15 : decode cX1_median 15 = .ok (.iload_n 3, 1) := by decide +kernel
theorem dX1_median_16 : decode cX1_median 16 = .ok (.ifCond .lt 83, 3) := by decide +kernel
theorem dX1_median_19 : decode cX1_median 19 = .ok (.iload_n 2, 1) := by decide +kernel
theorem dX1_median_20 : decode cX1_median 20 = .ok (.bipush 7, 2) := by decide +kernel
theorem dX1_median_22 : decode cX1_median 22 = .ok (.if_icmp .ge 77, 3) := by decide +kernel
theorem dX1_median_25 : decode cX1_median 25 = .ok (.iload_n 2, 1) := by decide +kernel
theorem dX1_median_26 : decode cX1_median 26 = .ok (.istore 4, 2) := by decide +kernel
theorem dX1_median_28 : decode cX1_median 28 = .ok (.iload 4, 2) := by decide +kernel
theorem dX1_median_30 : decode cX1_median 30 = .ok (.ifCond .le 43, 3) := by decide +kernel
theorem dX1_median_33 : decode cX1_median 33 = .ok (.aload_n 0, 1) := by decide +kernel
theorem dX1_median_34 : decode cX1_median 34 = .ok (.getfield 33, 3) := by decide +kernel
theorem dX1_median_37 : decode cX1_median 37 = .ok (.iload 4, 2) := by decide +kernel
theorem dX1_median_39 : decode cX1_median 39 = .ok (.iconst 1, 1) := by decide +kernel
theorem dX1_median_40 : decode cX1_median 40 = .ok (.isub, 1) := by decide +kernel
theorem dX1_median_41 : decode cX1_median 41 = .ok (.iaload, 1) := by decide +kernel
theorem dX1_median_42 : decode cX1_median 42 = .ok (.aload_n 0, 1) := by decide +kernel
theorem dX1_median_43 : decode cX1_median 43 = .ok (.getfield 16, 3) := by decide +kernel
theorem dX1_median_46 : decode cX1_median 46 = .ok (.iload_n 3, 1) := by decide +kernel
theorem dX1_median_47 : decode cX1_median 47 = .ok (.iaload, 1) := by decide +kernel
theorem dX1_median_48 : decode cX1_median 48 = .ok (.if_icmp .le 25, 3) := by decide +kernel
theorem dX1_median_51 : decode cX1_median 51 = .ok (.aload_n 0, 1) := by decide +kernel
theorem dX1_median_52 : decode cX1_median 52 = .ok (.getfield 33, 3) := by decide +kernel
theorem dX1_median_55 : decode cX1_median 55 = .ok (.iload 4, 2) := by decide +kernel
theorem dX1_median_57 : decode cX1_median 57 = .ok (.aload_n 0, 1) := by decide +kernel
theorem dX1_median_58 : decode cX1_median 58 = .ok (.getfield 33, 3) := by decide +kernel
theorem dX1_median_61 : decode cX1_median 61 = .ok (.iload 4, 2) := by decide +kernel
theorem dX1_median_63 : decode cX1_median 63 = .ok (.iconst 1, 1) := by decide +kernel
theorem dX1_median_64 : decode cX1_median 64 = .ok (.isub, 1) := by decide +kernel
theorem dX1_median_65 : decode cX1_median 65 = .ok (.iaload, 1) := by decide +kernel
theorem dX1_median_66 : decode cX1_median 66 = .ok (.iastore, 1) := by decide +kernel
theorem dX1_median_67 : decode cX1_median 67 = .ok (.iinc 4 (-1), 3) := by decide +kernel
theorem dX1_median_70 : decode cX1_median 70 = .ok (.goto (-42), 3) := by decide +kernel
theorem dX1_median_73 : decode cX1_median 73 = .ok (.aload_n 0, 1) := by decide +kernel
theorem dX1_median_74 : decode cX1_median 74 = .ok (.getfield 33, 3) := by decide +kernel
theorem dX1_median_77 : decode cX1_median 77 = .ok (.iload 4, 2) := by decide +kernel
theorem dX1_median_79 : decode cX1_median 79 = .ok (.aload_n 0, 1) := by decide +kernel
theorem dX1_median_80 : decode cX1_median 80 = .ok (.getfield 16, 3) := by decide +kernel
theorem dX1_median_83 : decode cX1_median 83 = .ok (.iload_n 3, 1) := by decide +kernel
theorem dX1_median_84 : decode cX1_median 84 = .ok (.iaload, 1) := by decide +kernel
theorem dX1_median_85 : decode cX1_median 85 = .ok (.iastore, 1) := by decide +kernel
theorem dX1_median_86 : decode cX1_median 86 = .ok (.iinc 2 1, 3) := by decide +kernel
theorem dX1_median_89 : decode cX1_median 89 = .ok (.aload_n 0, 1) := by decide +kernel
theorem dX1_median_90 : decode cX1_median 90 = .ok (.getfield 9, 3) := by decide +kernel
theorem dX1_median_93 : decode cX1_median 93 = .ok (.iload_n 3, 1) := by decide +kernel
theorem dX1_median_94 : decode cX1_median 94 = .ok (.iaload, 1) := by decide +kernel
theorem dX1_median_95 : decode cX1_median 95 = .ok (.istore_n 3, 1) := by decide +kernel
theorem dX1_median_96 : decode cX1_median 96 = .ok (.goto (-81), 3) := by decide +kernel
theorem dX1_median_99 : decode cX1_median 99 = .ok (.aload_n 0, 1) := by decide +kernel
theorem dX1_median_100 : decode cX1_median 100 = .ok (.getfield 33, 3) := by decide +kernel
theorem dX1_median_103 : decode cX1_median 103 = .ok (.iload_n 2, 1) := by decide +kernel
theorem dX1_median_104 : decode cX1_median 104 = .ok (.iconst 2, 1) := by decide +kernel
theorem dX1_median_105 : decode cX1_median 105 = .ok (.idiv, 1) := by decide +kernel
theorem dX1_median_106 : decode cX1_median 106 = .ok (.iaload, 1) := by decide +kernel
theorem dX1_median_107 : decode cX1_median 107 = .ok (.ireturn, 1) := by decide +kernel
theorem dX1_ancestor_0 : decode cX1_ancestor 0 = .ok (.aload_n 0, 1) := by decide +kernel
theorem dX1_ancestor_1 : decode cX1_ancestor 1 = .ok (.iload_n 1, 1) := by decide +kernel
theorem dX1_ancestor_2 : decode cX1_ancestor 2 = .ok (.invokevirtual 41, 3) := by decide +kernel
theorem dX1_ancestor_5 : decode cX1_ancestor 5 = .ok (.ifCond .eq 17, 3) := by decide +kernel
theorem dX1_ancestor_8 : decode cX1_ancestor 8 = .ok (.iload_n 2, 1) := by decide +kernel
theorem dX1_ancestor_9 : decode cX1_ancestor 9 = .ok (.ifCond .lt 13, 3) := by decide +kernel
theorem dX1_ancestor_12 : decode cX1_ancestor 12 = .ok (.iload_n 2, 1) := by decide +kernel
theorem dX1_ancestor_13 : decode cX1_ancestor 13 = .ok (.aload_n 0, 1) := by decide +kernel
theorem dX1_ancestor_14 : decode cX1_ancestor 14 = .ok (.getfield 13, 3) := by decide +kernel
theorem dX1_ancestor_17 : decode cX1_ancestor 17 = .ok (.iload_n 1, 1) := by decide +kernel
theorem dX1_ancestor_18 : decode cX1_ancestor 18 = .ok (.iaload, 1) := by decide +kernel
theorem dX1_ancestor_19 : decode cX1_ancestor 19 = .ok (.if_icmp .le 6, 3) := by decide +kernel
theorem dX1_ancestor_22 : decode cX1_ancestor 22 = .ok (.bipush (-2), 2) := by decide +kernel
theorem dX1_ancestor_24 : decode cX1_ancestor 24 = .ok (.ireturn, 1) := by decide +kernel
theorem dX1_ancestor_25 : decode cX1_ancestor 25 = .ok (.iload_n 1, 1) := by decide +kernel
theorem dX1_ancestor_26 : decode cX1_ancestor 26 = .ok (.istore_n 3, 1) := by decide +kernel
theorem dX1_ancestor_27 : decode cX1_ancestor 27 = .ok (.aload_n 0, 1) := by decide +kernel
theorem dX1_ancestor_28 : decode cX1_ancestor 28 = .ok (.getfield 13, 3) := by decide +kernel
theorem dX1_ancestor_31 : decode cX1_ancestor 31 = .ok (.iload_n 3, 1) := by decide +kernel
theorem dX1_ancestor_32 : decode cX1_ancestor 32 = .ok (.iaload, 1) := by decide +kernel
theorem dX1_ancestor_33 : decode cX1_ancestor 33 = .ok (.iload_n 2, 1) := by decide +kernel
theorem dX1_ancestor_34 : decode cX1_ancestor 34 = .ok (.if_icmp .le 13, 3) := by decide +kernel
theorem dX1_ancestor_37 : decode cX1_ancestor 37 = .ok (.aload_n 0, 1) := by decide +kernel
theorem dX1_ancestor_38 : decode cX1_ancestor 38 = .ok (.getfield 9, 3) := by decide +kernel
theorem dX1_ancestor_41 : decode cX1_ancestor 41 = .ok (.iload_n 3, 1) := by decide +kernel
theorem dX1_ancestor_42 : decode cX1_ancestor 42 = .ok (.iaload, 1) := by decide +kernel
theorem dX1_ancestor_43 : decode cX1_ancestor 43 = .ok (.istore_n 3, 1) := by decide +kernel
theorem dX1_ancestor_44 : decode cX1_ancestor 44 = .ok (.goto (-17), 3) := by decide +kernel
theorem dX1_ancestor_47 : decode cX1_ancestor 47 = .ok (.iload_n 3, 1) := by decide +kernel
theorem dX1_ancestor_48 : decode cX1_ancestor 48 = .ok (.ireturn, 1) := by decide +kernel
theorem dX1_look_0 : decode cX1_look 0 = .ok (.iload_n 2, 1) := by decide +kernel
theorem dX1_look_1 : decode cX1_look 1 = .ok (.ifCond .lt 8, 3) := by decide +kernel
theorem dX1_look_4 : decode cX1_look 4 = .ok (.iload_n 2, 1) := by decide +kernel
theorem dX1_look_5 : decode cX1_look 5 = .ok (.iconst 5, 1) := by decide +kernel
theorem dX1_look_6 : decode cX1_look 6 = .ok (.if_icmp .le 7, 3) := by decide +kernel
theorem dX1_look_9 : decode cX1_look 9 = .ok (.ldc2_w 65, 3) := by decide +kernel
theorem dX1_look_12 : decode cX1_look 12 = .ok (.lreturn, 1) := by decide +kernel
theorem dX1_look_13 : decode cX1_look 13 = .ok (.aload_n 0, 1) := by decide +kernel
theorem dX1_look_14 : decode cX1_look 14 = .ok (.iload_n 1, 1) := by decide +kernel
theorem dX1_look_15 : decode cX1_look 15 = .ok (.invokevirtual 41, 3) := by decide +kernel
theorem dX1_look_18 : decode cX1_look 18 = .ok (.ifCond .ne 7, 3) := by decide +kernel
theorem dX1_look_21 : decode cX1_look 21 = .ok (.ldc2_w 67, 3) := by decide +kernel
theorem dX1_look_24 : decode cX1_look 24 = .ok (.lreturn, 1) := by decide +kernel
theorem dX1_look_25 : decode cX1_look 25 = .ok (.iload_n 2, 1) := by decide +kernel
theorem dX1_look_26 : decode cX1_look 26 = .ok (.tableswitch 73 0 4 #[34, 42, 50, 58, 66], 34) := by decide +kernel
theorem dX1_look_60 : decode cX1_look 60 = .ok (.aload_n 0, 1) := by decide +kernel
theorem dX1_look_61 : decode cX1_look 61 = .ok (.getfield 13, 3) := by decide +kernel
theorem dX1_look_64 : decode cX1_look 64 = .ok (.iload_n 1, 1) := by decide +kernel
theorem dX1_look_65 : decode cX1_look 65 = .ok (.iaload, 1) := by decide +kernel
theorem dX1_look_66 : decode cX1_look 66 = .ok (.i2l, 1) := by decide +kernel
theorem dX1_look_67 : decode cX1_look 67 = .ok (.lreturn, 1) := by decide +kernel
theorem dX1_look_68 : decode cX1_look 68 = .ok (.aload_n 0, 1) := by decide +kernel
theorem dX1_look_69 : decode cX1_look 69 = .ok (.getfield 9, 3) := by decide +kernel
theorem dX1_look_72 : decode cX1_look 72 = .ok (.iload_n 1, 1) := by decide +kernel
theorem dX1_look_73 : decode cX1_look 73 = .ok (.iaload, 1) := by decide +kernel
theorem dX1_look_74 : decode cX1_look 74 = .ok (.i2l, 1) := by decide +kernel
theorem dX1_look_75 : decode cX1_look 75 = .ok (.lreturn, 1) := by decide +kernel
theorem dX1_look_76 : decode cX1_look 76 = .ok (.aload_n 0, 1) := by decide +kernel
theorem dX1_look_77 : decode cX1_look 77 = .ok (.getfield 16, 3) := by decide +kernel
theorem dX1_look_80 : decode cX1_look 80 = .ok (.iload_n 1, 1) := by decide +kernel
theorem dX1_look_81 : decode cX1_look 81 = .ok (.iaload, 1) := by decide +kernel
theorem dX1_look_82 : decode cX1_look 82 = .ok (.i2l, 1) := by decide +kernel
theorem dX1_look_83 : decode cX1_look 83 = .ok (.lreturn, 1) := by decide +kernel
theorem dX1_look_84 : decode cX1_look 84 = .ok (.aload_n 0, 1) := by decide +kernel
theorem dX1_look_85 : decode cX1_look 85 = .ok (.getfield 19, 3) := by decide +kernel
theorem dX1_look_88 : decode cX1_look 88 = .ok (.iload_n 1, 1) := by decide +kernel
theorem dX1_look_89 : decode cX1_look 89 = .ok (.iaload, 1) := by decide +kernel
theorem dX1_look_90 : decode cX1_look 90 = .ok (.i2l, 1) := by decide +kernel
theorem dX1_look_91 : decode cX1_look 91 = .ok (.lreturn, 1) := by decide +kernel
theorem dX1_look_92 : decode cX1_look 92 = .ok (.aload_n 0, 1) := by decide +kernel
theorem dX1_look_93 : decode cX1_look 93 = .ok (.getfield 22, 3) := by decide +kernel
theorem dX1_look_96 : decode cX1_look 96 = .ok (.iload_n 1, 1) := by decide +kernel
theorem dX1_look_97 : decode cX1_look 97 = .ok (.laload, 1) := by decide +kernel
theorem dX1_look_98 : decode cX1_look 98 = .ok (.lreturn, 1) := by decide +kernel
theorem dX1_look_99 : decode cX1_look 99 = .ok (.aload_n 0, 1) := by decide +kernel
theorem dX1_look_100 : decode cX1_look 100 = .ok (.iload_n 1, 1) := by decide +kernel
theorem dX1_look_101 : decode cX1_look 101 = .ok (.invokevirtual 57, 3) := by decide +kernel
theorem dX1_look_104 : decode cX1_look 104 = .ok (.ifCond .eq 7, 3) := by decide +kernel
theorem dX1_look_107 : decode cX1_look 107 = .ok (.lconst 1, 1) := by decide +kernel
theorem dX1_look_108 : decode cX1_look 108 = .ok (.goto 4, 3) := by decide +kernel
theorem dX1_look_111 : decode cX1_look 111 = .ok (.lconst 0, 1) := by decide +kernel
theorem dX1_look_112 : decode cX1_look 112 = .ok (.lreturn, 1) := by decide +kernel
theorem dX1_blocks_0 : decode cX1_blocks 0 = .ok (.aload_n 0, 1) := by decide +kernel
theorem dX1_blocks_1 : decode cX1_blocks 1 = .ok (.getfield 36, 3) := by decide +kernel
theorem dX1_blocks_4 : decode cX1_blocks 4 = .ok (.ireturn, 1) := by decide +kernel
theorem dL_law_0 : decode cL_law 0 = .ok (.new 7, 3) := by decide +kernel
theorem dL_law_3 : decode cL_law 3 = .ok (.dup, 1) := by decide +kernel
theorem dL_law_4 : decode cL_law 4 = .ok (.invokespecial 9, 3) := by decide +kernel
theorem dL_law_7 : decode cL_law 7 = .ok (.astore_n 1, 1) := by decide +kernel
theorem dL_law_8 : decode cL_law 8 = .ok (.new 10, 3) := by decide +kernel
theorem dL_law_11 : decode cL_law 11 = .ok (.dup, 1) := by decide +kernel
theorem dL_law_12 : decode cL_law 12 = .ok (.invokespecial 12, 3) := by decide +kernel
theorem dL_law_15 : decode cL_law 15 = .ok (.astore_n 2, 1) := by decide +kernel
theorem dL_law_16 : decode cL_law 16 = .ok (.iconst 0, 1) := by decide +kernel
theorem dL_law_17 : decode cL_law 17 = .ok (.istore_n 3, 1) := by decide +kernel
theorem dL_law_18 : decode cL_law 18 = .ok (.iload_n 3, 1) := by decide +kernel
theorem dL_law_19 : decode cL_law 19 = .ok (.aload_n 0, 1) := by decide +kernel
theorem dL_law_20 : decode cL_law 20 = .ok (.arraylength, 1) := by decide +kernel
theorem dL_law_21 : decode cL_law 21 = .ok (.iconst 4, 1) := by decide +kernel
theorem dL_law_22 : decode cL_law 22 = .ok (.isub, 1) := by decide +kernel
theorem dL_law_23 : decode cL_law 23 = .ok (.if_icmp .gt 305, 3) := by decide +kernel
theorem dL_law_26 : decode cL_law 26 = .ok (.aload_n 0, 1) := by decide +kernel
theorem dL_law_27 : decode cL_law 27 = .ok (.iload_n 3, 1) := by decide +kernel
theorem dL_law_28 : decode cL_law 28 = .ok (.iaload, 1) := by decide +kernel
theorem dL_law_29 : decode cL_law 29 = .ok (.bipush 15, 2) := by decide +kernel
theorem dL_law_31 : decode cL_law 31 = .ok (.iand, 1) := by decide +kernel
theorem dL_law_32 : decode cL_law 32 = .ok (.tableswitch 290 0 8 #[52, 95, 118, 131, 164, 187, 210, 243, 277], 52) := by decide +kernel
theorem dL_law_84 : decode cL_law 84 = .ok (.aload_n 1, 1) := by decide +kernel
theorem dL_law_85 : decode cL_law 85 = .ok (.aload_n 0, 1) := by decide +kernel
theorem dL_law_86 : decode cL_law 86 = .ok (.iload_n 3, 1) := by decide +kernel
theorem dL_law_87 : decode cL_law 87 = .ok (.iconst 1, 1) := by decide +kernel
theorem dL_law_88 : decode cL_law 88 = .ok (.iadd, 1) := by decide +kernel
theorem dL_law_89 : decode cL_law 89 = .ok (.iaload, 1) := by decide +kernel
theorem dL_law_90 : decode cL_law 90 = .ok (.aload_n 0, 1) := by decide +kernel
theorem dL_law_91 : decode cL_law 91 = .ok (.iload_n 3, 1) := by decide +kernel
theorem dL_law_92 : decode cL_law 92 = .ok (.iconst 2, 1) := by decide +kernel
theorem dL_law_93 : decode cL_law 93 = .ok (.iadd, 1) := by decide +kernel
theorem dL_law_94 : decode cL_law 94 = .ok (.iaload, 1) := by decide +kernel
theorem dL_law_95 : decode cL_law 95 = .ok (.aload_n 0, 1) := by decide +kernel
theorem dL_law_96 : decode cL_law 96 = .ok (.iload_n 3, 1) := by decide +kernel
theorem dL_law_97 : decode cL_law 97 = .ok (.iconst 3, 1) := by decide +kernel
theorem dL_law_98 : decode cL_law 98 = .ok (.iadd, 1) := by decide +kernel
theorem dL_law_99 : decode cL_law 99 = .ok (.iaload, 1) := by decide +kernel
theorem dL_law_100 : decode cL_law 100 = .ok (.invokevirtual 13, 3) := by decide +kernel
theorem dL_law_103 : decode cL_law 103 = .ok (.aload_n 2, 1) := by decide +kernel
theorem dL_law_104 : decode cL_law 104 = .ok (.aload_n 0, 1) := by decide +kernel
theorem dL_law_105 : decode cL_law 105 = .ok (.iload_n 3, 1) := by decide +kernel
theorem dL_law_106 : decode cL_law 106 = .ok (.iconst 1, 1) := by decide +kernel
theorem dL_law_107 : decode cL_law 107 = .ok (.iadd, 1) := by decide +kernel
theorem dL_law_108 : decode cL_law 108 = .ok (.iaload, 1) := by decide +kernel
theorem dL_law_109 : decode cL_law 109 = .ok (.aload_n 0, 1) := by decide +kernel
theorem dL_law_110 : decode cL_law 110 = .ok (.iload_n 3, 1) := by decide +kernel
theorem dL_law_111 : decode cL_law 111 = .ok (.iconst 2, 1) := by decide +kernel
theorem dL_law_112 : decode cL_law 112 = .ok (.iadd, 1) := by decide +kernel
theorem dL_law_113 : decode cL_law 113 = .ok (.iaload, 1) := by decide +kernel
theorem dL_law_114 : decode cL_law 114 = .ok (.aload_n 0, 1) := by decide +kernel
theorem dL_law_115 : decode cL_law 115 = .ok (.iload_n 3, 1) := by decide +kernel
theorem dL_law_116 : decode cL_law 116 = .ok (.iconst 3, 1) := by decide +kernel
theorem dL_law_117 : decode cL_law 117 = .ok (.iadd, 1) := by decide +kernel
theorem dL_law_118 : decode cL_law 118 = .ok (.iaload, 1) := by decide +kernel
theorem dL_law_119 : decode cL_law 119 = .ok (.invokevirtual 17, 3) := by decide +kernel
theorem dL_law_122 : decode cL_law 122 = .ok (.if_icmp .eq 200, 3) := by decide +kernel
theorem dL_law_125 : decode cL_law 125 = .ok (.iconst 0, 1) := by decide +kernel
theorem dL_law_126 : decode cL_law 126 = .ok (.ireturn, 1) := by decide +kernel
theorem dL_law_127 : decode cL_law 127 = .ok (.aload_n 1, 1) := by decide +kernel
theorem dL_law_128 : decode cL_law 128 = .ok (.aload_n 0, 1) := by decide +kernel
theorem dL_law_129 : decode cL_law 129 = .ok (.iload_n 3, 1) := by decide +kernel
theorem dL_law_130 : decode cL_law 130 = .ok (.iconst 1, 1) := by decide +kernel
theorem dL_law_131 : decode cL_law 131 = .ok (.iadd, 1) := by decide +kernel
theorem dL_law_132 : decode cL_law 132 = .ok (.iaload, 1) := by decide +kernel
theorem dL_law_133 : decode cL_law 133 = .ok (.invokevirtual 18, 3) := by decide +kernel
theorem dL_law_136 : decode cL_law 136 = .ok (.aload_n 2, 1) := by decide +kernel
theorem dL_law_137 : decode cL_law 137 = .ok (.aload_n 0, 1) := by decide +kernel
theorem dL_law_138 : decode cL_law 138 = .ok (.iload_n 3, 1) := by decide +kernel
theorem dL_law_139 : decode cL_law 139 = .ok (.iconst 1, 1) := by decide +kernel
theorem dL_law_140 : decode cL_law 140 = .ok (.iadd, 1) := by decide +kernel
theorem dL_law_141 : decode cL_law 141 = .ok (.iaload, 1) := by decide +kernel
theorem dL_law_142 : decode cL_law 142 = .ok (.invokevirtual 22, 3) := by decide +kernel
theorem dL_law_145 : decode cL_law 145 = .ok (.if_icmp .eq 177, 3) := by decide +kernel
theorem dL_law_148 : decode cL_law 148 = .ok (.iconst 0, 1) := by decide +kernel
theorem dL_law_149 : decode cL_law 149 = .ok (.ireturn, 1) := by decide +kernel
theorem dL_law_150 : decode cL_law 150 = .ok (.aload_n 1, 1) := by decide +kernel
theorem dL_law_151 : decode cL_law 151 = .ok (.invokevirtual 23, 3) := by decide +kernel
theorem dL_law_154 : decode cL_law 154 = .ok (.aload_n 2, 1) := by decide +kernel
theorem dL_law_155 : decode cL_law 155 = .ok (.invokevirtual 27, 3) := by decide +kernel
theorem dL_law_158 : decode cL_law 158 = .ok (.if_icmp .eq 164, 3) := by decide +kernel
theorem dL_law_161 : decode cL_law 161 = .ok (.iconst 0, 1) := by decide +kernel
theorem dL_law_162 : decode cL_law 162 = .ok (.ireturn, 1) := by decide +kernel
theorem dL_law_163 : decode cL_law 163 = .ok (.aload_n 1, 1) := by decide +kernel
theorem dL_law_164 : decode cL_law 164 = .ok (.aload_n 0, 1) := by decide +kernel
theorem dL_law_165 : decode cL_law 165 = .ok (.iload_n 3, 1) := by decide +kernel
theorem dL_law_166 : decode cL_law 166 = .ok (.iconst 1, 1) := by decide +kernel
theorem dL_law_167 : decode cL_law 167 = .ok (.iadd, 1) := by decide +kernel
theorem dL_law_168 : decode cL_law 168 = .ok (.iaload, 1) := by decide +kernel
theorem dL_law_169 : decode cL_law 169 = .ok (.aload_n 0, 1) := by decide +kernel
theorem dL_law_170 : decode cL_law 170 = .ok (.iload_n 3, 1) := by decide +kernel
theorem dL_law_171 : decode cL_law 171 = .ok (.iconst 2, 1) := by decide +kernel
theorem dL_law_172 : decode cL_law 172 = .ok (.iadd, 1) := by decide +kernel
theorem dL_law_173 : decode cL_law 173 = .ok (.iaload, 1) := by decide +kernel
theorem dL_law_174 : decode cL_law 174 = .ok (.invokevirtual 28, 3) := by decide +kernel
theorem dL_law_177 : decode cL_law 177 = .ok (.aload_n 2, 1) := by decide +kernel
theorem dL_law_178 : decode cL_law 178 = .ok (.aload_n 0, 1) := by decide +kernel
theorem dL_law_179 : decode cL_law 179 = .ok (.iload_n 3, 1) := by decide +kernel
theorem dL_law_180 : decode cL_law 180 = .ok (.iconst 1, 1) := by decide +kernel
theorem dL_law_181 : decode cL_law 181 = .ok (.iadd, 1) := by decide +kernel
theorem dL_law_182 : decode cL_law 182 = .ok (.iaload, 1) := by decide +kernel
theorem dL_law_183 : decode cL_law 183 = .ok (.aload_n 0, 1) := by decide +kernel
theorem dL_law_184 : decode cL_law 184 = .ok (.iload_n 3, 1) := by decide +kernel
theorem dL_law_185 : decode cL_law 185 = .ok (.iconst 2, 1) := by decide +kernel
theorem dL_law_186 : decode cL_law 186 = .ok (.iadd, 1) := by decide +kernel
theorem dL_law_187 : decode cL_law 187 = .ok (.iaload, 1) := by decide +kernel
theorem dL_law_188 : decode cL_law 188 = .ok (.invokevirtual 32, 3) := by decide +kernel
theorem dL_law_191 : decode cL_law 191 = .ok (.if_icmp .eq 131, 3) := by decide +kernel
theorem dL_law_194 : decode cL_law 194 = .ok (.iconst 0, 1) := by decide +kernel
theorem dL_law_195 : decode cL_law 195 = .ok (.ireturn, 1) := by decide +kernel
theorem dL_law_196 : decode cL_law 196 = .ok (.aload_n 1, 1) := by decide +kernel
theorem dL_law_197 : decode cL_law 197 = .ok (.aload_n 0, 1) := by decide +kernel
theorem dL_law_198 : decode cL_law 198 = .ok (.iload_n 3, 1) := by decide +kernel
theorem dL_law_199 : decode cL_law 199 = .ok (.iconst 1, 1) := by decide +kernel
theorem dL_law_200 : decode cL_law 200 = .ok (.iadd, 1) := by decide +kernel
theorem dL_law_201 : decode cL_law 201 = .ok (.iaload, 1) := by decide +kernel
theorem dL_law_202 : decode cL_law 202 = .ok (.invokevirtual 33, 3) := by decide +kernel
theorem dL_law_205 : decode cL_law 205 = .ok (.aload_n 2, 1) := by decide +kernel
theorem dL_law_206 : decode cL_law 206 = .ok (.aload_n 0, 1) := by decide +kernel
theorem dL_law_207 : decode cL_law 207 = .ok (.iload_n 3, 1) := by decide +kernel
theorem dL_law_208 : decode cL_law 208 = .ok (.iconst 1, 1) := by decide +kernel
theorem dL_law_209 : decode cL_law 209 = .ok (.iadd, 1) := by decide +kernel
theorem dL_law_210 : decode cL_law 210 = .ok (.iaload, 1) := by decide +kernel
theorem dL_law_211 : decode cL_law 211 = .ok (.invokevirtual 36, 3) := by decide +kernel
theorem dL_law_214 : decode cL_law 214 = .ok (.if_icmp .eq 108, 3) := by decide +kernel
theorem dL_law_217 : decode cL_law 217 = .ok (.iconst 0, 1) := by decide +kernel
theorem dL_law_218 : decode cL_law 218 = .ok (.ireturn, 1) := by decide +kernel
theorem dL_law_219 : decode cL_law 219 = .ok (.aload_n 1, 1) := by decide +kernel
theorem dL_law_220 : decode cL_law 220 = .ok (.aload_n 0, 1) := by decide +kernel
theorem dL_law_221 : decode cL_law 221 = .ok (.iload_n 3, 1) := by decide +kernel
theorem dL_law_222 : decode cL_law 222 = .ok (.iconst 1, 1) := by decide +kernel
theorem dL_law_223 : decode cL_law 223 = .ok (.iadd, 1) := by decide +kernel
theorem dL_law_224 : decode cL_law 224 = .ok (.iaload, 1) := by decide +kernel
theorem dL_law_225 : decode cL_law 225 = .ok (.invokevirtual 37, 3) := by decide +kernel
theorem dL_law_228 : decode cL_law 228 = .ok (.aload_n 2, 1) := by decide +kernel
theorem dL_law_229 : decode cL_law 229 = .ok (.aload_n 0, 1) := by decide +kernel
theorem dL_law_230 : decode cL_law 230 = .ok (.iload_n 3, 1) := by decide +kernel
theorem dL_law_231 : decode cL_law 231 = .ok (.iconst 1, 1) := by decide +kernel
theorem dL_law_232 : decode cL_law 232 = .ok (.iadd, 1) := by decide +kernel
theorem dL_law_233 : decode cL_law 233 = .ok (.iaload, 1) := by decide +kernel
theorem dL_law_234 : decode cL_law 234 = .ok (.invokevirtual 40, 3) := by decide +kernel
theorem dL_law_237 : decode cL_law 237 = .ok (.if_icmp .eq 85, 3) := by decide +kernel
theorem dL_law_240 : decode cL_law 240 = .ok (.iconst 0, 1) := by decide +kernel
theorem dL_law_241 : decode cL_law 241 = .ok (.ireturn, 1) := by decide +kernel
theorem dL_law_242 : decode cL_law 242 = .ok (.aload_n 1, 1) := by decide +kernel
theorem dL_law_243 : decode cL_law 243 = .ok (.aload_n 0, 1) := by decide +kernel
theorem dL_law_244 : decode cL_law 244 = .ok (.iload_n 3, 1) := by decide +kernel
theorem dL_law_245 : decode cL_law 245 = .ok (.iconst 1, 1) := by decide +kernel
theorem dL_law_246 : decode cL_law 246 = .ok (.iadd, 1) := by decide +kernel
theorem dL_law_247 : decode cL_law 247 = .ok (.iaload, 1) := by decide +kernel
theorem dL_law_248 : decode cL_law 248 = .ok (.aload_n 0, 1) := by decide +kernel
theorem dL_law_249 : decode cL_law 249 = .ok (.iload_n 3, 1) := by decide +kernel
theorem dL_law_250 : decode cL_law 250 = .ok (.iconst 2, 1) := by decide +kernel
theorem dL_law_251 : decode cL_law 251 = .ok (.iadd, 1) := by decide +kernel
theorem dL_law_252 : decode cL_law 252 = .ok (.iaload, 1) := by decide +kernel
theorem dL_law_253 : decode cL_law 253 = .ok (.invokevirtual 41, 3) := by decide +kernel
theorem dL_law_256 : decode cL_law 256 = .ok (.aload_n 2, 1) := by decide +kernel
theorem dL_law_257 : decode cL_law 257 = .ok (.aload_n 0, 1) := by decide +kernel
theorem dL_law_258 : decode cL_law 258 = .ok (.iload_n 3, 1) := by decide +kernel
theorem dL_law_259 : decode cL_law 259 = .ok (.iconst 1, 1) := by decide +kernel
theorem dL_law_260 : decode cL_law 260 = .ok (.iadd, 1) := by decide +kernel
theorem dL_law_261 : decode cL_law 261 = .ok (.iaload, 1) := by decide +kernel
theorem dL_law_262 : decode cL_law 262 = .ok (.aload_n 0, 1) := by decide +kernel
theorem dL_law_263 : decode cL_law 263 = .ok (.iload_n 3, 1) := by decide +kernel
theorem dL_law_264 : decode cL_law 264 = .ok (.iconst 2, 1) := by decide +kernel
theorem dL_law_265 : decode cL_law 265 = .ok (.iadd, 1) := by decide +kernel
theorem dL_law_266 : decode cL_law 266 = .ok (.iaload, 1) := by decide +kernel
theorem dL_law_267 : decode cL_law 267 = .ok (.invokevirtual 44, 3) := by decide +kernel
theorem dL_law_270 : decode cL_law 270 = .ok (.if_icmp .eq 52, 3) := by decide +kernel
theorem dL_law_273 : decode cL_law 273 = .ok (.iconst 0, 1) := by decide +kernel
theorem dL_law_274 : decode cL_law 274 = .ok (.ireturn, 1) := by decide +kernel
theorem dL_law_275 : decode cL_law 275 = .ok (.aload_n 1, 1) := by decide +kernel
theorem dL_law_276 : decode cL_law 276 = .ok (.aload_n 0, 1) := by decide +kernel
theorem dL_law_277 : decode cL_law 277 = .ok (.iload_n 3, 1) := by decide +kernel
theorem dL_law_278 : decode cL_law 278 = .ok (.iconst 1, 1) := by decide +kernel
theorem dL_law_279 : decode cL_law 279 = .ok (.iadd, 1) := by decide +kernel
theorem dL_law_280 : decode cL_law 280 = .ok (.iaload, 1) := by decide +kernel
theorem dL_law_281 : decode cL_law 281 = .ok (.aload_n 0, 1) := by decide +kernel
theorem dL_law_282 : decode cL_law 282 = .ok (.iload_n 3, 1) := by decide +kernel
theorem dL_law_283 : decode cL_law 283 = .ok (.iconst 2, 1) := by decide +kernel
theorem dL_law_284 : decode cL_law 284 = .ok (.iadd, 1) := by decide +kernel
theorem dL_law_285 : decode cL_law 285 = .ok (.iaload, 1) := by decide +kernel
theorem dL_law_286 : decode cL_law 286 = .ok (.invokevirtual 45, 3) := by decide +kernel
theorem dL_law_289 : decode cL_law 289 = .ok (.aload_n 2, 1) := by decide +kernel
theorem dL_law_290 : decode cL_law 290 = .ok (.aload_n 0, 1) := by decide +kernel
theorem dL_law_291 : decode cL_law 291 = .ok (.iload_n 3, 1) := by decide +kernel
theorem dL_law_292 : decode cL_law 292 = .ok (.iconst 1, 1) := by decide +kernel
theorem dL_law_293 : decode cL_law 293 = .ok (.iadd, 1) := by decide +kernel
theorem dL_law_294 : decode cL_law 294 = .ok (.iaload, 1) := by decide +kernel
theorem dL_law_295 : decode cL_law 295 = .ok (.aload_n 0, 1) := by decide +kernel
theorem dL_law_296 : decode cL_law 296 = .ok (.iload_n 3, 1) := by decide +kernel
theorem dL_law_297 : decode cL_law 297 = .ok (.iconst 2, 1) := by decide +kernel
theorem dL_law_298 : decode cL_law 298 = .ok (.iadd, 1) := by decide +kernel
theorem dL_law_299 : decode cL_law 299 = .ok (.iaload, 1) := by decide +kernel
theorem dL_law_300 : decode cL_law 300 = .ok (.invokevirtual 49, 3) := by decide +kernel
theorem dL_law_303 : decode cL_law 303 = .ok (.lcmp, 1) := by decide +kernel
theorem dL_law_304 : decode cL_law 304 = .ok (.ifCond .eq 18, 3) := by decide +kernel
theorem dL_law_307 : decode cL_law 307 = .ok (.iconst 0, 1) := by decide +kernel
theorem dL_law_308 : decode cL_law 308 = .ok (.ireturn, 1) := by decide +kernel
theorem dL_law_309 : decode cL_law 309 = .ok (.aload_n 1, 1) := by decide +kernel
theorem dL_law_310 : decode cL_law 310 = .ok (.invokevirtual 50, 3) := by decide +kernel
theorem dL_law_313 : decode cL_law 313 = .ok (.aload_n 2, 1) := by decide +kernel
theorem dL_law_314 : decode cL_law 314 = .ok (.invokevirtual 53, 3) := by decide +kernel
theorem dL_law_317 : decode cL_law 317 = .ok (.if_icmp .eq 5, 3) := by decide +kernel
theorem dL_law_320 : decode cL_law 320 = .ok (.iconst 0, 1) := by decide +kernel
theorem dL_law_321 : decode cL_law 321 = .ok (.ireturn, 1) := by decide +kernel
theorem dL_law_322 : decode cL_law 322 = .ok (.iinc 3 4, 3) := by decide +kernel
theorem dL_law_325 : decode cL_law 325 = .ok (.goto (-307), 3) := by decide +kernel
theorem dL_law_328 : decode cL_law 328 = .ok (.iconst 1, 1) := by decide +kernel
theorem dL_law_329 : decode cL_law 329 = .ok (.ireturn, 1) := by decide +kernel
end
section
/-! MY WORDS FOR THE STATE, and rows of mine over the kit's: reads and writes at a natural place, ends of reading methods -/
section TK1
variable {p : Program} {l : Launch} {e : Env} {R : Room} {s : State} {m : MethodId} {args : Array Value} {below : List Frame} {meth : Method} {c : Code} {H : Heap} {locs : List Loc} {cells slots : Nat} {Q : State → Prop}
variable {cc : ByteArray} {pc : Nat} {ls : Array Slot} {rest : List Value} {D : va_G} {cl : List vw_C} {A : Nat → Prop} {a : Nat} {tys : List (ClassId × FieldType)} {ws : va_W} {H0 : Heap}
theorem tk_Q {g : JFrame} (h : ∀ Q' : State → Prop, Q' = Q → W p l e R s m args below meth c H locs cells slots Q' g) : W p l e R s m args below meth c H locs cells slots Q g := h Q rfl
theorem tk_top {x y : Int32} (h : x = y) (k : W p l e R s m args below meth c H locs cells slots Q (F0 m pc ls (.int y :: rest))) : W p l e R s m args below meth c H locs cells slots Q (F0 m pc ls (.int x :: rest)) := by
  rw [h]; exact k
theorem tk_topl {x y : Int64} (h : x = y) (k : W p l e R s m args below meth c H locs cells slots Q (F0 m pc ls (.long y :: rest))) : W p l e R s m args below meth c H locs cells slots Q (F0 m pc ls (.long x :: rest)) := by
  rw [h]; exact k
theorem tk_lcmp {x y : Int64} {v : Int32} (hx : p.tables.exec = Jvm.exec) (hb : c.code = cc) (hdg : decode cc pc = .ok (.lcmp, 1)) (hv : lg_cmp x y = v) (k : W p l e R s m args below meth c H locs cells slots Q (F0 m (pc + 1) ls (.int v :: rest))) : W p l e R s m args below meth c H locs cells slots Q (F0 m pc ls (.long y :: .long x :: rest)) := by
  refine W.lcmp hx hb hdg ?_
  rw [hv]; exact k
theorem tk_rdi (hx : p.tables.exec = Jvm.exec) (hb : c.code = cc) (hK : va_K D cl tys s) (hP : va_P D cl ws H) (q0 t0 : Nat) {cA : ClassId} {n : Nat} {f : Nat → Int32} (ha : ws[q0]? = some (a, .inl (cA, n, .inl f))) (ht : tys[t0]? = some (cA, .int)) (k : Nat) (hk : k < n) (hn : n < 2 ^ 31) {v : Int32} (hv : f k = v) (hdg : decode cc pc = .ok (.iaload, 1))
    (kk : W p l e R s m args below meth c H locs cells slots Q (F0 m (pc + 1) ls (.int v :: rest))) : W p l e R s m args below meth c H locs cells slots Q (F0 m pc ls (.int (nI k) :: .ref a :: rest)) := by
  refine va_iald hx hb hK hP q0 t0 ha ht (vp_in_nI hk hn) hdg ?_
  rw [nI_clamp (Nat.lt_trans hk hn), hv]; exact kk
theorem tk_rdz (hx : p.tables.exec = Jvm.exec) (hb : c.code = cc) (hK : va_K D cl tys s) (hP : va_P D cl ws H) (q0 t0 : Nat) {cA : ClassId} {n : Nat} {f : Nat → Int32} (ha : ws[q0]? = some (a, .inl (cA, n, .inl f))) (ht : tys[t0]? = some (cA, .boolean)) (k : Nat) (hk : k < n) (hn : n < 2 ^ 31) {v : Int32} (hv : f k = v) (hdg : decode cc pc = .ok (.baload, 1))
    (kk : W p l e R s m args below meth c H locs cells slots Q (F0 m (pc + 1) ls (.int v :: rest))) : W p l e R s m args below meth c H locs cells slots Q (F0 m pc ls (.int (nI k) :: .ref a :: rest)) := by
  refine va_zald hx hb hK hP q0 t0 ha ht (vp_in_nI hk hn) hdg ?_
  rw [nI_clamp (Nat.lt_trans hk hn), hv]; exact kk
theorem tk_rdl (hx : p.tables.exec = Jvm.exec) (hb : c.code = cc) (hK : va_K D cl tys s) (hP : va_P D cl ws H) (q0 t0 : Nat) {cA : ClassId} {n : Nat} {f : Nat → Int64} (ha : ws[q0]? = some (a, .inl (cA, n, .inr (.inl f)))) (ht : tys[t0]? = some (cA, .long)) (k : Nat) (hk : k < n) (hn : n < 2 ^ 31) {v : Int64} (hv : f k = v) (hdg : decode cc pc = .ok (.laload, 1))
    (kk : W p l e R s m args below meth c H locs cells slots Q (F0 m (pc + 1) ls (.long v :: rest))) : W p l e R s m args below meth c H locs cells slots Q (F0 m pc ls (.int (nI k) :: .ref a :: rest)) := by
  refine va_lald hx hb hK hP q0 t0 ha ht (vp_in_nI hk hn) hdg ?_
  rw [nI_clamp (Nat.lt_trans hk hn), hv]; exact kk
theorem tk_sti (hx : p.tables.exec = Jvm.exec) (hb : c.code = cc) (hK : va_K D cl tys s) (hP : va_P D cl ws H) (hD : va_D A ws) (hS : va_S A H0 H locs) (q0 t0 : Nat) {cA : ClassId} {n : Nat} {f : Nat → Int32} (ha : ws[q0]? = some (a, .inl (cA, n, .inl f))) (ht : tys[t0]? = some (cA, .int)) (k : Nat) (hk : k < n) (hn : n < 2 ^ 31) {x : Int32} (hdg : decode cc pc = .ok (.iastore, 1))
    (kk : ∀ (H1 : Heap) (locs1 : List Loc), va_P D cl (ws.set q0 (a, .inl (cA, n, .inl (upd f k x)))) H1 → va_D A (ws.set q0 (a, .inl (cA, n, .inl (upd f k x)))) → va_S A H0 H1 locs1 → W p l e R s m args below meth c H1 locs1 cells slots Q (F0 m (pc + 1) ls rest)) : W p l e R s m args below meth c H locs cells slots Q (F0 m pc ls (.int x :: .int (nI k) :: .ref a :: rest)) := by
  refine va_iast hx hb hK hP hD hS q0 t0 ha ht (vp_in_nI hk hn) hdg ?_
  rw [nI_clamp (Nat.lt_trans hk hn)]; exact kk
theorem tk_stz (hx : p.tables.exec = Jvm.exec) (hb : c.code = cc) (hK : va_K D cl tys s) (hP : va_P D cl ws H) (hD : va_D A ws) (hS : va_S A H0 H locs) (q0 t0 : Nat) {cA : ClassId} {n : Nat} {f : Nat → Int32} (ha : ws[q0]? = some (a, .inl (cA, n, .inl f))) (ht : tys[t0]? = some (cA, .boolean)) (k : Nat) (hk : k < n) (hn : n < 2 ^ 31) {x x' : Int32} (hv : vp_nar .boolean x = x') (hdg : decode cc pc = .ok (.bastore, 1))
    (kk : ∀ (H1 : Heap) (locs1 : List Loc), va_P D cl (ws.set q0 (a, .inl (cA, n, .inl (upd f k x')))) H1 → va_D A (ws.set q0 (a, .inl (cA, n, .inl (upd f k x')))) → va_S A H0 H1 locs1 → W p l e R s m args below meth c H1 locs1 cells slots Q (F0 m (pc + 1) ls rest)) : W p l e R s m args below meth c H locs cells slots Q (F0 m pc ls (.int x :: .int (nI k) :: .ref a :: rest)) := by
  refine va_zast hx hb hK hP hD hS q0 t0 ha ht (vp_in_nI hk hn) hdg ?_
  rw [nI_clamp (Nat.lt_trans hk hn), hv]; exact kk
theorem tk_stl (hx : p.tables.exec = Jvm.exec) (hb : c.code = cc) (hK : va_K D cl tys s) (hP : va_P D cl ws H) (hD : va_D A ws) (hS : va_S A H0 H locs) (q0 t0 : Nat) {cA : ClassId} {n : Nat} {f : Nat → Int64} (ha : ws[q0]? = some (a, .inl (cA, n, .inr (.inl f)))) (ht : tys[t0]? = some (cA, .long)) (k : Nat) (hk : k < n) (hn : n < 2 ^ 31) {x : Int64} (hdg : decode cc pc = .ok (.lastore, 1))
    (kk : ∀ (H1 : Heap) (locs1 : List Loc), va_P D cl (ws.set q0 (a, .inl (cA, n, .inr (.inl (vp_updL f k x))))) H1 → va_D A (ws.set q0 (a, .inl (cA, n, .inr (.inl (vp_updL f k x))))) → va_S A H0 H1 locs1 → W p l e R s m args below meth c H1 locs1 cells slots Q (F0 m (pc + 1) ls rest)) : W p l e R s m args below meth c H locs cells slots Q (F0 m pc ls (.long x :: .int (nI k) :: .ref a :: rest)) := by
  refine va_last hx hb hK hP hD hS q0 t0 ha ht (vp_in_nI hk hn) hdg ?_
  rw [nI_clamp (Nat.lt_trans hk hn)]; exact kk
theorem tk_iret {post : Int32 → Prop} {v : Int32} (hx : p.tables.exec = Jvm.exec) (hb : c.code = cc) (hr : meth.sig.returnType = some .int) (hlk : meth.locks = false) (hp : post v) (hdg : decode cc pc = .ok (.ireturn, 1)) : W p l e R s m args below meth c s.heap [] cells slots (MQ below (vp_Si post) args s cells slots (fun _ => False)) (F0 m pc ls [.int v]) :=
  W.iret hx hb hr (fun t ht _ => ⟨v, rfl, hp, ht⟩) (fun _ h => absurd h List.not_mem_nil) hdg hlk
theorem tk_zret {post : Int32 → Prop} {v : Int32} (hx : p.tables.exec = Jvm.exec) (hb : c.code = cc) (hr : meth.sig.returnType = some .boolean) (hlk : meth.locks = false) (hn : narrow .boolean (.int v) = .int v) (hp : post v) (hdg : decode cc pc = .ok (.ireturn, 1)) : W p l e R s m args below meth c s.heap [] cells slots (MQ below (vp_Si post) args s cells slots (fun _ => False)) (F0 m pc ls [.int v]) :=
  W.zret hx hb hr hn (fun t ht _ => ⟨v, rfl, hp, ht⟩) (fun _ h => absurd h List.not_mem_nil) hdg hlk
theorem tk_lret {post : Int64 → Prop} {v : Int64} (hx : p.tables.exec = Jvm.exec) (hb : c.code = cc) (hr : meth.sig.returnType = some .long) (hlk : meth.locks = false) (hp : post v) (hdg : decode cc pc = .ok (.lreturn, 1)) : W p l e R s m args below meth c s.heap [] cells slots (MQ below (vp_Sl post) args s cells slots (fun _ => False)) (F0 m pc ls [.long v]) :=
  W.lret hx hb hr (fun t ht _ => ⟨v, rfl, hp, ht⟩) (fun _ h => absurd h List.not_mem_nil) hdg hlk
end TK1
/-- the class's cells: the object, its eight arrays -/
abbrev tk_w0 (o : Nat) (q : Nat → Nat) (ca : Nat → ClassId) (aP aH aT aA aG aK aZ aS : Nat → Int32) (n : Nat) : va_W := [(o, .inr (0, [.ref (q 0), .ref (q 1), .ref (q 2), .ref (q 3), .ref (q 4), .ref (q 5), .ref (q 6), .ref (q 7), .int (nI n)])), (q 0, .inl (ca 0, 512, .inl aP)), (q 1, .inl (ca 1, 512, .inl aH)), (q 2, .inl (ca 2, 512, .inl aT)), (q 3, .inl (ca 3, 512, .inl aA)), (q 4, .inl (ca 4, 512, .inl aG)), (q 5, .inl (ca 5, 512, .inl aK)), (q 6, .inl (ca 6, 512, .inl aZ)), (q 7, .inl (ca 7, 7, .inl aS))]
abbrev tk_t0 (ca : Nat → ClassId) : List (ClassId × FieldType) := [(ca 0, .int), (ca 1, .int), (ca 2, .int), (ca 3, .int), (ca 4, .int), (ca 5, .int), (ca 6, .boolean), (ca 7, .int)]
/-- the reference's cells -/
abbrev tk_w1 (o : Nat) (q : Nat → Nat) (ca : Nat → ClassId) (aP aH aT aG : Nat → Int32) (aL : Nat → Int64) (aA aF aS : Nat → Int32) (n : Nat) : va_W := [(o, .inr (1, [.ref (q 0), .ref (q 1), .ref (q 2), .ref (q 3), .ref (q 4), .ref (q 5), .ref (q 6), .ref (q 7), .int (nI n)])), (q 0, .inl (ca 0, 512, .inl aP)), (q 1, .inl (ca 1, 512, .inl aH)), (q 2, .inl (ca 2, 512, .inl aT)), (q 3, .inl (ca 3, 512, .inl aG)), (q 4, .inl (ca 4, 512, .inr (.inl aL))), (q 5, .inl (ca 5, 512, .inl aA)), (q 6, .inl (ca 6, 512, .inl aF)), (q 7, .inl (ca 7, 7, .inl aS))]
abbrev tk_t1 (ca : Nat → ClassId) : List (ClassId × FieldType) := [(ca 0, .int), (ca 1, .int), (ca 2, .int), (ca 3, .int), (ca 4, .long), (ca 5, .int), (ca 6, .boolean), (ca 7, .int)]
/-- a reading method's start -/
abbrev tk_R (D : va_G) (w : va_W) (tys : List (ClassId × FieldType)) (av : List Value) : Array Value → State → Prop := va_Pc av (fun U => va_P D vwCl w U.heap ∧ va_K D vwCl tys U)
theorem tk_pre {D : va_G} {w : va_W} {tys : List (ClassId × FieldType)} {s : State} {H : Heap} {C : String} {T : u_T} {N ci o : Nat} {fs As : List Value} (hK : va_K D vwCl tys s) (hP : va_P D vwCl w H) (he : w[0]? = some (o, .inr (ci, fs))) (hc : vwCl[ci]? = some (C, T, N)) : PreV s H C o (tk_R D w tys (.ref o :: As)) As :=
  ⟨fun a U g mk q => ⟨q.1, q.2.1, va_K.moved (u := U) (U := U.calling g mk a) (Vm.Alike.refl U.vm) q.2.2⟩, va_recv hK hP hc he, fun U hU hW => ⟨rfl, by rw [hU]; exact hP, va_K.moved hW.alike hK⟩⟩
/-- a writing method's start and its end -/
abbrev tk_Wp (D : va_G) (w : va_W) (tys : List (ClassId × FieldType)) (sz : Nat) (av : List Value) : Array Value → State → Prop := va_Pc av (fun U => U.heap.size = sz ∧ va_P D vwCl w U.heap ∧ va_K D vwCl tys U ∧ va_D (fun _ => True) w)
abbrev tk_E (D : va_G) (tys : List (ClassId × FieldType)) (A : Nat → Prop) (w : va_W) (t : State) : Prop := va_P D vwCl w t.heap ∧ va_K D vwCl tys t ∧ va_D A w
theorem tk_preW {D : va_G} {w : va_W} {tys : List (ClassId × FieldType)} {s : State} {H : Heap} {C : String} {T : u_T} {N ci o : Nat} {fs As : List Value} {A : Nat → Prop} (hK : va_K D vwCl tys s) (hP : va_P D vwCl w H) (hD : va_D A w) (he : w[0]? = some (o, .inr (ci, fs))) (hc : vwCl[ci]? = some (C, T, N)) : PreV s H C o (tk_Wp D w tys H.size (.ref o :: As)) As :=
  ⟨fun a U g mk q => ⟨q.1, q.2.1, q.2.2.1, va_K.moved (u := U) (U := U.calling g mk a) (Vm.Alike.refl U.vm) q.2.2.2.1, q.2.2.2.2⟩, va_recv hK hP hc he, fun U hU hW => ⟨rfl, by rw [hU], by rw [hU]; exact hP, va_K.moved hW.alike hK, hD.weaken (fun _ _ _ _ => trivial)⟩⟩
/-! numbers -/
theorem tk_dec (n : Nat) : nI (n + 1) + Int32.ofInt (-1) = nI n := by
  rw [show Int32.ofInt (-1) = -1 from by decide +kernel]; exact pk_m1 n
theorem tk_inc (n : Nat) : nI n + Int32.ofInt 1 = nI (n + 1) := by
  rw [show Int32.ofInt 1 = 1 from by decide +kernel]; exact nI_1 n
theorem tk_le0 {n : Nat} (h : n < 2 ^ 31) : nI n ≤ 0 ↔ n = 0 := by
  constructor
  · intro h1
    rcases Nat.eq_zero_or_pos n with e | e
    · exact e
    · exact absurd h1 (nI_nle e h)
  · intro e; subst e; exact nI_le (Nat.le_refl _) (by decide)
theorem tk_add1 (n : Nat) : nI n + nI 1 = nI (n + 1) := nI_add n 1
theorem tk_sub1 (n : Nat) : nI (n + 1) - nI 1 = nI n := pk_sub (Nat.le_add_left 1 n)
def tk_mn (a b : Nat) : Nat := if b < a then b else a
theorem tk_mnI {a b : Nat} (ha : a < 2 ^ 31) (hb : b < 2 ^ 31) : (if nI b < nI a then nI b else nI a) = nI (tk_mn a b) := by
  unfold tk_mn
  by_cases h : b < a
  · rw [if_pos h, if_pos ((nI_ltI hb ha).mpr h)]
  · rw [if_neg h, if_neg (fun z => h ((nI_ltI hb ha).mp z))]
theorem tk_mn_le {a b : Nat} : tk_mn a b ≤ a ∧ tk_mn a b ≤ b := by
  unfold tk_mn; split <;> omega
/-! a block that exists -/
def tk_ex (n : Nat) (b : Int32) : Int32 := if b < 0 then 0 else if nI n ≤ b then 0 else 1
theorem tk_ex_t {n : Nat} {b : Int32} (hn : n ≤ 512) (h : ¬ tk_ex n b = 0) : ∃ j, j < n ∧ b = nI j := by
  rcases pk_ix b (n := n) (by omega) with h1 | h1 | h1
  · exact absurd (by unfold tk_ex; rw [if_pos h1]) h
  · exfalso; apply h; unfold tk_ex
    by_cases h2 : b < 0
    · rw [if_pos h2]
    · rw [if_neg h2, if_pos h1]
  · exact h1
theorem tk_ex_n {n j : Nat} (hn : n ≤ 512) (hj : j < n) : tk_ex n (nI j) = 1 := by
  unfold tk_ex
  rw [if_neg (nI_pos (by omega)), if_neg (nI_ge hj (by omega))]
theorem tk_10 : ¬ (1 : Int32) = 0 := by decide
theorem tk_cl {n j : Nat} (hn : n ≤ 512) (hj : j < n) : (nI j).toNatClampNeg = j := nI_clamp (by omega)
/-! the tree: parents pa, heights he -/
def tk_I (aP aH : Nat → Int32) (pa he : Nat → Nat) (n : Nat) : Prop := (1 ≤ n ∧ n ≤ 512) ∧ aP 0 = -2 ∧ he 0 = 0 ∧ (∀ i, i < n → aH i = nI (he i) ∧ he i ≤ i) ∧ (∀ i, 0 < i → i < n → aP i = nI (pa i) ∧ pa i < i ∧ he i = he (pa i) + 1)
theorem tk_up {aP aH : Nat → Int32} {pa he : Nat → Nat} {n i : Nat} (h : tk_I aP aH pa he n) (hi : i < n) (h0 : 0 < he i) : 0 < i ∧ aP i = nI (pa i) ∧ pa i < i ∧ he i = he (pa i) + 1 := by
  have h1 : 0 < i := by
    rcases Nat.eq_zero_or_pos i with e | e
    · subst e; rw [h.2.2.1] at h0; omega
    · exact e
  exact ⟨h1, h.2.2.2.2 i h1 hi⟩
theorem tk_h0 {aP aH : Nat → Int32} {pa he : Nat → Nat} {n i : Nat} (h : tk_I aP aH pa he n) (hi : i < n) (h0 : he i = 0) : i = 0 := by
  rcases Nat.eq_zero_or_pos i with e | e
  · exact e
  · have := (h.2.2.2.2 i e hi).2.2; omega
def tk_anc (pa : Nat → Nat) : Nat → Nat → Nat
  | 0, j => j
  | k + 1, j => tk_anc pa k (pa j)
theorem tk_anc_in {aP aH : Nat → Int32} {pa he : Nat → Nat} {n : Nat} (h : tk_I aP aH pa he n) : ∀ (k j : Nat), j < n → k ≤ he j → tk_anc pa k j ≤ j ∧ he (tk_anc pa k j) + k = he j := by
  intro k
  induction k with
  | zero => intro j hj hk; exact ⟨Nat.le_refl _, rfl⟩
  | succ k ih =>
    intro j hj hk
    obtain ⟨h1, h2, h3, h4⟩ := tk_up h hj (by omega)
    obtain ⟨h5, h6⟩ := ih (pa j) (by omega) (by omega)
    refine ⟨?_, ?_⟩
    · show tk_anc pa k (pa j) ≤ j
      omega
    · show he (tk_anc pa k (pa j)) + (k + 1) = he j
      omega
/-! where two part -/
def tk_fk (pa : Nat → Nat) : Nat → Nat → Nat → Nat
  | 0, a, _ => a
  | h + 1, a, b => if a = b then a else tk_fk pa h (pa a) (pa b)
def tk_fork (pa he : Nat → Nat) (a b : Nat) : Nat := tk_fk pa (tk_mn (he a) (he b)) (tk_anc pa (he a - tk_mn (he a) (he b)) a) (tk_anc pa (he b - tk_mn (he a) (he b)) b)
theorem tk_fk_same (pa : Nat → Nat) (h a : Nat) : tk_fk pa h a a = a := by
  cases h with
  | zero => rfl
  | succ h => show (if a = a then a else _) = a; rw [if_pos rfl]
theorem tk_fork_eq (pa he : Nat → Nat) (a : Nat) : tk_fork pa he a a = a := by
  have e : tk_mn (he a) (he a) = he a := by unfold tk_mn; split <;> rfl
  unfold tk_fork
  rw [e, Nat.sub_self]
  exact tk_fk_same pa (he a) a
theorem tk_fork_l {aP aH : Nat → Int32} {pa he : Nat → Nat} {n a b : Nat} (h : tk_I aP aH pa he n) (ha : a < n) (hb : b < n) (hne : a ≠ b) (hge : he b ≤ he a) : 0 < a ∧ tk_fork pa he (pa a) b = tk_fork pa he a b := by
  have hpos : 0 < he a := by
    rcases Nat.eq_zero_or_pos (he a) with e | e
    · exact absurd ((tk_h0 h ha e).trans (tk_h0 h hb (by omega)).symm) hne
    · exact e
  obtain ⟨h1, h2, h3, h4⟩ := tk_up h ha hpos
  refine ⟨h1, ?_⟩
  rcases Nat.lt_or_ge (he b) (he a) with hlt | hle
  · have e1 : tk_mn (he a) (he b) = he b := if_pos hlt
    have e2 : tk_mn (he (pa a)) (he b) = he b := by unfold tk_mn; split <;> omega
    have e3 : he a - he b = (he (pa a) - he b) + 1 := by omega
    unfold tk_fork
    rw [e1, e2, e3]; rfl
  · have e0 : he b = he (pa a) + 1 := by omega
    have e1 : tk_mn (he a) (he b) = he (pa a) + 1 := by unfold tk_mn; split <;> omega
    have e2 : tk_mn (he (pa a)) (he b) = he (pa a) := by unfold tk_mn; split <;> omega
    unfold tk_fork
    rw [e1, e2, e0, h4, Nat.sub_self, Nat.sub_self, Nat.add_sub_cancel_left]
    show tk_fk pa (he (pa a)) (pa a) (pa b) = (if a = b then a else tk_fk pa (he (pa a)) (pa a) (pa b))
    rw [if_neg hne]
theorem tk_fork_r {aP aH : Nat → Int32} {pa he : Nat → Nat} {n a b : Nat} (h : tk_I aP aH pa he n) (hb : b < n) (hlt : he a < he b) : 0 < b ∧ tk_fork pa he a (pa b) = tk_fork pa he a b := by
  obtain ⟨h1, h2, h3, h4⟩ := tk_up h hb (by omega)
  refine ⟨h1, ?_⟩
  have e1 : tk_mn (he a) (he b) = he a := by unfold tk_mn; split <;> omega
  have e2 : tk_mn (he a) (he (pa b)) = he a := by unfold tk_mn; split <;> omega
  have e3 : he b - he a = (he (pa b) - he a) + 1 := by omega
  unfold tk_fork
  rw [e1, e2, e3]; rfl
/-! within, and the target behind a block -/
def tk_wi (v lo hi : Int32) : Int32 := if lo < (if v < hi then v else hi) then (if v < hi then v else hi) else lo
theorem tk_eqI {x y : Int32} (h : x.toInt = y.toInt) : x = y := Int32.toInt_inj.mp h
theorem tk_wi_m {v lo hi : Int32} (h1 : lo ≤ v) (h2 : v ≤ hi) : tk_wi v lo hi = v := by
  rw [Int32.le_iff_toInt_le] at h1 h2
  unfold tk_wi
  by_cases h3 : v < hi
  · rw [if_pos h3]
    by_cases h4 : lo < v
    · rw [if_pos h4]
    · rw [if_neg h4]; rw [Int32.lt_iff_toInt_lt] at h4; exact tk_eqI (by omega)
  · rw [if_neg h3]
    rw [Int32.lt_iff_toInt_lt] at h3
    by_cases h4 : lo < hi
    · rw [if_pos h4]; exact tk_eqI (by omega)
    · rw [if_neg h4]; rw [Int32.lt_iff_toInt_lt] at h4; exact tk_eqI (by omega)
theorem tk_wi_h {v lo hi : Int32} (h0 : lo ≤ hi) (h2 : ¬ v ≤ hi) : tk_wi v lo hi = hi := by
  rw [Int32.le_iff_toInt_le] at h0 h2
  unfold tk_wi
  rw [if_neg (show ¬ v < hi from by rw [Int32.lt_iff_toInt_lt]; omega)]
  by_cases h4 : lo < hi
  · rw [if_pos h4]
  · rw [if_neg h4]; rw [Int32.lt_iff_toInt_lt] at h4; exact tk_eqI (by omega)
theorem tk_wi_l {v lo hi : Int32} (h0 : lo ≤ hi) (h1 : ¬ lo ≤ v) : tk_wi v lo hi = lo := by
  rw [Int32.le_iff_toInt_le] at h0 h1
  unfold tk_wi
  rw [if_pos (show v < hi from by rw [Int32.lt_iff_toInt_lt]; omega), if_neg (show ¬ lo < v from by rw [Int32.lt_iff_toInt_lt]; omega)]
theorem tk_wi_in {v lo hi : Int32} (h0 : lo ≤ hi) : lo ≤ tk_wi v lo hi ∧ tk_wi v lo hi ≤ hi := by
  by_cases h1 : lo ≤ v
  · by_cases h2 : v ≤ hi
    · rw [tk_wi_m h1 h2]; exact ⟨h1, h2⟩
    · rw [tk_wi_h h0 h2]; exact ⟨h0, Int32.le_refl _⟩
  · rw [tk_wi_l h0 h1]; exact ⟨Int32.le_refl _, h0⟩
def tk_tb (pa he : Nat → Nat) (aT aG : Nat → Int32) (j : Nat) : Int32 := if (he j + 1) % 8 = 0 then tk_wi (aG j * tk_wi (aT j - aT (tk_anc pa 7 j)) (nI 20) (nI 320) / nI 80) (nI 2048) (nI 65535) else aG j
def tk_G (aG : Nat → Int32) (n : Nat) : Prop := ∀ i, i < n → ∃ g, 2048 ≤ g ∧ g ≤ 65535 ∧ aG i = nI g
theorem tk_tb_in {pa he : Nat → Nat} {aT aG : Nat → Int32} {n j : Nat} (h : tk_G aG n) (hj : j < n) : ∃ g, 2048 ≤ g ∧ g ≤ 65535 ∧ tk_tb pa he aT aG j = nI g := by
  unfold tk_tb
  by_cases h1 : (he j + 1) % 8 = 0
  · rw [if_pos h1]
    obtain ⟨h2, h3⟩ := tk_wi_in (v := aG j * tk_wi (aT j - aT (tk_anc pa 7 j)) (nI 20) (nI 320) / nI 80) (lo := nI 2048) (hi := nI 65535) (by decide +kernel)
    generalize tk_wi (aG j * tk_wi (aT j - aT (tk_anc pa 7 j)) (nI 20) (nI 320) / nI 80) (nI 2048) (nI 65535) = z at h2 h3
    have h4 : ¬ z < 0 := by
      rw [Int32.le_iff_toInt_le, nI_toInt (by decide)] at h2
      rw [Int32.lt_iff_toInt_lt, Int32.toInt_zero]; omega
    obtain ⟨g, hg, rfl⟩ := nI_of2 (M := nI 65535) (n := 65535) (nI_toInt (by decide)) h4 h3
    exact ⟨g, (nI_leI (by decide) (by omega)).mp h2, hg, rfl⟩
  · rw [if_neg h1]; exact h j hj
/-! the median: an insertion into a sorted row -/
def tk_ins (t : Int32) : Nat → (Nat → Int32) → (Nat → Int32)
  | 0, S => upd S 0 t
  | k + 1, S => if t < S k then tk_ins t k (upd S (k + 1) (S k)) else upd S (k + 1) t
def tk_md (pa : Nat → Nat) (aT : Nat → Int32) : Nat → Nat → Nat → (Nat → Int32) → (Nat → Int32)
  | 0, _, _, S => S
  | c + 1, f, j, S => tk_md pa aT c (f + 1) (pa j) (tk_ins (aT j) f S)
def tk_mS (pa he : Nat → Nat) (aT : Nat → Int32) (j : Nat) (S : Nat → Int32) : Nat → Int32 := tk_md pa aT (tk_mn (he j + 1) 7) 0 j S
def tk_med (pa he : Nat → Nat) (aT : Nat → Int32) (j : Nat) (S : Nat → Int32) : Int32 := tk_mS pa he aT j S (tk_mn (he j + 1) 7 / 2)
/-! the best block -/
def tk_isb (wk : Nat → Nat) (aA : Nat → Int32) (a b : Nat) : Int32 := if wk b < wk a ∨ (wk b = wk a ∧ aA a < aA b) then 1 else 0
def tk_bs (aZ aA : Nat → Int32) (wk : Nat → Nat) : Nat → Nat → Nat → Nat
  | 0, _, f => f
  | c + 1, b, f => tk_bs aZ aA wk c (b + 1) (if aZ b = 0 ∧ (wk f < wk b ∨ (wk f = wk b ∧ aA b < aA f)) then b else f)
def tk_best (aZ aA : Nat → Int32) (wk : Nat → Nat) (n : Nat) : Nat := tk_bs aZ aA wk (n - 1) 1 0
def tk_Wk (aK : Nat → Int32) (wk : Nat → Nat) (n : Nat) : Prop := ∀ i, i < n → aK i = nI (wk i) ∧ wk i ≤ 8192 * i
/-! wrong blocks -/
def tk_wI (pa : Nat → Nat) (aF aZ : Nat → Int32) (n : Nat) : Prop := aZ 0 = 0 ∧ (∀ i, i < n → aZ i = 0 ∨ aZ i = 1) ∧ (∀ i, 0 < i → i < n → aZ i = if aF i = 0 then aZ (pa i) else 1)
def tk_rf (pa : Nat → Nat) : Nat → Nat → (Nat → Int32) → (Nat → Int32)
  | 0, _, Z => Z
  | c + 1, i, Z => tk_rf pa c (i + 1) (if Z (pa i) = 0 then Z else upd Z i 1)
theorem tk_rf_go {pa : Nat → Nat} {aF aZ : Nat → Int32} {n j : Nat} (hp : ∀ i, 0 < i → i < n → pa i < i) (hw : tk_wI pa aF aZ n) (hj : 0 < j) : ∀ (c i : Nat) (Z : Nat → Int32), i + c = n → j < i → Z 0 = 0 → (∀ x, x < n → Z x = 0 ∨ Z x = 1) → (∀ x, 0 < x → x < i → Z x = if upd aF j 1 x = 0 then Z (pa x) else 1) → (∀ x, i ≤ x → x < n → Z x = aZ x) → (∀ x, x < n → aZ x = 1 → Z x = 1) → tk_wI pa (upd aF j 1) (tk_rf pa c i Z) n := by
  intro c
  induction c with
  | zero =>
    intro i Z hi hji h0 h01 hlow hup hmono
    exact ⟨h0, h01, fun x hx hxn => hlow x hx (by omega)⟩
  | succ c ih =>
    intro i Z hi hji h0 h01 hlow hup hmono
    have hin : i < n := by omega
    have hpi : pa i < i := hp i (by omega) hin
    have hFi : upd aF j 1 i = aF i := pk_un (by omega)
    have hZi : Z i = if aF i = 0 then aZ (pa i) else 1 := (hup i (Nat.le_refl _) hin).trans (hw.2.2 i (by omega) hin)
    show tk_wI pa (upd aF j 1) (tk_rf pa c (i + 1) (if Z (pa i) = 0 then Z else upd Z i 1)) n
    by_cases hz : Z (pa i) = 0
    · rw [if_pos hz]
      refine ih (i + 1) Z (by omega) (by omega) h0 h01 ?_ (fun x hx hxn => hup x (by omega) hxn) hmono
      intro x hx hxi
      by_cases hxe : x = i
      · subst hxe
        rw [hFi, hz, hZi]
        have hZp : aZ (pa x) = 0 := by
          rcases hw.2.1 (pa x) (by omega) with h1 | h1
          · exact h1
          · exact absurd (hz.symm.trans (hmono (pa x) (by omega) h1)) (by decide)
        rw [hZp]
      · exact hlow x hx (by omega)
    · rw [if_neg hz]
      have hz1 : Z (pa i) = 1 := (h01 (pa i) (by omega)).resolve_left hz
      refine ih (i + 1) (upd Z i 1) (by omega) (by omega) ?_ ?_ ?_ ?_ ?_
      · rw [pk_un (by omega)]; exact h0
      · intro x hx
        by_cases hxe : x = i
        · subst hxe; exact Or.inr pk_us
        · rw [pk_un hxe]; exact h01 x hx
      · intro x hx hxi
        by_cases hxe : x = i
        · subst hxe
          rw [pk_us, hFi, pk_un (by omega), hz1]
          split <;> rfl
        · have hpx : pa x < x := hp x hx (by omega)
          rw [pk_un hxe, pk_un (f := Z) (show pa x ≠ i by omega)]
          exact hlow x hx (by omega)
      · intro x hx hxn
        rw [pk_un (by omega)]; exact hup x (by omega) hxn
      · intro x hx hx1
        by_cases hxe : x = i
        · subst hxe; exact pk_us
        · rw [pk_un hxe]; exact hmono x hx hx1
theorem tk_rf_ok {pa : Nat → Nat} {aF aZ : Nat → Int32} {n j : Nat} (hp : ∀ i, 0 < i → i < n → pa i < i) (hw : tk_wI pa aF aZ n) (hj : 0 < j) (hjn : j < n) : tk_wI pa (upd aF j 1) (tk_rf pa (n - (j + 1)) (j + 1) (upd aZ j 1)) n := by
  refine tk_rf_go hp hw hj (n - (j + 1)) (j + 1) (upd aZ j 1) (by omega) (by omega) ?_ ?_ ?_ ?_ ?_
  · rw [pk_un (by omega)]; exact hw.1
  · intro x hx
    by_cases hxe : x = j
    · subst hxe; exact Or.inr pk_us
    · rw [pk_un hxe]; exact hw.2.1 x hx
  · intro x hx hxj
    by_cases hxe : x = j
    · subst hxe
      rw [pk_us, pk_us, if_neg (by decide)]
    · have hpx : pa x < x := hp x hx (by omega)
      rw [pk_un hxe, pk_un hxe, pk_un (by omega)]
      exact hw.2.2 x hx (by omega)
  · intro x hx hxn
    exact pk_un (by omega)
  · intro x hx hx1
    by_cases hxe : x = j
    · subst hxe; exact pk_us
    · rw [pk_un hxe]; exact hx1
/-! small rows for the walks -/
theorem tk_eq0 {k : Nat} (h : k < 2 ^ 31) : nI k = 0 ↔ k = 0 := nI_eq h (by decide)
theorem tk_nlt {x y : Int32} (h : y ≤ x) : ¬ x < y := by
  rw [Int32.le_iff_toInt_le] at h; rw [Int32.lt_iff_toInt_lt]; omega
theorem tk_ltn {x y : Int32} (h : ¬ y ≤ x) : x < y := by
  rw [Int32.le_iff_toInt_le] at h; rw [Int32.lt_iff_toInt_lt]; omega
theorem tk_isb_1 {wk : Nat → Nat} {aA : Nat → Int32} {a b : Nat} (h : wk b < wk a) : tk_isb wk aA a b = 1 := if_pos (Or.inl h)
theorem tk_isb_2 {wk : Nat → Nat} {aA : Nat → Int32} {a b : Nat} (h : wk b = wk a) (h2 : aA a < aA b) : tk_isb wk aA a b = 1 := if_pos (Or.inr ⟨h, h2⟩)
theorem tk_isb_3 {wk : Nat → Nat} {aA : Nat → Int32} {a b : Nat} (h : wk a < wk b) : tk_isb wk aA a b = 0 := if_neg (fun z => by rcases z with z | z <;> omega)
theorem tk_isb_4 {wk : Nat → Nat} {aA : Nat → Int32} {a b : Nat} (h : wk b = wk a) (h2 : ¬ aA a < aA b) : tk_isb wk aA a b = 0 := if_neg (fun z => by
  rcases z with z | z
  · omega
  · exact h2 z.2)
theorem tk_isb_0 {wk : Nat → Nat} {aA : Nat → Int32} {a b : Nat} (h : tk_isb wk aA a b = 0) : ¬ (wk b < wk a ∨ (wk b = wk a ∧ aA a < aA b)) := fun z => by
  rw [show tk_isb wk aA a b = 1 from if_pos z] at h; exact absurd h (by decide)
theorem tk_isb_ne {wk : Nat → Nat} {aA : Nat → Int32} {a b : Nat} (h : ¬ tk_isb wk aA a b = 0) : wk b < wk a ∨ (wk b = wk a ∧ aA a < aA b) := by
  by_cases z : wk b < wk a ∨ (wk b = wk a ∧ aA a < aA b)
  · exact z
  · exact absurd (if_neg z) h
theorem tk_bs_no {aZ aA : Nat → Int32} {wk : Nat → Nat} {c b f : Nat} (h : ¬ (aZ b = 0 ∧ (wk f < wk b ∨ (wk f = wk b ∧ aA b < aA f)))) : tk_bs aZ aA wk (c + 1) b f = tk_bs aZ aA wk c (b + 1) f := by
  show tk_bs aZ aA wk c (b + 1) (if aZ b = 0 ∧ (wk f < wk b ∨ (wk f = wk b ∧ aA b < aA f)) then b else f) = _
  rw [if_neg h]
theorem tk_bs_yes {aZ aA : Nat → Int32} {wk : Nat → Nat} {c b f : Nat} (h : aZ b = 0 ∧ (wk f < wk b ∨ (wk f = wk b ∧ aA b < aA f))) : tk_bs aZ aA wk (c + 1) b f = tk_bs aZ aA wk c (b + 1) b := by
  show tk_bs aZ aA wk c (b + 1) (if aZ b = 0 ∧ (wk f < wk b ∨ (wk f = wk b ∧ aA b < aA f)) then b else f) = _
  rw [if_pos h]
theorem tk_fk_t {pa : Nat → Nat} {h a b : Nat} (e : a = b) : tk_fk pa (h + 1) a b = a := by
  show (if a = b then a else tk_fk pa h (pa a) (pa b)) = a
  rw [if_pos e]
theorem tk_fk_f {pa : Nat → Nat} {h a b : Nat} (e : ¬ a = b) : tk_fk pa (h + 1) a b = tk_fk pa h (pa a) (pa b) := by
  show (if a = b then a else tk_fk pa h (pa a) (pa b)) = _
  rw [if_neg e]
/-! the public answers -/
def tk_pb (n : Nat) (b : Int32) (f : Nat → Int32) : Int32 := if tk_ex n b = 0 then -2 else f b.toNatClampNeg
theorem tk_pb0 {n : Nat} {b : Int32} {f : Nat → Int32} (h : tk_ex n b = 0) : tk_pb n b f = -2 := if_pos h
theorem tk_exn {n j : Nat} (hn : n ≤ 512) (hj : j < n) : ¬ tk_ex n (nI j) = 0 := by rw [tk_ex_n hn hj]; exact tk_10
theorem tk_pbn {n j : Nat} {f : Nat → Int32} (hn : n ≤ 512) (hj : j < n) : tk_pb n (nI j) f = f j := by
  unfold tk_pb; rw [if_neg (tk_exn hn hj), tk_cl hn hj]
def tk_an (pa he : Nat → Nat) (n : Nat) (b t : Int32) : Int32 := if tk_ex n b = 0 then -2 else if t < 0 then -2 else if t ≤ nI (he b.toNatClampNeg) then nI (tk_anc pa (he b.toNatClampNeg - t.toNatClampNeg) b.toNatClampNeg) else -2
theorem tk_an0 {pa he : Nat → Nat} {n : Nat} {b t : Int32} (h : tk_ex n b = 0) : tk_an pa he n b t = -2 := if_pos h
theorem tk_an1 {pa he : Nat → Nat} {n : Nat} {b t : Int32} (h : t < 0) : tk_an pa he n b t = -2 := by
  unfold tk_an; rw [if_pos h]; split <;> rfl
theorem tk_an2 {pa he : Nat → Nat} {n j : Nat} {t : Int32} (hn : n ≤ 512) (hj : j < n) (h : ¬ t ≤ nI (he j)) : tk_an pa he n (nI j) t = -2 := by
  unfold tk_an; rw [if_neg (tk_exn hn hj), tk_cl hn hj, if_neg h]; split <;> rfl
theorem tk_an3 {pa he : Nat → Nat} {n j t : Nat} (hn : n ≤ 512) (hj : j < n) (ht : t < 2 ^ 31) (h : t ≤ he j) (hh : he j < 2 ^ 31 := by omega) : tk_an pa he n (nI j) (nI t) = nI (tk_anc pa (he j - t) j) := by
  unfold tk_an; rw [if_neg (tk_exn hn hj), tk_cl hn hj, if_neg (nI_pos ht), if_pos ((nI_leI ht hh).mpr h), nI_clamp ht]
def tk_fr (pa he : Nat → Nat) (n : Nat) (b1 b2 : Int32) : Int32 := if tk_ex n b1 = 0 then -2 else if tk_ex n b2 = 0 then -2 else nI (tk_fork pa he b1.toNatClampNeg b2.toNatClampNeg)
theorem tk_fr0 {pa he : Nat → Nat} {n : Nat} {b1 b2 : Int32} (h : tk_ex n b1 = 0) : tk_fr pa he n b1 b2 = -2 := if_pos h
theorem tk_fr1 {pa he : Nat → Nat} {n : Nat} {b1 b2 : Int32} (h : tk_ex n b2 = 0) : tk_fr pa he n b1 b2 = -2 := by
  unfold tk_fr; rw [if_pos h]; split <;> rfl
theorem tk_fr2 {pa he : Nat → Nat} {n i j : Nat} (hn : n ≤ 512) (hi : i < n) (hj : j < n) : tk_fr pa he n (nI i) (nI j) = nI (tk_fork pa he i j) := by
  unfold tk_fr; rw [if_neg (tk_exn hn hi), if_neg (tk_exn hn hj), tk_cl hn hi, tk_cl hn hj]
def tk_lkj (aH aP aT aG aK aZ : Nat → Int32) (j : Nat) (w : Int32) : Int64 := if w = nI 0 then (aH j).toInt64 else if w = nI 1 then (aP j).toInt64 else if w = nI 2 then (aT j).toInt64 else if w = nI 3 then (aG j).toInt64 else if w = nI 4 then (aK j).toInt64 else if aZ j = 0 then 0 else 1
def tk_lk (aH aP aT aG aK aZ : Nat → Int32) (n : Nat) (b w : Int32) : Int64 := if w < 0 then -1 else if w ≤ nI 5 then (if tk_ex n b = 0 then -2 else tk_lkj aH aP aT aG aK aZ b.toNatClampNeg w) else -1
section TK2
variable {aH aP aT aG aK aZ : Nat → Int32} {n j : Nat} {b w : Int32}
theorem tk_lk_a (h : w < 0) : tk_lk aH aP aT aG aK aZ n b w = -1 := if_pos h
theorem tk_lk_b (h : ¬ w < 0) (h2 : ¬ w ≤ nI 5) : tk_lk aH aP aT aG aK aZ n b w = -1 := by unfold tk_lk; rw [if_neg h, if_neg h2]
theorem tk_lk_c (h : ¬ w < 0) (h2 : w ≤ nI 5) (h3 : tk_ex n b = 0) : tk_lk aH aP aT aG aK aZ n b w = -2 := by unfold tk_lk; rw [if_neg h, if_pos h2, if_pos h3]
theorem tk_lk_k (hn : n ≤ 512) (hj : j < n) {k : Nat} (hk : k ≤ 5) : tk_lk aH aP aT aG aK aZ n (nI j) (nI k) = tk_lkj aH aP aT aG aK aZ j (nI k) := by
  unfold tk_lk; rw [if_neg (nI_pos (by omega)), if_pos (nI_le hk (by decide)), if_neg (tk_exn hn hj), tk_cl hn hj]
theorem tk_lk_0 (hn : n ≤ 512) (hj : j < n) : tk_lk aH aP aT aG aK aZ n (nI j) (nI 0) = (aH j).toInt64 := (tk_lk_k hn hj (by decide)).trans (if_pos rfl)
theorem tk_lk_1 (hn : n ≤ 512) (hj : j < n) : tk_lk aH aP aT aG aK aZ n (nI j) (nI 1) = (aP j).toInt64 := (tk_lk_k hn hj (by decide)).trans (by unfold tk_lkj; rw [if_neg (by decide +kernel), if_pos rfl])
theorem tk_lk_2 (hn : n ≤ 512) (hj : j < n) : tk_lk aH aP aT aG aK aZ n (nI j) (nI 2) = (aT j).toInt64 := (tk_lk_k hn hj (by decide)).trans (by unfold tk_lkj; rw [if_neg (by decide +kernel), if_neg (by decide +kernel), if_pos rfl])
theorem tk_lk_3 (hn : n ≤ 512) (hj : j < n) : tk_lk aH aP aT aG aK aZ n (nI j) (nI 3) = (aG j).toInt64 := (tk_lk_k hn hj (by decide)).trans (by unfold tk_lkj; rw [if_neg (by decide +kernel), if_neg (by decide +kernel), if_neg (by decide +kernel), if_pos rfl])
theorem tk_lk_4 (hn : n ≤ 512) (hj : j < n) : tk_lk aH aP aT aG aK aZ n (nI j) (nI 4) = (aK j).toInt64 := (tk_lk_k hn hj (by decide)).trans (by unfold tk_lkj; rw [if_neg (by decide +kernel), if_neg (by decide +kernel), if_neg (by decide +kernel), if_neg (by decide +kernel), if_pos rfl])
theorem tk_lk_5 (hn : n ≤ 512) (hj : j < n) (h : aZ j = 0) : tk_lk aH aP aT aG aK aZ n (nI j) (nI 5) = 0 := (tk_lk_k hn hj (by decide)).trans (by unfold tk_lkj; rw [if_neg (by decide +kernel), if_neg (by decide +kernel), if_neg (by decide +kernel), if_neg (by decide +kernel), if_neg (by decide +kernel), if_pos h])
theorem tk_lk_6 (hn : n ≤ 512) (hj : j < n) (h : ¬ aZ j = 0) : tk_lk aH aP aT aG aK aZ n (nI j) (nI 5) = 1 := (tk_lk_k hn hj (by decide)).trans (by unfold tk_lkj; rw [if_neg (by decide +kernel), if_neg (by decide +kernel), if_neg (by decide +kernel), if_neg (by decide +kernel), if_neg (by decide +kernel), if_neg h])
end TK2
theorem tk_ins_t {tm : Int32} {k : Nat} {S : Nat → Int32} (h : tm < S k) : tk_ins tm (k + 1) S = tk_ins tm k (upd S (k + 1) (S k)) := by
  show (if tm < S k then tk_ins tm k (upd S (k + 1) (S k)) else upd S (k + 1) tm) = _
  rw [if_pos h]
theorem tk_ins_f {tm : Int32} {k : Nat} {S : Nat → Int32} (h : ¬ tm < S k) : tk_ins tm (k + 1) S = upd S (k + 1) tm := by
  show (if tm < S k then tk_ins tm k (upd S (k + 1) (S k)) else upd S (k + 1) tm) = _
  rw [if_neg h]
def tk_mb (pa he : Nat → Nat) (aT : Nat → Int32) (n : Nat) (b : Int32) (S : Nat → Int32) : Nat → Int32 := if tk_ex n b = 0 then S else tk_mS pa he aT b.toNatClampNeg S
theorem tk_mb0 {pa he : Nat → Nat} {aT S : Nat → Int32} {n : Nat} {b : Int32} (h : tk_ex n b = 0) : tk_mb pa he aT n b S = S := if_pos h
theorem tk_mbn {pa he : Nat → Nat} {aT S : Nat → Int32} {n j : Nat} (hn : n ≤ 512) (hj : j < n) : tk_mb pa he aT n (nI j) S = tk_mS pa he aT j S := by
  unfold tk_mb; rw [if_neg (tk_exn hn hj), tk_cl hn hj]
theorem tk_rf_n {pa : Nat → Nat} {c i : Nat} {Z : Nat → Int32} (h : Z (pa i) = 0) : tk_rf pa (c + 1) i Z = tk_rf pa c (i + 1) Z := by
  show tk_rf pa c (i + 1) (if Z (pa i) = 0 then Z else upd Z i 1) = _
  rw [if_pos h]
theorem tk_rf_y {pa : Nat → Nat} {c i : Nat} {Z : Nat → Int32} (h : ¬ Z (pa i) = 0) : tk_rf pa (c + 1) i Z = tk_rf pa c (i + 1) (upd Z i 1) := by
  show tk_rf pa c (i + 1) (if Z (pa i) = 0 then Z else upd Z i 1) = _
  rw [if_neg h]
theorem tk_nar {x : Int32} (h : x = 0 ∨ x = 1) : vp_nar .boolean x = x := by
  rcases h with rfl | rfl <;> decide +kernel
def tk_WL (aL : Nat → Int64) (wk : Nat → Nat) (n : Nat) : Prop := ∀ i, i < n → aL i = lN (wk i) ∧ wk i ≤ 8192 * i
theorem tk_cmp_gt {a b : Nat} (ha : a < 2 ^ 31) (hb : b < 2 ^ 31) : 0 < lg_cmp (lN a) (lN b) ↔ b < a := by
  unfold lg_cmp
  by_cases h : b < a
  · rw [if_pos ((lN_lt hb ha).mpr h)]; exact ⟨fun _ => h, fun _ => by decide⟩
  · rw [if_neg (fun z => h ((lN_lt hb ha).mp z))]
    by_cases e : lN a = lN b
    · rw [if_pos e]; exact ⟨fun z => absurd z (by decide), fun z => absurd z h⟩
    · rw [if_neg e]; exact ⟨fun z => absurd z (by decide), fun z => absurd z h⟩
theorem tk_cmp_eq {a b : Nat} (ha : a < 2 ^ 31) (hb : b < 2 ^ 31) : lg_cmp (lN a) (lN b) = 0 ↔ a = b := by
  unfold lg_cmp
  by_cases h : b < a
  · rw [if_pos ((lN_lt hb ha).mpr h)]; exact ⟨fun z => absurd z (by decide), fun z => by omega⟩
  · rw [if_neg (fun z => h ((lN_lt hb ha).mp z))]
    by_cases e : lN a = lN b
    · rw [if_pos e]; exact ⟨fun _ => (lN_eq ha hb).mp e, fun _ => rfl⟩
    · rw [if_neg e]; exact ⟨fun z => absurd z (by decide), fun z => absurd ((lN_eq ha hb).mpr z) e⟩
theorem tk_mn_or (a b : Nat) : tk_mn a b = a ∨ tk_mn a b = b := by
  unfold tk_mn; split
  · exact Or.inr rfl
  · exact Or.inl rfl
theorem tk_tb_ext {aP aH : Nat → Int32} {pa he : Nat → Nat} {aT aT' aG : Nat → Int32} {n j : Nat} (h : tk_I aP aH pa he n) (hj : j < n) (ht : ∀ i, i < n → aT' i = aT i) : tk_tb pa he aT' aG j = tk_tb pa he aT aG j := by
  unfold tk_tb
  by_cases h1 : (he j + 1) % 8 = 0
  · obtain ⟨h2, h3⟩ := tk_anc_in h 7 j hj (by omega)
    rw [if_pos h1, if_pos h1, ht j hj, ht (tk_anc pa 7 j) (by omega)]
  · rw [if_neg h1, if_neg h1]
theorem tk_I_ext {aP aH aP' aH' : Nat → Int32} {pa he : Nat → Nat} {n : Nat} (h : tk_I aP aH pa he n) (hp : ∀ i, i < n → aP' i = aP i) (hh : ∀ i, i < n → aH' i = aH i) : tk_I aP' aH' pa he n :=
  ⟨h.1, (hp 0 h.1.1).trans h.2.1, h.2.2.1, fun i hi => ⟨(hh i hi).trans (h.2.2.2.1 i hi).1, (h.2.2.2.1 i hi).2⟩, fun i h0 hi => ⟨(hp i hi).trans (h.2.2.2.2 i h0 hi).1, (h.2.2.2.2 i h0 hi).2⟩⟩
end
section
set_option maxHeartbeats 4000000 in
set_option maxRecDepth 100000 in
theorem c0_exists (l : Launch) (dC : Nat → ClassId) (dI : Nat → Nat → Nat) (o : Nat) (q : Nat → Nat) (ca : Nat → ClassId) (aP aH aT aA aG aK aZ aS : Nat → Int32) (n : Nat) (b : Int32) : Met l yX0_exists wsX0_exists ({ frames := 0, cells := 0, slots := 0, locals := 0 }) (tk_R (dC, dI) (tk_w0 o q ca aP aH aT aA aG aK aZ aS n) (tk_t0 ca) [.ref o, .int b]) (vp_Si (fun r => r = tk_ex n b)) 0 0 (fun _ => False) := by
  refine Met.ofW (cc := cX0_exists) (maxL := 2) (ret := (some .boolean)) (by decide) rfl ?_
  intro p e s m args below meth c s₁ B hml hv
  obtain ⟨rfl, hP, hK⟩ := hv
  have hx := B.exec
  have hb := B.bytes
  have hr := B.returns
  have hts := atoms_spec (ws := wsX0_exists) B.pre
  have hown : s.vm.findClass RX0 = some m.cls := findClass_of_methodNamed B.named
  have hlocks := B.notSynchronized
  have hin0 : ∀ w ∈ u_ws RX0 TX0 9, w ∈ wsX0_exists := by decide +kernel
  have fl36 := hts (.fieldLink RX0 36 "WorkTree" "count" "I") (by decide +kernel)
  have hl := lv_entry ([.ref o, .int b]) (n := 2) (Nat.le_of_ble_eq_true rfl)
  rw [lg_entry_eq]
  generalize (lg_sl ([.ref o, .int b]) ++ List.replicate (2 - (lg_sl ([.ref o, .int b])).length) Slot.unset).toArray = ls at hl ⊢
  have hl : lv_has ls 2 [(0, .ref o), (1, .int b)] := hl
  refine tk_Q (fun Q hQ => ?_)
  refine lv_iload_n hx hb dX0_exists_0 rfl (lv_at hl 1 rfl) ?_
  refine lv_if_lt (tgt := 16) hx hb dX0_exists_1 (by decide) (fun hc1 => ?_) (fun hc1 => ?_)
  · refine lv_iconst (v := 0) hx hb dX0_exists_16 (by decide +kernel) ?_
    subst hQ
    exact tk_zret hx hb hr hlocks rfl (show (0 : Int32) = tk_ex n b from by unfold tk_ex; rw [if_pos hc1]) dX0_exists_17
  · refine lv_iload_n hx hb dX0_exists_4 rfl (lv_at hl 1 rfl) ?_
    refine lv_aload_n hx hb dX0_exists_5 rfl (lv_at hl 0 rfl) ?_
    refine va_get (D := (dC, dI)) (ci := 0) (v := .int (nI n)) (C := RX0) (T := TX0) (N := 9) hx hb hts hin0 hown hK hP 0 rfl rfl 8 (by decide) fl36 (fun _ h9 => h9) rfl dX0_exists_6 ?_
    refine lv_icmp_ge (tgt := 16) hx hb dX0_exists_9 (by decide) (fun hc9 => ?_) (fun hc9 => ?_)
    · refine lv_iconst (v := 0) hx hb dX0_exists_16 (by decide +kernel) ?_
      subst hQ
      exact tk_zret hx hb hr hlocks rfl (show (0 : Int32) = tk_ex n b from by unfold tk_ex; rw [if_neg hc1, if_pos hc9]) dX0_exists_17
    · refine lv_iconst (v := 1) hx hb dX0_exists_12 (by decide +kernel) ?_
      refine lv_goto (tgt := 17) hx hb dX0_exists_13 (by decide) ?_
      subst hQ
      exact tk_zret hx hb hr hlocks rfl (show (1 : Int32) = tk_ex n b from by unfold tk_ex; rw [if_neg hc1, if_neg hc9]) dX0_exists_17
set_option maxHeartbeats 4000000 in
set_option maxRecDepth 100000 in
theorem c1_is (l : Launch) (dC : Nat → ClassId) (dI : Nat → Nat → Nat) (o : Nat) (q : Nat → Nat) (ca : Nat → ClassId) (aP aH aT aG : Nat → Int32) (aL : Nat → Int64) (aA aF aS : Nat → Int32) (n : Nat) (b : Int32) : Met l yX1_is wsX1_is ({ frames := 0, cells := 0, slots := 0, locals := 0 }) (tk_R (dC, dI) (tk_w1 o q ca aP aH aT aG aL aA aF aS n) (tk_t1 ca) [.ref o, .int b]) (vp_Si (fun r => r = tk_ex n b)) 0 0 (fun _ => False) := by
  refine Met.ofW (cc := cX1_is) (maxL := 2) (ret := (some .boolean)) (by decide) rfl ?_
  intro p e s m args below meth c s₁ B hml hv
  obtain ⟨rfl, hP, hK⟩ := hv
  have hx := B.exec
  have hb := B.bytes
  have hr := B.returns
  have hts := atoms_spec (ws := wsX1_is) B.pre
  have hown : s.vm.findClass RX1 = some m.cls := findClass_of_methodNamed B.named
  have hlocks := B.notSynchronized
  have hin0 : ∀ w ∈ u_ws RX1 TX1 9, w ∈ wsX1_is := by decide +kernel
  have fl36 := hts (.fieldLink RX1 36 "WorkTreeModel" "count" "I") (by decide +kernel)
  have hl := lv_entry ([.ref o, .int b]) (n := 2) (Nat.le_of_ble_eq_true rfl)
  rw [lg_entry_eq]
  generalize (lg_sl ([.ref o, .int b]) ++ List.replicate (2 - (lg_sl ([.ref o, .int b])).length) Slot.unset).toArray = ls at hl ⊢
  have hl : lv_has ls 2 [(0, .ref o), (1, .int b)] := hl
  refine tk_Q (fun Q hQ => ?_)
  refine lv_iload_n hx hb dX1_is_0 rfl (lv_at hl 1 rfl) ?_
  refine lv_if_lt (tgt := 16) hx hb dX1_is_1 (by decide) (fun hc1 => ?_) (fun hc1 => ?_)
  · refine lv_iconst (v := 0) hx hb dX1_is_16 (by decide +kernel) ?_
    subst hQ
    exact tk_zret hx hb hr hlocks rfl (show (0 : Int32) = tk_ex n b from by unfold tk_ex; rw [if_pos hc1]) dX1_is_17
  · refine lv_iload_n hx hb dX1_is_4 rfl (lv_at hl 1 rfl) ?_
    refine lv_aload_n hx hb dX1_is_5 rfl (lv_at hl 0 rfl) ?_
    refine va_get (D := (dC, dI)) (ci := 1) (v := .int (nI n)) (C := RX1) (T := TX1) (N := 9) hx hb hts hin0 hown hK hP 0 rfl rfl 8 (by decide) fl36 (fun _ h9 => h9) rfl dX1_is_6 ?_
    refine lv_icmp_ge (tgt := 16) hx hb dX1_is_9 (by decide) (fun hc9 => ?_) (fun hc9 => ?_)
    · refine lv_iconst (v := 0) hx hb dX1_is_16 (by decide +kernel) ?_
      subst hQ
      exact tk_zret hx hb hr hlocks rfl (show (0 : Int32) = tk_ex n b from by unfold tk_ex; rw [if_neg hc1, if_pos hc9]) dX1_is_17
    · refine lv_iconst (v := 1) hx hb dX1_is_12 (by decide +kernel) ?_
      refine lv_goto (tgt := 17) hx hb dX1_is_13 (by decide) ?_
      subst hQ
      exact tk_zret hx hb hr hlocks rfl (show (1 : Int32) = tk_ex n b from by unfold tk_ex; rw [if_neg hc1, if_neg hc9]) dX1_is_17
set_option maxHeartbeats 4000000 in
set_option maxRecDepth 100000 in
theorem c0_blocks (l : Launch) (dC : Nat → ClassId) (dI : Nat → Nat → Nat) (o : Nat) (q : Nat → Nat) (ca : Nat → ClassId) (aP aH aT aA aG aK aZ aS : Nat → Int32) (n : Nat)  : Met l yX0_blocks wsX0_blocks ({ frames := 0, cells := 0, slots := 0, locals := 0 }) (tk_R (dC, dI) (tk_w0 o q ca aP aH aT aA aG aK aZ aS n) (tk_t0 ca) [.ref o]) (vp_Si (fun r => r = nI n)) 0 0 (fun _ => False) := by
  refine Met.ofW (cc := cX0_blocks) (maxL := 1) (ret := (some .int)) (by decide) rfl ?_
  intro p e s m args below meth c s₁ B hml hv
  obtain ⟨rfl, hP, hK⟩ := hv
  have hx := B.exec
  have hb := B.bytes
  have hr := B.returns
  have hts := atoms_spec (ws := wsX0_blocks) B.pre
  have hown : s.vm.findClass RX0 = some m.cls := findClass_of_methodNamed B.named
  have hlocks := B.notSynchronized
  have hin0 : ∀ w ∈ u_ws RX0 TX0 9, w ∈ wsX0_blocks := by decide +kernel
  have fl36 := hts (.fieldLink RX0 36 "WorkTree" "count" "I") (by decide +kernel)
  have hl := lv_entry ([.ref o]) (n := 1) (Nat.le_of_ble_eq_true rfl)
  rw [lg_entry_eq]
  generalize (lg_sl ([.ref o]) ++ List.replicate (1 - (lg_sl ([.ref o])).length) Slot.unset).toArray = ls at hl ⊢
  have hl : lv_has ls 1 [(0, .ref o)] := hl
  refine tk_Q (fun Q hQ => ?_)
  refine lv_aload_n hx hb dX0_blocks_0 rfl (lv_at hl 0 rfl) ?_
  refine va_get (D := (dC, dI)) (ci := 0) (v := .int (nI n)) (C := RX0) (T := TX0) (N := 9) hx hb hts hin0 hown hK hP 0 rfl rfl 8 (by decide) fl36 (fun _ h9 => h9) rfl dX0_blocks_1 ?_
  subst hQ
  exact tk_iret hx hb hr hlocks rfl dX0_blocks_4
set_option maxHeartbeats 4000000 in
set_option maxRecDepth 100000 in
theorem c1_blocks (l : Launch) (dC : Nat → ClassId) (dI : Nat → Nat → Nat) (o : Nat) (q : Nat → Nat) (ca : Nat → ClassId) (aP aH aT aG : Nat → Int32) (aL : Nat → Int64) (aA aF aS : Nat → Int32) (n : Nat)  : Met l yX1_blocks wsX1_blocks ({ frames := 0, cells := 0, slots := 0, locals := 0 }) (tk_R (dC, dI) (tk_w1 o q ca aP aH aT aG aL aA aF aS n) (tk_t1 ca) [.ref o]) (vp_Si (fun r => r = nI n)) 0 0 (fun _ => False) := by
  refine Met.ofW (cc := cX1_blocks) (maxL := 1) (ret := (some .int)) (by decide) rfl ?_
  intro p e s m args below meth c s₁ B hml hv
  obtain ⟨rfl, hP, hK⟩ := hv
  have hx := B.exec
  have hb := B.bytes
  have hr := B.returns
  have hts := atoms_spec (ws := wsX1_blocks) B.pre
  have hown : s.vm.findClass RX1 = some m.cls := findClass_of_methodNamed B.named
  have hlocks := B.notSynchronized
  have hin0 : ∀ w ∈ u_ws RX1 TX1 9, w ∈ wsX1_blocks := by decide +kernel
  have fl36 := hts (.fieldLink RX1 36 "WorkTreeModel" "count" "I") (by decide +kernel)
  have hl := lv_entry ([.ref o]) (n := 1) (Nat.le_of_ble_eq_true rfl)
  rw [lg_entry_eq]
  generalize (lg_sl ([.ref o]) ++ List.replicate (1 - (lg_sl ([.ref o])).length) Slot.unset).toArray = ls at hl ⊢
  have hl : lv_has ls 1 [(0, .ref o)] := hl
  refine tk_Q (fun Q hQ => ?_)
  refine lv_aload_n hx hb dX1_blocks_0 rfl (lv_at hl 0 rfl) ?_
  refine va_get (D := (dC, dI)) (ci := 1) (v := .int (nI n)) (C := RX1) (T := TX1) (N := 9) hx hb hts hin0 hown hK hP 0 rfl rfl 8 (by decide) fl36 (fun _ h9 => h9) rfl dX1_blocks_1 ?_
  subst hQ
  exact tk_iret hx hb hr hlocks rfl dX1_blocks_4
set_option maxHeartbeats 4000000 in
set_option maxRecDepth 100000 in
theorem c0_within (l : Launch) (v lo hi : Int32) : Met l yX0_within wsX0_within ({ frames := 1, cells := 0, slots := 0, locals := 14 }) (va_Pc [.int v, .int lo, .int hi] (fun _ => True)) (vp_Si (fun r => r = tk_wi v lo hi)) 0 0 (fun _ => False) := by
  refine Met.ofW (cc := cX0_within) (maxL := 3) (ret := (some .int)) (by decide) rfl ?_
  intro p e s m args below meth c s₁ B hml hv
  obtain ⟨rfl, -⟩ := hv
  have hx := B.exec
  have hb := B.bytes
  have hr := B.returns
  have hts := atoms_spec (ws := wsX0_within) B.pre
  have hown : s.vm.findClass RX0 = some m.cls := findClass_of_methodNamed B.named
  have hlocks := B.notSynchronized
  have ml56 := hts (.methodLink RX0 56 Lib.Math.min.name) (by decide +kernel)
  have ms56 := hts (.static Lib.Math.min.name) (by decide +kernel)
  have mi56 := hts (.initialized "java/lang/Math") (by decide +kernel)
  have mc56 := hts (.code Lib.Math.min.name Lib.Math.min.code 2 (some .int)) (by decide +kernel)
  have ml78 := hts (.methodLink RX0 78 Lib.Math.max.name) (by decide +kernel)
  have ms78 := hts (.static Lib.Math.max.name) (by decide +kernel)
  have mi78 := hts (.initialized "java/lang/Math") (by decide +kernel)
  have mc78 := hts (.code Lib.Math.max.name Lib.Math.max.code 2 (some .int)) (by decide +kernel)
  have hl := lv_entry ([.int v, .int lo, .int hi]) (n := 3) (Nat.le_of_ble_eq_true rfl)
  rw [lg_entry_eq]
  generalize (lg_sl ([.int v, .int lo, .int hi]) ++ List.replicate (3 - (lg_sl ([.int v, .int lo, .int hi])).length) Slot.unset).toArray = ls at hl ⊢
  have hl : lv_has ls 3 [(0, .int v), (1, .int lo), (2, .int hi)] := hl
  refine tk_Q (fun Q hQ => ?_)
  refine lv_iload_n hx hb dX0_within_0 rfl (lv_at hl 1 rfl) ?_
  refine lv_iload_n hx hb dX0_within_1 rfl (lv_at hl 2 rfl) ?_
  refine lv_iload_n hx hb dX0_within_2 rfl (lv_at hl 0 rfl) ?_
  refine va_mmin hx hb (hml.trans hl.1.symm) hown ml56 ms56 mi56 mc56 (Nat.le_of_ble_eq_true rfl) (Nat.le_of_ble_eq_true rfl) (Nat.le_of_ble_eq_true rfl) (Nat.le_of_ble_eq_true rfl) dX0_within_3 ?_
  refine va_mmax hx hb (hml.trans hl.1.symm) hown ml78 ms78 mi78 mc78 (Nat.le_of_ble_eq_true rfl) (Nat.le_of_ble_eq_true rfl) (Nat.le_of_ble_eq_true rfl) (Nat.le_of_ble_eq_true rfl) dX0_within_6 ?_
  subst hQ
  exact tk_iret hx hb hr hlocks rfl dX0_within_9
end
section
set_option maxHeartbeats 4000000 in
set_option maxRecDepth 100000 in
theorem c0_ancestorAt (l : Launch) (dC : Nat → ClassId) (dI : Nat → Nat → Nat) (o : Nat) (q : Nat → Nat) (ca : Nat → ClassId) (aP aH aT aA aG aK aZ aS : Nat → Int32) (n : Nat) (pa he : Nat → Nat) (hT : tk_I aP aH pa he n) (j k t : Nat) (hj : j < n) (hk : t + k = he j) : Met l yX0_ancestorAt wsX0_ancestorAt ({ frames := 0, cells := 0, slots := 0, locals := 0 }) (tk_R (dC, dI) (tk_w0 o q ca aP aH aT aA aG aK aZ aS n) (tk_t0 ca) [.ref o, .int (nI j), .int (nI t)]) (vp_Si (fun r => r = nI (tk_anc pa k j))) 0 0 (fun _ => False) := by
  refine Met.ofW (cc := cX0_ancestorAt) (maxL := 5) (ret := (some .int)) (by decide) rfl ?_
  intro p e s m args below meth c s₁ B hml hv
  obtain ⟨rfl, hP, hK⟩ := hv
  have hx := B.exec
  have hb := B.bytes
  have hr := B.returns
  have hts := atoms_spec (ws := wsX0_ancestorAt) B.pre
  have hown : s.vm.findClass RX0 = some m.cls := findClass_of_methodNamed B.named
  have hlocks := B.notSynchronized
  have hin0 : ∀ w ∈ u_ws RX0 TX0 9, w ∈ wsX0_ancestorAt := by decide +kernel
  have fl13 := hts (.fieldLink RX0 13 "WorkTree" "heights" "[I") (by decide +kernel)
  have fl9 := hts (.fieldLink RX0 9 "WorkTree" "parents" "[I") (by decide +kernel)
  have hl := lv_entry ([.ref o, .int (nI j), .int (nI t)]) (n := 5) (Nat.le_of_ble_eq_true rfl)
  rw [lg_entry_eq]
  generalize (lg_sl ([.ref o, .int (nI j), .int (nI t)]) ++ List.replicate (5 - (lg_sl ([.ref o, .int (nI j), .int (nI t)])).length) Slot.unset).toArray = ls at hl ⊢
  have hl : lv_has ls 5 [(0, .ref o), (1, .int (nI j)), (2, .int (nI t))] := hl
  refine tk_Q (fun Q hQ => ?_)
  have hn := hT.1.2
  have hjj := (hT.2.2.2.1 j hj).2
  generalize hzz : tk_anc pa k j = z at hQ
  have loop : ∀ (k : Nat) (a : Nat) (ls : Array Slot), a < n → he a = t + k → tk_anc pa k a = z → lv_has ls 5 [(4, .int (nI (he a))), (3, .int (nI a)), (0, .ref o), (1, .int (nI j)), (2, .int (nI t))] → W p l e (headSpec wsX0_ancestorAt ({ frames := 0, cells := 0, slots := 0, locals := 0 })).room s m ([.ref o, .int (nI j), .int (nI t)] : List Value).toArray below meth c s.heap [] 0 0 Q (F0 m 10 ls []) := by
    intro k
    induction k with
    | zero =>
      intro a ls ha hka hz hl
      have hka2 := (hT.2.2.2.1 a ha).2
      refine lv_iload hx hb dX0_ancestorAt_10 (lv_at hl 0 rfl) ?_
      refine lv_iload_n hx hb dX0_ancestorAt_12 rfl (lv_at hl 4 rfl) ?_
      refine lv_icmp_le (tgt := 29) hx hb dX0_ancestorAt_13 (by decide) (fun hc13 => ?_) (fun hc13 => ?_)
      · refine lv_iload_n hx hb dX0_ancestorAt_29 rfl (lv_at hl 1 rfl) ?_
        subst hQ
        exact tk_iret hx hb hr hlocks (show nI a = nI z from congrArg nI hz) dX0_ancestorAt_30
      · exact absurd (nI_le (by omega) (by omega)) hc13
    | succ k ih =>
      intro a ls ha hka hz hl
      have hka2 := (hT.2.2.2.1 a ha).2
      refine lv_iload hx hb dX0_ancestorAt_10 (lv_at hl 0 rfl) ?_
      refine lv_iload_n hx hb dX0_ancestorAt_12 rfl (lv_at hl 4 rfl) ?_
      refine lv_icmp_le (tgt := 29) hx hb dX0_ancestorAt_13 (by decide) (fun hc13 => ?_) (fun hc13 => ?_)
      · exact absurd ((nI_leI (by omega) (by omega)).mp hc13) (by omega)
      · obtain ⟨u1, u2, u3, u4⟩ := tk_up hT ha (by omega)
        refine lv_aload_n hx hb dX0_ancestorAt_16 rfl (lv_at hl 2 rfl) ?_
        refine va_get (D := (dC, dI)) (ci := 0) (v := .ref (q 0)) (C := RX0) (T := TX0) (N := 9) hx hb hts hin0 hown hK hP 0 rfl rfl 0 (by decide) fl9 (fun _ h9 => h9) rfl dX0_ancestorAt_17 ?_
        refine lv_iload_n hx hb dX0_ancestorAt_20 rfl (lv_at hl 1 rfl) ?_
        refine tk_rdi (v := nI (pa a)) hx hb hK hP 1 0 rfl rfl (a) (by omega) (by decide) u2 dX0_ancestorAt_21 ?_
        refine lv_istore_n hx hb dX0_ancestorAt_22 rfl hl (by decide) rfl (fun ls hl => ?_)
        have hl : lv_has ls 5 [(3, .int (nI (pa a))), (4, .int (nI (he a))), (0, .ref o), (1, .int (nI j)), (2, .int (nI t))] := hl
        refine lv_iinc (k := 1) (v := nI (he (pa a))) hx hb dX0_ancestorAt_23 hl rfl (by rw [u4]; exact tk_dec _) (by decide) rfl (fun ls hl => ?_)
        have hl : lv_has ls 5 [(4, .int (nI (he (pa a)))), (3, .int (nI (pa a))), (0, .ref o), (1, .int (nI j)), (2, .int (nI t))] := hl
        refine lv_goto (tgt := 10) hx hb dX0_ancestorAt_26 (by decide) ?_
        exact ih (pa a) ls (by omega) (by omega) hz hl
  refine lv_iload_n hx hb dX0_ancestorAt_0 rfl (lv_at hl 1 rfl) ?_
  refine lv_istore_n hx hb dX0_ancestorAt_1 rfl hl (by decide) rfl (fun ls hl => ?_)
  have hl : lv_has ls 5 [(3, .int (nI j)), (0, .ref o), (1, .int (nI j)), (2, .int (nI t))] := hl
  refine lv_aload_n hx hb dX0_ancestorAt_2 rfl (lv_at hl 1 rfl) ?_
  refine va_get (D := (dC, dI)) (ci := 0) (v := .ref (q 1)) (C := RX0) (T := TX0) (N := 9) hx hb hts hin0 hown hK hP 0 rfl rfl 1 (by decide) fl13 (fun _ h9 => h9) rfl dX0_ancestorAt_3 ?_
  refine lv_iload_n hx hb dX0_ancestorAt_6 rfl (lv_at hl 2 rfl) ?_
  refine tk_rdi (v := nI (he j)) hx hb hK hP 2 1 rfl rfl (j) (by omega) (by decide) (hT.2.2.2.1 j hj).1 dX0_ancestorAt_7 ?_
  refine lv_istore hx hb dX0_ancestorAt_8 hl (by decide) rfl (fun ls hl => ?_)
  have hl : lv_has ls 5 [(4, .int (nI (he j))), (3, .int (nI j)), (0, .ref o), (1, .int (nI j)), (2, .int (nI t))] := hl
  exact loop k j ls hj hk.symm hzz hl
set_option maxHeartbeats 4000000 in
set_option maxRecDepth 100000 in
theorem c0_isBetter (l : Launch) (dC : Nat → ClassId) (dI : Nat → Nat → Nat) (o : Nat) (q : Nat → Nat) (ca : Nat → ClassId) (aP aH aT aA aG aK aZ aS : Nat → Int32) (n : Nat) (wk : Nat → Nat) (hW : tk_Wk aK wk n) (hn : n ≤ 512) (a b : Nat) (ha : a < n) (hb0 : b < n) : Met l yX0_isBetter wsX0_isBetter ({ frames := 0, cells := 0, slots := 0, locals := 0 }) (tk_R (dC, dI) (tk_w0 o q ca aP aH aT aA aG aK aZ aS n) (tk_t0 ca) [.ref o, .int (nI a), .int (nI b)]) (vp_Si (fun r => r = tk_isb wk aA a b)) 0 0 (fun _ => False) := by
  refine Met.ofW (cc := cX0_isBetter) (maxL := 3) (ret := (some .boolean)) (by decide) rfl ?_
  intro p e s m args below meth c s₁ B hml hv
  obtain ⟨rfl, hP, hK⟩ := hv
  have hx := B.exec
  have hb := B.bytes
  have hr := B.returns
  have hts := atoms_spec (ws := wsX0_isBetter) B.pre
  have hown : s.vm.findClass RX0 = some m.cls := findClass_of_methodNamed B.named
  have hlocks := B.notSynchronized
  have hin0 : ∀ w ∈ u_ws RX0 TX0 9, w ∈ wsX0_isBetter := by decide +kernel
  have fl25 := hts (.fieldLink RX0 25 "WorkTree" "works" "[I") (by decide +kernel)
  have fl19 := hts (.fieldLink RX0 19 "WorkTree" "arrivals" "[I") (by decide +kernel)
  have hl := lv_entry ([.ref o, .int (nI a), .int (nI b)]) (n := 3) (Nat.le_of_ble_eq_true rfl)
  rw [lg_entry_eq]
  generalize (lg_sl ([.ref o, .int (nI a), .int (nI b)]) ++ List.replicate (3 - (lg_sl ([.ref o, .int (nI a), .int (nI b)])).length) Slot.unset).toArray = ls at hl ⊢
  have hl : lv_has ls 3 [(0, .ref o), (1, .int (nI a)), (2, .int (nI b))] := hl
  refine tk_Q (fun Q hQ => ?_)
  have hwa := (hW a ha).2
  have hwb := (hW b hb0).2
  refine lv_aload_n hx hb dX0_isBetter_0 rfl (lv_at hl 0 rfl) ?_
  refine va_get (D := (dC, dI)) (ci := 0) (v := .ref (q 5)) (C := RX0) (T := TX0) (N := 9) hx hb hts hin0 hown hK hP 0 rfl rfl 5 (by decide) fl25 (fun _ h9 => h9) rfl dX0_isBetter_1 ?_
  refine lv_iload_n hx hb dX0_isBetter_4 rfl (lv_at hl 1 rfl) ?_
  refine tk_rdi (v := nI (wk a)) hx hb hK hP 6 5 rfl rfl (a) (by omega) (by decide) (hW a ha).1 dX0_isBetter_5 ?_
  refine lv_aload_n hx hb dX0_isBetter_6 rfl (lv_at hl 0 rfl) ?_
  refine va_get (D := (dC, dI)) (ci := 0) (v := .ref (q 5)) (C := RX0) (T := TX0) (N := 9) hx hb hts hin0 hown hK hP 0 rfl rfl 5 (by decide) fl25 (fun _ h9 => h9) rfl dX0_isBetter_7 ?_
  refine lv_iload_n hx hb dX0_isBetter_10 rfl (lv_at hl 2 rfl) ?_
  refine tk_rdi (v := nI (wk b)) hx hb hK hP 6 5 rfl rfl (b) (by omega) (by decide) (hW b hb0).1 dX0_isBetter_11 ?_
  refine lv_icmp_eq (tgt := 36) hx hb dX0_isBetter_12 (by decide) (fun hc12 => ?_) (fun hc12 => ?_)
  · have e12 := (nI_eq (by omega) (by omega)).mp hc12
    refine lv_aload_n hx hb dX0_isBetter_36 rfl (lv_at hl 0 rfl) ?_
    refine va_get (D := (dC, dI)) (ci := 0) (v := .ref (q 3)) (C := RX0) (T := TX0) (N := 9) hx hb hts hin0 hown hK hP 0 rfl rfl 3 (by decide) fl19 (fun _ h9 => h9) rfl dX0_isBetter_37 ?_
    refine lv_iload_n hx hb dX0_isBetter_40 rfl (lv_at hl 1 rfl) ?_
    refine tk_rdi (v := aA a) hx hb hK hP 4 3 rfl rfl (a) (by omega) (by decide) rfl dX0_isBetter_41 ?_
    refine lv_aload_n hx hb dX0_isBetter_42 rfl (lv_at hl 0 rfl) ?_
    refine va_get (D := (dC, dI)) (ci := 0) (v := .ref (q 3)) (C := RX0) (T := TX0) (N := 9) hx hb hts hin0 hown hK hP 0 rfl rfl 3 (by decide) fl19 (fun _ h9 => h9) rfl dX0_isBetter_43 ?_
    refine lv_iload_n hx hb dX0_isBetter_46 rfl (lv_at hl 2 rfl) ?_
    refine tk_rdi (v := aA b) hx hb hK hP 4 3 rfl rfl (b) (by omega) (by decide) rfl dX0_isBetter_47 ?_
    refine lv_icmp_ge (tgt := 55) hx hb dX0_isBetter_48 (by decide) (fun hc48 => ?_) (fun hc48 => ?_)
    · refine lv_iconst (v := 0) hx hb dX0_isBetter_55 (by decide +kernel) ?_
      subst hQ
      exact tk_zret hx hb hr hlocks rfl (tk_isb_4 e12.symm (tk_nlt hc48)).symm dX0_isBetter_56
    · refine lv_iconst (v := 1) hx hb dX0_isBetter_51 (by decide +kernel) ?_
      refine lv_goto (tgt := 56) hx hb dX0_isBetter_52 (by decide) ?_
      subst hQ
      exact tk_zret hx hb hr hlocks rfl (tk_isb_2 e12.symm (tk_ltn hc48)).symm dX0_isBetter_56
  · have e12 : ¬ wk a = wk b := fun z => hc12 (congrArg nI z)
    refine lv_aload_n hx hb dX0_isBetter_15 rfl (lv_at hl 0 rfl) ?_
    refine va_get (D := (dC, dI)) (ci := 0) (v := .ref (q 5)) (C := RX0) (T := TX0) (N := 9) hx hb hts hin0 hown hK hP 0 rfl rfl 5 (by decide) fl25 (fun _ h9 => h9) rfl dX0_isBetter_16 ?_
    refine lv_iload_n hx hb dX0_isBetter_19 rfl (lv_at hl 1 rfl) ?_
    refine tk_rdi (v := nI (wk a)) hx hb hK hP 6 5 rfl rfl (a) (by omega) (by decide) (hW a ha).1 dX0_isBetter_20 ?_
    refine lv_aload_n hx hb dX0_isBetter_21 rfl (lv_at hl 0 rfl) ?_
    refine va_get (D := (dC, dI)) (ci := 0) (v := .ref (q 5)) (C := RX0) (T := TX0) (N := 9) hx hb hts hin0 hown hK hP 0 rfl rfl 5 (by decide) fl25 (fun _ h9 => h9) rfl dX0_isBetter_22 ?_
    refine lv_iload_n hx hb dX0_isBetter_25 rfl (lv_at hl 2 rfl) ?_
    refine tk_rdi (v := nI (wk b)) hx hb hK hP 6 5 rfl rfl (b) (by omega) (by decide) (hW b hb0).1 dX0_isBetter_26 ?_
    refine lv_icmp_le (tgt := 34) hx hb dX0_isBetter_27 (by decide) (fun hc27 => ?_) (fun hc27 => ?_)
    · have e27 := (nI_leI (by omega) (by omega)).mp hc27
      refine lv_iconst (v := 0) hx hb dX0_isBetter_34 (by decide +kernel) ?_
      subst hQ
      exact tk_zret hx hb hr hlocks rfl (tk_isb_3 (by omega)).symm dX0_isBetter_35
    · have e27 : ¬ wk a ≤ wk b := fun z => hc27 ((nI_leI (by omega) (by omega)).mpr z)
      refine lv_iconst (v := 1) hx hb dX0_isBetter_30 (by decide +kernel) ?_
      refine lv_goto (tgt := 35) hx hb dX0_isBetter_31 (by decide) ?_
      subst hQ
      exact tk_zret hx hb hr hlocks rfl (tk_isb_1 (by omega)).symm dX0_isBetter_35
set_option maxHeartbeats 4000000 in
set_option maxRecDepth 100000 in
theorem c0_bestBlock (l : Launch) (dC : Nat → ClassId) (dI : Nat → Nat → Nat) (o : Nat) (q : Nat → Nat) (ca : Nat → ClassId) (aP aH aT aA aG aK aZ aS : Nat → Int32) (n : Nat) (wk : Nat → Nat) (hW : tk_Wk aK wk n) (hn : n ≤ 512) (hn1 : 1 ≤ n) : Met l yX0_bestBlock wsX0_bestBlock ({ frames := 1, cells := 0, slots := 0, locals := 22 }) (tk_R (dC, dI) (tk_w0 o q ca aP aH aT aA aG aK aZ aS n) (tk_t0 ca) [.ref o]) (vp_Si (fun r => r = nI (tk_best aZ aA wk n))) 0 0 (fun _ => False) := by
  refine Met.ofW (cc := cX0_bestBlock) (maxL := 3) (ret := (some .int)) (by decide) rfl ?_
  intro p e s m args below meth c s₁ B hml hv
  obtain ⟨rfl, hP, hK⟩ := hv
  have hx := B.exec
  have hb := B.bytes
  have hr := B.returns
  have hts := atoms_spec (ws := wsX0_bestBlock) B.pre
  have hown : s.vm.findClass RX0 = some m.cls := findClass_of_methodNamed B.named
  have hlocks := B.notSynchronized
  have hin0 : ∀ w ∈ u_ws RX0 TX0 9, w ∈ wsX0_bestBlock := by decide +kernel
  have fl36 := hts (.fieldLink RX0 36 "WorkTree" "count" "I") (by decide +kernel)
  have fl28 := hts (.fieldLink RX0 28 "WorkTree" "wrong" "[Z") (by decide +kernel)
  have hl := lv_entry ([.ref o]) (n := 3) (Nat.le_of_ble_eq_true rfl)
  rw [lg_entry_eq]
  generalize (lg_sl ([.ref o]) ++ List.replicate (3 - (lg_sl ([.ref o])).length) Slot.unset).toArray = ls at hl ⊢
  have hl : lv_has ls 3 [(0, .ref o)] := hl
  refine tk_Q (fun Q hQ => ?_)
  generalize hzz : tk_best aZ aA wk n = z at hQ
  have loop : ∀ (c0 : Nat) (b f : Nat) (ls : Array Slot), b + c0 = n → f < n → tk_bs aZ aA wk c0 b f = z → lv_has ls 3 [(2, .int (nI b)), (1, .int (nI f)), (0, .ref o)] → W p l e (headSpec wsX0_bestBlock ({ frames := 1, cells := 0, slots := 0, locals := 22 })).room s m ([.ref o] : List Value).toArray below meth c s.heap [] 0 0 Q (F0 m 4 ls []) := by
    intro c0
    induction c0 with
    | zero =>
      intro b f ls hbn hf hz hl
      refine lv_iload_n hx hb dX0_bestBlock_4 rfl (lv_at hl 0 rfl) ?_
      refine lv_aload_n hx hb dX0_bestBlock_5 rfl (lv_at hl 2 rfl) ?_
      refine va_get (D := (dC, dI)) (ci := 0) (v := .int (nI n)) (C := RX0) (T := TX0) (N := 9) hx hb hts hin0 hown hK hP 0 rfl rfl 8 (by decide) fl36 (fun _ h9 => h9) rfl dX0_bestBlock_6 ?_
      refine lv_icmp_ge (tgt := 38) hx hb dX0_bestBlock_9 (by decide) (fun hc9 => ?_) (fun hc9 => ?_)
      · refine lv_iload_n hx hb dX0_bestBlock_38 rfl (lv_at hl 1 rfl) ?_
        subst hQ
        exact tk_iret hx hb hr hlocks (show nI f = nI z from congrArg nI hz) dX0_bestBlock_39
      · exact absurd (nI_le (by omega) (by omega)) hc9
    | succ c0 ih =>
      intro b f ls hbn hf hz hl
      refine lv_iload_n hx hb dX0_bestBlock_4 rfl (lv_at hl 0 rfl) ?_
      refine lv_aload_n hx hb dX0_bestBlock_5 rfl (lv_at hl 2 rfl) ?_
      refine va_get (D := (dC, dI)) (ci := 0) (v := .int (nI n)) (C := RX0) (T := TX0) (N := 9) hx hb hts hin0 hown hK hP 0 rfl rfl 8 (by decide) fl36 (fun _ h9 => h9) rfl dX0_bestBlock_6 ?_
      refine lv_icmp_ge (tgt := 38) hx hb dX0_bestBlock_9 (by decide) (fun hc9 => ?_) (fun hc9 => ?_)
      · exact absurd hc9 (nI_ge (by omega) (by omega))
      · refine lv_aload_n hx hb dX0_bestBlock_12 rfl (lv_at hl 2 rfl) ?_
        refine va_get (D := (dC, dI)) (ci := 0) (v := .ref (q 6)) (C := RX0) (T := TX0) (N := 9) hx hb hts hin0 hown hK hP 0 rfl rfl 6 (by decide) fl28 (fun _ h9 => h9) rfl dX0_bestBlock_13 ?_
        refine lv_iload_n hx hb dX0_bestBlock_16 rfl (lv_at hl 0 rfl) ?_
        refine tk_rdz (v := aZ b) hx hb hK hP 7 6 rfl rfl (b) (by omega) (by decide) rfl dX0_bestBlock_17 ?_
        refine lv_if_ne (tgt := 32) hx hb dX0_bestBlock_18 (by decide) (fun hc18 => ?_) (fun hc18 => ?_)
        · refine lv_iinc (k := 0) (v := nI (b + 1)) hx hb dX0_bestBlock_32 hl rfl (tk_inc b) (by decide) rfl (fun ls hl => ?_)
          have hl : lv_has ls 3 [(2, .int (nI (b + 1))), (1, .int (nI f)), (0, .ref o)] := hl
          refine lv_goto (tgt := 4) hx hb dX0_bestBlock_35 (by decide) ?_
          exact ih (b + 1) f ls (by omega) hf ((tk_bs_no (fun z9 => hc18 z9.1)).symm.trans hz) hl
        · refine lv_aload_n hx hb dX0_bestBlock_21 rfl (lv_at hl 2 rfl) ?_
          refine lv_iload_n hx hb dX0_bestBlock_22 rfl (lv_at hl 0 rfl) ?_
          refine lv_iload_n hx hb dX0_bestBlock_23 rfl (lv_at hl 1 rfl) ?_
          refine vp_callSi (W.runV (As := [.int (nI b), .int (nI f)]) (rest := []) ⟨hx, hb, hml, hown, hts⟩ (c0_isBetter l dC dI o q ca aP aH aT aA aG aK aZ aS n wk hW hn b f (by omega) hf) (cwV 2 hts gX0_bestBlock_X0_isBetter rfl rfl rfl (by decide +kernel) ⟨Nat.le_of_ble_eq_true rfl, Nat.le_of_ble_eq_true rfl⟩) (tk_pre hK hP rfl rfl) rfl rfl hl.1 rfl (lv_room (Nat.le_of_ble_eq_true rfl)) dX0_bestBlock_24 ⟨Nat.le_of_ble_eq_true rfl, Nat.le_of_ble_eq_true rfl⟩) (fun r hr1 => ?_)
          refine tk_top (y := tk_isb wk aA b f) hr1 ?_
          refine lv_if_eq (tgt := 32) hx hb dX0_bestBlock_27 (by decide) (fun hc27 => ?_) (fun hc27 => ?_)
          · refine lv_iinc (k := 0) (v := nI (b + 1)) hx hb dX0_bestBlock_32 hl rfl (tk_inc b) (by decide) rfl (fun ls hl => ?_)
            have hl : lv_has ls 3 [(2, .int (nI (b + 1))), (1, .int (nI f)), (0, .ref o)] := hl
            refine lv_goto (tgt := 4) hx hb dX0_bestBlock_35 (by decide) ?_
            exact ih (b + 1) f ls (by omega) hf ((tk_bs_no (fun z9 => tk_isb_0 hc27 z9.2)).symm.trans hz) hl
          · refine lv_iload_n hx hb dX0_bestBlock_30 rfl (lv_at hl 0 rfl) ?_
            refine lv_istore_n hx hb dX0_bestBlock_31 rfl hl (by decide) rfl (fun ls hl => ?_)
            have hl : lv_has ls 3 [(1, .int (nI b)), (2, .int (nI b)), (0, .ref o)] := hl
            refine lv_iinc (k := 1) (v := nI (b + 1)) hx hb dX0_bestBlock_32 hl rfl (tk_inc b) (by decide) rfl (fun ls hl => ?_)
            have hl : lv_has ls 3 [(2, .int (nI (b + 1))), (1, .int (nI b)), (0, .ref o)] := hl
            refine lv_goto (tgt := 4) hx hb dX0_bestBlock_35 (by decide) ?_
            exact ih (b + 1) b ls (by omega) (by omega) ((tk_bs_yes ⟨hc18, tk_isb_ne hc27⟩).symm.trans hz) hl
  refine lv_iconst (v := nI 0) hx hb dX0_bestBlock_0 (by decide +kernel) ?_
  refine lv_istore_n hx hb dX0_bestBlock_1 rfl hl (by decide) rfl (fun ls hl => ?_)
  have hl : lv_has ls 3 [(1, .int (nI 0)), (0, .ref o)] := hl
  refine lv_iconst (v := nI 1) hx hb dX0_bestBlock_2 (by decide +kernel) ?_
  refine lv_istore_n hx hb dX0_bestBlock_3 rfl hl (by decide) rfl (fun ls hl => ?_)
  have hl : lv_has ls 3 [(2, .int (nI 1)), (1, .int (nI 0)), (0, .ref o)] := hl
  exact loop (n - 1) 1 0 ls (by omega) (by omega) hzz hl
set_option maxHeartbeats 4000000 in
set_option maxRecDepth 100000 in
theorem c0_best (l : Launch) (dC : Nat → ClassId) (dI : Nat → Nat → Nat) (o : Nat) (q : Nat → Nat) (ca : Nat → ClassId) (aP aH aT aA aG aK aZ aS : Nat → Int32) (n : Nat) (wk : Nat → Nat) (hW : tk_Wk aK wk n) (hn : n ≤ 512) (hn1 : 1 ≤ n) : Met l yX0_best wsX0_best ({ frames := 2, cells := 0, slots := 0, locals := 44 }) (tk_R (dC, dI) (tk_w0 o q ca aP aH aT aA aG aK aZ aS n) (tk_t0 ca) [.ref o]) (vp_Si (fun r => r = nI (tk_best aZ aA wk n))) 0 0 (fun _ => False) := by
  refine Met.ofW (cc := cX0_best) (maxL := 1) (ret := (some .int)) (by decide) rfl ?_
  intro p e s m args below meth c s₁ B hml hv
  obtain ⟨rfl, hP, hK⟩ := hv
  have hx := B.exec
  have hb := B.bytes
  have hr := B.returns
  have hts := atoms_spec (ws := wsX0_best) B.pre
  have hown : s.vm.findClass RX0 = some m.cls := findClass_of_methodNamed B.named
  have hlocks := B.notSynchronized
  have hl := lv_entry ([.ref o]) (n := 1) (Nat.le_of_ble_eq_true rfl)
  rw [lg_entry_eq]
  generalize (lg_sl ([.ref o]) ++ List.replicate (1 - (lg_sl ([.ref o])).length) Slot.unset).toArray = ls at hl ⊢
  have hl : lv_has ls 1 [(0, .ref o)] := hl
  refine tk_Q (fun Q hQ => ?_)
  refine lv_aload_n hx hb dX0_best_0 rfl (lv_at hl 0 rfl) ?_
  refine vp_callSi (W.runV (As := []) (rest := []) ⟨hx, hb, hml, hown, hts⟩ (c0_bestBlock l dC dI o q ca aP aH aT aA aG aK aZ aS n wk hW hn hn1) (cwV 0 hts gX0_best_X0_bestBlock rfl rfl rfl (by decide +kernel) ⟨Nat.le_of_ble_eq_true rfl, Nat.le_of_ble_eq_true rfl⟩) (tk_pre hK hP rfl rfl) rfl rfl hl.1 rfl (lv_room (Nat.le_of_ble_eq_true rfl)) dX0_best_1 ⟨Nat.le_of_ble_eq_true rfl, Nat.le_of_ble_eq_true rfl⟩) (fun r hr1 => ?_)
  refine tk_top (y := nI (tk_best aZ aA wk n)) hr1 ?_
  subst hQ
  exact tk_iret hx hb hr hlocks rfl dX0_best_4
end
section
set_option maxHeartbeats 4000000 in
set_option maxRecDepth 100000 in
theorem c0_targetBehind (l : Launch) (dC : Nat → ClassId) (dI : Nat → Nat → Nat) (o : Nat) (q : Nat → Nat) (ca : Nat → ClassId) (aP aH aT aA aG aK aZ aS : Nat → Int32) (n : Nat) (pa he : Nat → Nat) (hT : tk_I aP aH pa he n) (j : Nat) (hj : j < n) : Met l yX0_targetBehind wsX0_targetBehind ({ frames := 2, cells := 0, slots := 0, locals := 36 }) (tk_R (dC, dI) (tk_w0 o q ca aP aH aT aA aG aK aZ aS n) (tk_t0 ca) [.ref o, .int (nI j)]) (vp_Si (fun r => r = tk_tb pa he aT aG j)) 0 0 (fun _ => False) := by
  refine Met.ofW (cc := cX0_targetBehind) (maxL := 5) (ret := (some .int)) (by decide) rfl ?_
  intro p e s m args below meth c s₁ B hml hv
  obtain ⟨rfl, hP, hK⟩ := hv
  have hx := B.exec
  have hb := B.bytes
  have hr := B.returns
  have hts := atoms_spec (ws := wsX0_targetBehind) B.pre
  have hown : s.vm.findClass RX0 = some m.cls := findClass_of_methodNamed B.named
  have hlocks := B.notSynchronized
  have hin0 : ∀ w ∈ u_ws RX0 TX0 9, w ∈ wsX0_targetBehind := by decide +kernel
  have fl13 := hts (.fieldLink RX0 13 "WorkTree" "heights" "[I") (by decide +kernel)
  have fl22 := hts (.fieldLink RX0 22 "WorkTree" "targets" "[I") (by decide +kernel)
  have fl16 := hts (.fieldLink RX0 16 "WorkTree" "times" "[I") (by decide +kernel)
  have kc77 := hts (.constant RX0 77 (65535)) (by decide +kernel)
  have hl := lv_entry ([.ref o, .int (nI j)]) (n := 5) (Nat.le_of_ble_eq_true rfl)
  rw [lg_entry_eq]
  generalize (lg_sl ([.ref o, .int (nI j)]) ++ List.replicate (5 - (lg_sl ([.ref o, .int (nI j)])).length) Slot.unset).toArray = ls at hl ⊢
  have hl : lv_has ls 5 [(0, .ref o), (1, .int (nI j))] := hl
  refine tk_Q (fun Q hQ => ?_)
  have hn := hT.1.2
  have hjj := (hT.2.2.2.1 j hj).2
  refine lv_aload_n hx hb dX0_targetBehind_0 rfl (lv_at hl 0 rfl) ?_
  refine va_get (D := (dC, dI)) (ci := 0) (v := .ref (q 1)) (C := RX0) (T := TX0) (N := 9) hx hb hts hin0 hown hK hP 0 rfl rfl 1 (by decide) fl13 (fun _ h9 => h9) rfl dX0_targetBehind_1 ?_
  refine lv_iload_n hx hb dX0_targetBehind_4 rfl (lv_at hl 1 rfl) ?_
  refine tk_rdi (v := nI (he j)) hx hb hK hP 2 1 rfl rfl (j) (by omega) (by decide) (hT.2.2.2.1 j hj).1 dX0_targetBehind_5 ?_
  refine lv_iconst (v := nI 1) hx hb dX0_targetBehind_6 (by decide +kernel) ?_
  refine lv_iadd hx hb dX0_targetBehind_7 ?_
  refine tk_top (y := nI (he j + 1)) (tk_add1 _) ?_
  refine lv_istore_n hx hb dX0_targetBehind_8 rfl hl (by decide) rfl (fun ls hl => ?_)
  have hl : lv_has ls 5 [(2, .int (nI (he j + 1))), (0, .ref o), (1, .int (nI j))] := hl
  refine lv_iload_n hx hb dX0_targetBehind_9 rfl (lv_at hl 0 rfl) ?_
  refine lv_bipush (v := nI 8) hx hb dX0_targetBehind_10 (by decide +kernel) ?_
  refine lv_irem hx hb dX0_targetBehind_12 (by decide +kernel) ?_
  refine tk_top (y := nI ((he j + 1) % 8)) (pk_rem (by omega) (by decide) (by decide)) ?_
  refine lv_if_eq (tgt := 23) hx hb dX0_targetBehind_13 (by decide) (fun hc13 => ?_) (fun hc13 => ?_)
  · have e13 := (tk_eq0 (by omega)).mp hc13
    obtain ⟨an1, an2⟩ := tk_anc_in hT 7 j hj (by omega)
    refine lv_aload_n hx hb dX0_targetBehind_23 rfl (lv_at hl 1 rfl) ?_
    refine lv_iload_n hx hb dX0_targetBehind_24 rfl (lv_at hl 2 rfl) ?_
    refine lv_iload_n hx hb dX0_targetBehind_25 rfl (lv_at hl 0 rfl) ?_
    refine lv_bipush (v := nI 8) hx hb dX0_targetBehind_26 (by decide +kernel) ?_
    refine lv_isub hx hb dX0_targetBehind_28 ?_
    refine tk_top (y := nI (he j + 1 - 8)) (pk_sub (by omega)) ?_
    refine vp_callSi (W.runV (As := [.int (nI j), .int (nI (he j + 1 - 8))]) (rest := []) ⟨hx, hb, hml, hown, hts⟩ (c0_ancestorAt l dC dI o q ca aP aH aT aA aG aK aZ aS n pa he hT j 7 (he j + 1 - 8) hj (by omega)) (cwV 2 hts gX0_targetBehind_X0_ancestorAt rfl rfl rfl (by decide +kernel) ⟨Nat.le_of_ble_eq_true rfl, Nat.le_of_ble_eq_true rfl⟩) (tk_pre hK hP rfl rfl) rfl rfl hl.1 rfl (lv_room (Nat.le_of_ble_eq_true rfl)) dX0_targetBehind_29 ⟨Nat.le_of_ble_eq_true rfl, Nat.le_of_ble_eq_true rfl⟩) (fun r hr1 => ?_)
    refine tk_top (y := nI (tk_anc pa 7 j)) hr1 ?_
    refine lv_istore_n hx hb dX0_targetBehind_32 rfl hl (by decide) rfl (fun ls hl => ?_)
    have hl : lv_has ls 5 [(3, .int (nI (tk_anc pa 7 j))), (2, .int (nI (he j + 1))), (0, .ref o), (1, .int (nI j))] := hl
    refine lv_aload_n hx hb dX0_targetBehind_33 rfl (lv_at hl 2 rfl) ?_
    refine va_get (D := (dC, dI)) (ci := 0) (v := .ref (q 2)) (C := RX0) (T := TX0) (N := 9) hx hb hts hin0 hown hK hP 0 rfl rfl 2 (by decide) fl16 (fun _ h9 => h9) rfl dX0_targetBehind_34 ?_
    refine lv_iload_n hx hb dX0_targetBehind_37 rfl (lv_at hl 3 rfl) ?_
    refine tk_rdi (v := aT j) hx hb hK hP 3 2 rfl rfl (j) (by omega) (by decide) rfl dX0_targetBehind_38 ?_
    refine lv_aload_n hx hb dX0_targetBehind_39 rfl (lv_at hl 2 rfl) ?_
    refine va_get (D := (dC, dI)) (ci := 0) (v := .ref (q 2)) (C := RX0) (T := TX0) (N := 9) hx hb hts hin0 hown hK hP 0 rfl rfl 2 (by decide) fl16 (fun _ h9 => h9) rfl dX0_targetBehind_40 ?_
    refine lv_iload_n hx hb dX0_targetBehind_43 rfl (lv_at hl 0 rfl) ?_
    refine tk_rdi (v := aT (tk_anc pa 7 j)) hx hb hK hP 3 2 rfl rfl (tk_anc pa 7 j) (by omega) (by decide) rfl dX0_targetBehind_44 ?_
    refine lv_isub hx hb dX0_targetBehind_45 ?_
    refine lv_bipush (v := nI 20) hx hb dX0_targetBehind_46 (by decide +kernel) ?_
    refine lv_sipush (v := nI 320) hx hb dX0_targetBehind_48 (by decide +kernel) ?_
    refine vp_callSi (W.runS (As := [.int ((aT j) - (aT (tk_anc pa 7 j))), .int (nI 20), .int (nI 320)]) (rest := []) ⟨hx, hb, hml, hown, hts⟩ (c0_within l ((aT j) - (aT (tk_anc pa 7 j))) (nI 20) (nI 320)) (va_cwS 3 hts gX0_targetBehind_X0_within rfl rfl rfl (by decide +kernel) ⟨Nat.le_of_ble_eq_true rfl, Nat.le_of_ble_eq_true rfl⟩) ⟨fun _ _ _ _ h9 => h9, fun _ _ _ => ⟨rfl, trivial⟩⟩ rfl rfl hl.1 rfl (lv_room (Nat.le_of_ble_eq_true rfl)) dX0_targetBehind_51 ⟨Nat.le_of_ble_eq_true rfl, Nat.le_of_ble_eq_true rfl⟩) (fun r hr1 => ?_)
    refine tk_top (y := tk_wi (aT j - aT (tk_anc pa 7 j)) (nI 20) (nI 320)) hr1 ?_
    refine lv_istore hx hb dX0_targetBehind_54 hl (by decide) rfl (fun ls hl => ?_)
    have hl : lv_has ls 5 [(4, .int (tk_wi (aT j - aT (tk_anc pa 7 j)) (nI 20) (nI 320))), (3, .int (nI (tk_anc pa 7 j))), (2, .int (nI (he j + 1))), (0, .ref o), (1, .int (nI j))] := hl
    refine lv_aload_n hx hb dX0_targetBehind_56 rfl (lv_at hl 3 rfl) ?_
    refine va_get (D := (dC, dI)) (ci := 0) (v := .ref (q 4)) (C := RX0) (T := TX0) (N := 9) hx hb hts hin0 hown hK hP 0 rfl rfl 4 (by decide) fl22 (fun _ h9 => h9) rfl dX0_targetBehind_57 ?_
    refine lv_iload_n hx hb dX0_targetBehind_60 rfl (lv_at hl 4 rfl) ?_
    refine tk_rdi (v := aG j) hx hb hK hP 5 4 rfl rfl (j) (by omega) (by decide) rfl dX0_targetBehind_61 ?_
    refine lv_iload hx hb dX0_targetBehind_62 (lv_at hl 0 rfl) ?_
    refine lv_imul hx hb dX0_targetBehind_64 ?_
    refine lv_bipush (v := nI 80) hx hb dX0_targetBehind_65 (by decide +kernel) ?_
    refine lv_idiv hx hb dX0_targetBehind_67 (by decide +kernel) ?_
    refine lv_sipush (v := nI 2048) hx hb dX0_targetBehind_68 (by decide +kernel) ?_
    refine lv_ldc (v := 65535) hx hb hown kc77 dX0_targetBehind_71 ?_
    refine tk_top (y := nI 65535) (by decide +kernel) ?_
    refine vp_callSi (W.runS (As := [.int (((aG j) * (tk_wi (aT j - aT (tk_anc pa 7 j)) (nI 20) (nI 320))) / (nI 80)), .int (nI 2048), .int (nI 65535)]) (rest := []) ⟨hx, hb, hml, hown, hts⟩ (c0_within l (((aG j) * (tk_wi (aT j - aT (tk_anc pa 7 j)) (nI 20) (nI 320))) / (nI 80)) (nI 2048) (nI 65535)) (va_cwS 3 hts gX0_targetBehind_X0_within rfl rfl rfl (by decide +kernel) ⟨Nat.le_of_ble_eq_true rfl, Nat.le_of_ble_eq_true rfl⟩) ⟨fun _ _ _ _ h9 => h9, fun _ _ _ => ⟨rfl, trivial⟩⟩ rfl rfl hl.1 rfl (lv_room (Nat.le_of_ble_eq_true rfl)) dX0_targetBehind_73 ⟨Nat.le_of_ble_eq_true rfl, Nat.le_of_ble_eq_true rfl⟩) (fun r hr1 => ?_)
    refine tk_top (y := tk_wi (aG j * tk_wi (aT j - aT (tk_anc pa 7 j)) (nI 20) (nI 320) / nI 80) (nI 2048) (nI 65535)) hr1 ?_
    subst hQ
    exact tk_iret hx hb hr hlocks (show tk_wi (aG j * tk_wi (aT j - aT (tk_anc pa 7 j)) (nI 20) (nI 320) / nI 80) (nI 2048) (nI 65535) = tk_tb pa he aT aG j from by unfold tk_tb; rw [if_pos e13]) dX0_targetBehind_76
  · have e13 : ¬ (he j + 1) % 8 = 0 := fun z => hc13 ((tk_eq0 (by omega)).mpr z)
    refine lv_aload_n hx hb dX0_targetBehind_16 rfl (lv_at hl 1 rfl) ?_
    refine va_get (D := (dC, dI)) (ci := 0) (v := .ref (q 4)) (C := RX0) (T := TX0) (N := 9) hx hb hts hin0 hown hK hP 0 rfl rfl 4 (by decide) fl22 (fun _ h9 => h9) rfl dX0_targetBehind_17 ?_
    refine lv_iload_n hx hb dX0_targetBehind_20 rfl (lv_at hl 2 rfl) ?_
    refine tk_rdi (v := aG j) hx hb hK hP 5 4 rfl rfl (j) (by omega) (by decide) rfl dX0_targetBehind_21 ?_
    subst hQ
    exact tk_iret hx hb hr hlocks (show aG j = tk_tb pa he aT aG j from by unfold tk_tb; rw [if_neg e13]) dX0_targetBehind_22
set_option maxHeartbeats 4000000 in
set_option maxRecDepth 100000 in
theorem c0_due (l : Launch) (dC : Nat → ClassId) (dI : Nat → Nat → Nat) (o : Nat) (q : Nat → Nat) (ca : Nat → ClassId) (aP aH aT aA aG aK aZ aS : Nat → Int32) (n : Nat) (pa he : Nat → Nat) (hT : tk_I aP aH pa he n) (b : Int32) : Met l yX0_due wsX0_due ({ frames := 3, cells := 0, slots := 0, locals := 60 }) (tk_R (dC, dI) (tk_w0 o q ca aP aH aT aA aG aK aZ aS n) (tk_t0 ca) [.ref o, .int b]) (vp_Si (fun r => r = tk_pb n b (tk_tb pa he aT aG))) 0 0 (fun _ => False) := by
  refine Met.ofW (cc := cX0_due) (maxL := 2) (ret := (some .int)) (by decide) rfl ?_
  intro p e s m args below meth c s₁ B hml hv
  obtain ⟨rfl, hP, hK⟩ := hv
  have hx := B.exec
  have hb := B.bytes
  have hr := B.returns
  have hts := atoms_spec (ws := wsX0_due) B.pre
  have hown : s.vm.findClass RX0 = some m.cls := findClass_of_methodNamed B.named
  have hlocks := B.notSynchronized
  have hl := lv_entry ([.ref o, .int b]) (n := 2) (Nat.le_of_ble_eq_true rfl)
  rw [lg_entry_eq]
  generalize (lg_sl ([.ref o, .int b]) ++ List.replicate (2 - (lg_sl ([.ref o, .int b])).length) Slot.unset).toArray = ls at hl ⊢
  have hl : lv_has ls 2 [(0, .ref o), (1, .int b)] := hl
  refine tk_Q (fun Q hQ => ?_)
  have hn := hT.1.2
  refine lv_aload_n hx hb dX0_due_0 rfl (lv_at hl 0 rfl) ?_
  refine lv_iload_n hx hb dX0_due_1 rfl (lv_at hl 1 rfl) ?_
  refine vp_callSi (W.runV (As := [.int b]) (rest := []) ⟨hx, hb, hml, hown, hts⟩ (c0_exists l dC dI o q ca aP aH aT aA aG aK aZ aS n b) (cwV 1 hts gX0_due_X0_exists rfl rfl rfl (by decide +kernel) ⟨Nat.le_of_ble_eq_true rfl, Nat.le_of_ble_eq_true rfl⟩) (tk_pre hK hP rfl rfl) rfl rfl hl.1 rfl (lv_room (Nat.le_of_ble_eq_true rfl)) dX0_due_2 ⟨Nat.le_of_ble_eq_true rfl, Nat.le_of_ble_eq_true rfl⟩) (fun r hr1 => ?_)
  refine tk_top (y := tk_ex n b) hr1 ?_
  refine lv_if_eq (tgt := 16) hx hb dX0_due_5 (by decide) (fun hc5 => ?_) (fun hc5 => ?_)
  · refine lv_bipush (v := -2) hx hb dX0_due_16 (by decide +kernel) ?_
    subst hQ
    exact tk_iret hx hb hr hlocks (tk_pb0 hc5).symm dX0_due_18
  · obtain ⟨j, hj, rfl⟩ := tk_ex_t hn hc5
    refine lv_aload_n hx hb dX0_due_8 rfl (lv_at hl 0 rfl) ?_
    refine lv_iload_n hx hb dX0_due_9 rfl (lv_at hl 1 rfl) ?_
    refine vp_callSi (W.runV (As := [.int (nI j)]) (rest := []) ⟨hx, hb, hml, hown, hts⟩ (c0_targetBehind l dC dI o q ca aP aH aT aA aG aK aZ aS n pa he hT j hj) (cwV 1 hts gX0_due_X0_targetBehind rfl rfl rfl (by decide +kernel) ⟨Nat.le_of_ble_eq_true rfl, Nat.le_of_ble_eq_true rfl⟩) (tk_pre hK hP rfl rfl) rfl rfl hl.1 rfl (lv_room (Nat.le_of_ble_eq_true rfl)) dX0_due_10 ⟨Nat.le_of_ble_eq_true rfl, Nat.le_of_ble_eq_true rfl⟩) (fun r hr1 => ?_)
    refine tk_top (y := tk_tb pa he aT aG j) hr1 ?_
    refine lv_goto (tgt := 18) hx hb dX0_due_13 (by decide) ?_
    subst hQ
    exact tk_iret hx hb hr hlocks (tk_pbn hn hj).symm dX0_due_18
set_option maxHeartbeats 4000000 in
set_option maxRecDepth 100000 in
theorem c0_ancestor (l : Launch) (dC : Nat → ClassId) (dI : Nat → Nat → Nat) (o : Nat) (q : Nat → Nat) (ca : Nat → ClassId) (aP aH aT aA aG aK aZ aS : Nat → Int32) (n : Nat) (pa he : Nat → Nat) (hT : tk_I aP aH pa he n) (b t : Int32) : Met l yX0_ancestor wsX0_ancestor ({ frames := 1, cells := 0, slots := 0, locals := 24 }) (tk_R (dC, dI) (tk_w0 o q ca aP aH aT aA aG aK aZ aS n) (tk_t0 ca) [.ref o, .int b, .int t]) (vp_Si (fun r => r = tk_an pa he n b t)) 0 0 (fun _ => False) := by
  refine Met.ofW (cc := cX0_ancestor) (maxL := 3) (ret := (some .int)) (by decide) rfl ?_
  intro p e s m args below meth c s₁ B hml hv
  obtain ⟨rfl, hP, hK⟩ := hv
  have hx := B.exec
  have hb := B.bytes
  have hr := B.returns
  have hts := atoms_spec (ws := wsX0_ancestor) B.pre
  have hown : s.vm.findClass RX0 = some m.cls := findClass_of_methodNamed B.named
  have hlocks := B.notSynchronized
  have hin0 : ∀ w ∈ u_ws RX0 TX0 9, w ∈ wsX0_ancestor := by decide +kernel
  have fl13 := hts (.fieldLink RX0 13 "WorkTree" "heights" "[I") (by decide +kernel)
  have hl := lv_entry ([.ref o, .int b, .int t]) (n := 3) (Nat.le_of_ble_eq_true rfl)
  rw [lg_entry_eq]
  generalize (lg_sl ([.ref o, .int b, .int t]) ++ List.replicate (3 - (lg_sl ([.ref o, .int b, .int t])).length) Slot.unset).toArray = ls at hl ⊢
  have hl : lv_has ls 3 [(0, .ref o), (1, .int b), (2, .int t)] := hl
  refine tk_Q (fun Q hQ => ?_)
  have hn := hT.1.2
  refine lv_aload_n hx hb dX0_ancestor_0 rfl (lv_at hl 0 rfl) ?_
  refine lv_iload_n hx hb dX0_ancestor_1 rfl (lv_at hl 1 rfl) ?_
  refine vp_callSi (W.runV (As := [.int b]) (rest := []) ⟨hx, hb, hml, hown, hts⟩ (c0_exists l dC dI o q ca aP aH aT aA aG aK aZ aS n b) (cwV 1 hts gX0_ancestor_X0_exists rfl rfl rfl (by decide +kernel) ⟨Nat.le_of_ble_eq_true rfl, Nat.le_of_ble_eq_true rfl⟩) (tk_pre hK hP rfl rfl) rfl rfl hl.1 rfl (lv_room (Nat.le_of_ble_eq_true rfl)) dX0_ancestor_2 ⟨Nat.le_of_ble_eq_true rfl, Nat.le_of_ble_eq_true rfl⟩) (fun r hr1 => ?_)
  refine tk_top (y := tk_ex n b) hr1 ?_
  refine lv_if_eq (tgt := 22) hx hb dX0_ancestor_5 (by decide) (fun hc5 => ?_) (fun hc5 => ?_)
  · refine lv_bipush (v := -2) hx hb dX0_ancestor_22 (by decide +kernel) ?_
    subst hQ
    exact tk_iret hx hb hr hlocks (tk_an0 hc5).symm dX0_ancestor_24
  · obtain ⟨j, hj, rfl⟩ := tk_ex_t hn hc5
    have hjj := (hT.2.2.2.1 j hj).2
    refine lv_iload_n hx hb dX0_ancestor_8 rfl (lv_at hl 2 rfl) ?_
    refine lv_if_lt (tgt := 22) hx hb dX0_ancestor_9 (by decide) (fun hc9 => ?_) (fun hc9 => ?_)
    · refine lv_bipush (v := -2) hx hb dX0_ancestor_22 (by decide +kernel) ?_
      subst hQ
      exact tk_iret hx hb hr hlocks (tk_an1 hc9).symm dX0_ancestor_24
    · refine lv_iload_n hx hb dX0_ancestor_12 rfl (lv_at hl 2 rfl) ?_
      refine lv_aload_n hx hb dX0_ancestor_13 rfl (lv_at hl 0 rfl) ?_
      refine va_get (D := (dC, dI)) (ci := 0) (v := .ref (q 1)) (C := RX0) (T := TX0) (N := 9) hx hb hts hin0 hown hK hP 0 rfl rfl 1 (by decide) fl13 (fun _ h9 => h9) rfl dX0_ancestor_14 ?_
      refine lv_iload_n hx hb dX0_ancestor_17 rfl (lv_at hl 1 rfl) ?_
      refine tk_rdi (v := nI (he j)) hx hb hK hP 2 1 rfl rfl (j) (by omega) (by decide) (hT.2.2.2.1 j hj).1 dX0_ancestor_18 ?_
      refine lv_icmp_le (tgt := 25) hx hb dX0_ancestor_19 (by decide) (fun hc19 => ?_) (fun hc19 => ?_)
      · obtain ⟨t, ht0, rfl⟩ := nI_of hc9
        have e19 := (nI_leI (by omega) (by omega)).mp hc19
        refine lv_aload_n hx hb dX0_ancestor_25 rfl (lv_at hl 0 rfl) ?_
        refine lv_iload_n hx hb dX0_ancestor_26 rfl (lv_at hl 1 rfl) ?_
        refine lv_iload_n hx hb dX0_ancestor_27 rfl (lv_at hl 2 rfl) ?_
        refine vp_callSi (W.runV (As := [.int (nI j), .int (nI t)]) (rest := []) ⟨hx, hb, hml, hown, hts⟩ (c0_ancestorAt l dC dI o q ca aP aH aT aA aG aK aZ aS n pa he hT j (he j - t) t hj (by omega)) (cwV 2 hts gX0_ancestor_X0_ancestorAt rfl rfl rfl (by decide +kernel) ⟨Nat.le_of_ble_eq_true rfl, Nat.le_of_ble_eq_true rfl⟩) (tk_pre hK hP rfl rfl) rfl rfl hl.1 rfl (lv_room (Nat.le_of_ble_eq_true rfl)) dX0_ancestor_28 ⟨Nat.le_of_ble_eq_true rfl, Nat.le_of_ble_eq_true rfl⟩) (fun r hr1 => ?_)
        refine tk_top (y := nI (tk_anc pa (he j - t) j)) hr1 ?_
        subst hQ
        exact tk_iret hx hb hr hlocks (tk_an3 hn hj ht0 e19).symm dX0_ancestor_31
      · refine lv_bipush (v := -2) hx hb dX0_ancestor_22 (by decide +kernel) ?_
        subst hQ
        exact tk_iret hx hb hr hlocks (tk_an2 hn hj hc19).symm dX0_ancestor_24
set_option maxHeartbeats 4000000 in
set_option maxRecDepth 100000 in
theorem c0_look (l : Launch) (dC : Nat → ClassId) (dI : Nat → Nat → Nat) (o : Nat) (q : Nat → Nat) (ca : Nat → ClassId) (aP aH aT aA aG aK aZ aS : Nat → Int32) (n : Nat) (hn : n ≤ 512) (b w : Int32) : Met l yX0_look wsX0_look ({ frames := 1, cells := 0, slots := 0, locals := 21 }) (tk_R (dC, dI) (tk_w0 o q ca aP aH aT aA aG aK aZ aS n) (tk_t0 ca) [.ref o, .int b, .int w]) (vp_Sl (fun r => r = tk_lk aH aP aT aG aK aZ n b w)) 0 0 (fun _ => False) := by
  refine Met.ofW (cc := cX0_look) (maxL := 3) (ret := (some .long)) (by decide) rfl ?_
  intro p e s m args below meth c s₁ B hml hv
  obtain ⟨rfl, hP, hK⟩ := hv
  have hx := B.exec
  have hb := B.bytes
  have hr := B.returns
  have hts := atoms_spec (ws := wsX0_look) B.pre
  have hown : s.vm.findClass RX0 = some m.cls := findClass_of_methodNamed B.named
  have hlocks := B.notSynchronized
  have hin0 : ∀ w ∈ u_ws RX0 TX0 9, w ∈ wsX0_look := by decide +kernel
  have kl65 := hts (.constantLong RX0 65 (-1)) (by decide +kernel)
  have kl67 := hts (.constantLong RX0 67 (-2)) (by decide +kernel)
  have fl13 := hts (.fieldLink RX0 13 "WorkTree" "heights" "[I") (by decide +kernel)
  have fl9 := hts (.fieldLink RX0 9 "WorkTree" "parents" "[I") (by decide +kernel)
  have fl16 := hts (.fieldLink RX0 16 "WorkTree" "times" "[I") (by decide +kernel)
  have fl22 := hts (.fieldLink RX0 22 "WorkTree" "targets" "[I") (by decide +kernel)
  have fl25 := hts (.fieldLink RX0 25 "WorkTree" "works" "[I") (by decide +kernel)
  have fl28 := hts (.fieldLink RX0 28 "WorkTree" "wrong" "[Z") (by decide +kernel)
  have hl := lv_entry ([.ref o, .int b, .int w]) (n := 3) (Nat.le_of_ble_eq_true rfl)
  rw [lg_entry_eq]
  generalize (lg_sl ([.ref o, .int b, .int w]) ++ List.replicate (3 - (lg_sl ([.ref o, .int b, .int w])).length) Slot.unset).toArray = ls at hl ⊢
  have hl : lv_has ls 3 [(0, .ref o), (1, .int b), (2, .int w)] := hl
  refine tk_Q (fun Q hQ => ?_)
  refine lv_iload_n hx hb dX0_look_0 rfl (lv_at hl 2 rfl) ?_
  refine lv_if_lt (tgt := 9) hx hb dX0_look_1 (by decide) (fun hc1 => ?_) (fun hc1 => ?_)
  · refine lv_ldc2 (v := -1) hx hb hown kl65 dX0_look_9 ?_
    subst hQ
    exact tk_lret hx hb hr hlocks (tk_lk_a hc1).symm dX0_look_12
  · refine lv_iload_n hx hb dX0_look_4 rfl (lv_at hl 2 rfl) ?_
    refine lv_iconst (v := nI 5) hx hb dX0_look_5 (by decide +kernel) ?_
    refine lv_icmp_le (tgt := 13) hx hb dX0_look_6 (by decide) (fun hc6 => ?_) (fun hc6 => ?_)
    · refine lv_aload_n hx hb dX0_look_13 rfl (lv_at hl 0 rfl) ?_
      refine lv_iload_n hx hb dX0_look_14 rfl (lv_at hl 1 rfl) ?_
      refine vp_callSi (W.runV (As := [.int b]) (rest := []) ⟨hx, hb, hml, hown, hts⟩ (c0_exists l dC dI o q ca aP aH aT aA aG aK aZ aS n b) (cwV 1 hts gX0_look_X0_exists rfl rfl rfl (by decide +kernel) ⟨Nat.le_of_ble_eq_true rfl, Nat.le_of_ble_eq_true rfl⟩) (tk_pre hK hP rfl rfl) rfl rfl hl.1 rfl (lv_room (Nat.le_of_ble_eq_true rfl)) dX0_look_15 ⟨Nat.le_of_ble_eq_true rfl, Nat.le_of_ble_eq_true rfl⟩) (fun r hr1 => ?_)
      refine tk_top (y := tk_ex n b) hr1 ?_
      refine lv_if_ne (tgt := 25) hx hb dX0_look_18 (by decide) (fun hc18 => ?_) (fun hc18 => ?_)
      · obtain ⟨j, hj, rfl⟩ := tk_ex_t hn hc18
        obtain ⟨k, hk, rfl⟩ := nI_of hc1
        refine lv_iload_n hx hb dX0_look_25 rfl (lv_at hl 2 rfl) ?_
        have e6 : k ≤ 5 := (nI_leI (by omega) (by decide)).mp hc6
        rcases (show k = 0 ∨ k = 1 ∨ k = 2 ∨ k = 3 ∨ k = 4 ∨ k = 5 by omega) with rfl | rfl | rfl | rfl | rfl | rfl
        · refine lv_tableIn (tgt := 60) (off := 34) hx hb dX0_look_26 (by decide +kernel) (by decide +kernel) (by decide +kernel) (by decide) ?_
          refine lv_aload_n hx hb dX0_look_60 rfl (lv_at hl 0 rfl) ?_
          refine va_get (D := (dC, dI)) (ci := 0) (v := .ref (q 1)) (C := RX0) (T := TX0) (N := 9) hx hb hts hin0 hown hK hP 0 rfl rfl 1 (by decide) fl13 (fun _ h9 => h9) rfl dX0_look_61 ?_
          refine lv_iload_n hx hb dX0_look_64 rfl (lv_at hl 1 rfl) ?_
          refine tk_rdi (v := aH j) hx hb hK hP 2 1 rfl rfl (j) (by omega) (by decide) rfl dX0_look_65 ?_
          refine lv_i2l (v := (aH j).toInt64) hx hb dX0_look_66 rfl ?_
          subst hQ
          exact tk_lret hx hb hr hlocks (tk_lk_0 hn hj).symm dX0_look_67
        · refine lv_tableIn (tgt := 68) (off := 42) hx hb dX0_look_26 (by decide +kernel) (by decide +kernel) (by decide +kernel) (by decide) ?_
          refine lv_aload_n hx hb dX0_look_68 rfl (lv_at hl 0 rfl) ?_
          refine va_get (D := (dC, dI)) (ci := 0) (v := .ref (q 0)) (C := RX0) (T := TX0) (N := 9) hx hb hts hin0 hown hK hP 0 rfl rfl 0 (by decide) fl9 (fun _ h9 => h9) rfl dX0_look_69 ?_
          refine lv_iload_n hx hb dX0_look_72 rfl (lv_at hl 1 rfl) ?_
          refine tk_rdi (v := aP j) hx hb hK hP 1 0 rfl rfl (j) (by omega) (by decide) rfl dX0_look_73 ?_
          refine lv_i2l (v := (aP j).toInt64) hx hb dX0_look_74 rfl ?_
          subst hQ
          exact tk_lret hx hb hr hlocks (tk_lk_1 hn hj).symm dX0_look_75
        · refine lv_tableIn (tgt := 76) (off := 50) hx hb dX0_look_26 (by decide +kernel) (by decide +kernel) (by decide +kernel) (by decide) ?_
          refine lv_aload_n hx hb dX0_look_76 rfl (lv_at hl 0 rfl) ?_
          refine va_get (D := (dC, dI)) (ci := 0) (v := .ref (q 2)) (C := RX0) (T := TX0) (N := 9) hx hb hts hin0 hown hK hP 0 rfl rfl 2 (by decide) fl16 (fun _ h9 => h9) rfl dX0_look_77 ?_
          refine lv_iload_n hx hb dX0_look_80 rfl (lv_at hl 1 rfl) ?_
          refine tk_rdi (v := aT j) hx hb hK hP 3 2 rfl rfl (j) (by omega) (by decide) rfl dX0_look_81 ?_
          refine lv_i2l (v := (aT j).toInt64) hx hb dX0_look_82 rfl ?_
          subst hQ
          exact tk_lret hx hb hr hlocks (tk_lk_2 hn hj).symm dX0_look_83
        · refine lv_tableIn (tgt := 84) (off := 58) hx hb dX0_look_26 (by decide +kernel) (by decide +kernel) (by decide +kernel) (by decide) ?_
          refine lv_aload_n hx hb dX0_look_84 rfl (lv_at hl 0 rfl) ?_
          refine va_get (D := (dC, dI)) (ci := 0) (v := .ref (q 4)) (C := RX0) (T := TX0) (N := 9) hx hb hts hin0 hown hK hP 0 rfl rfl 4 (by decide) fl22 (fun _ h9 => h9) rfl dX0_look_85 ?_
          refine lv_iload_n hx hb dX0_look_88 rfl (lv_at hl 1 rfl) ?_
          refine tk_rdi (v := aG j) hx hb hK hP 5 4 rfl rfl (j) (by omega) (by decide) rfl dX0_look_89 ?_
          refine lv_i2l (v := (aG j).toInt64) hx hb dX0_look_90 rfl ?_
          subst hQ
          exact tk_lret hx hb hr hlocks (tk_lk_3 hn hj).symm dX0_look_91
        · refine lv_tableIn (tgt := 92) (off := 66) hx hb dX0_look_26 (by decide +kernel) (by decide +kernel) (by decide +kernel) (by decide) ?_
          refine lv_aload_n hx hb dX0_look_92 rfl (lv_at hl 0 rfl) ?_
          refine va_get (D := (dC, dI)) (ci := 0) (v := .ref (q 5)) (C := RX0) (T := TX0) (N := 9) hx hb hts hin0 hown hK hP 0 rfl rfl 5 (by decide) fl25 (fun _ h9 => h9) rfl dX0_look_93 ?_
          refine lv_iload_n hx hb dX0_look_96 rfl (lv_at hl 1 rfl) ?_
          refine tk_rdi (v := aK j) hx hb hK hP 6 5 rfl rfl (j) (by omega) (by decide) rfl dX0_look_97 ?_
          refine lv_i2l (v := (aK j).toInt64) hx hb dX0_look_98 rfl ?_
          subst hQ
          exact tk_lret hx hb hr hlocks (tk_lk_4 hn hj).symm dX0_look_99
        · refine lv_tableOut (tgt := 100) hx hb dX0_look_26 (by decide +kernel) (by decide) ?_
          refine lv_aload_n hx hb dX0_look_100 rfl (lv_at hl 0 rfl) ?_
          refine va_get (D := (dC, dI)) (ci := 0) (v := .ref (q 6)) (C := RX0) (T := TX0) (N := 9) hx hb hts hin0 hown hK hP 0 rfl rfl 6 (by decide) fl28 (fun _ h9 => h9) rfl dX0_look_101 ?_
          refine lv_iload_n hx hb dX0_look_104 rfl (lv_at hl 1 rfl) ?_
          refine tk_rdz (v := aZ j) hx hb hK hP 7 6 rfl rfl (j) (by omega) (by decide) rfl dX0_look_105 ?_
          refine lv_if_eq (tgt := 113) hx hb dX0_look_106 (by decide) (fun hc106 => ?_) (fun hc106 => ?_)
          · refine lv_lconst (v := 0) hx hb dX0_look_113 (by decide +kernel) ?_
            subst hQ
            exact tk_lret hx hb hr hlocks (tk_lk_5 hn hj hc106).symm dX0_look_114
          · refine lv_lconst (v := 1) hx hb dX0_look_109 (by decide +kernel) ?_
            refine lv_goto (tgt := 114) hx hb dX0_look_110 (by decide) ?_
            subst hQ
            exact tk_lret hx hb hr hlocks (tk_lk_6 hn hj hc106).symm dX0_look_114
      · refine lv_ldc2 (v := -2) hx hb hown kl67 dX0_look_21 ?_
        subst hQ
        exact tk_lret hx hb hr hlocks (tk_lk_c hc1 hc6 hc18).symm dX0_look_24
    · refine lv_ldc2 (v := -1) hx hb hown kl65 dX0_look_9 ?_
      subst hQ
      exact tk_lret hx hb hr hlocks (tk_lk_b hc1 hc6).symm dX0_look_12
end
section
set_option maxHeartbeats 4000000 in
set_option maxRecDepth 100000 in
theorem c0_fork (l : Launch) (dC : Nat → ClassId) (dI : Nat → Nat → Nat) (o : Nat) (q : Nat → Nat) (ca : Nat → ClassId) (aP aH aT aA aG aK aZ aS : Nat → Int32) (n : Nat) (pa he : Nat → Nat) (hT : tk_I aP aH pa he n) (b1 b2 : Int32) : Met l yX0_fork wsX0_fork ({ frames := 1, cells := 0, slots := 0, locals := 24 }) (tk_R (dC, dI) (tk_w0 o q ca aP aH aT aA aG aK aZ aS n) (tk_t0 ca) [.ref o, .int b1, .int b2]) (vp_Si (fun r => r = tk_fr pa he n b1 b2)) 0 0 (fun _ => False) := by
  refine Met.ofW (cc := cX0_fork) (maxL := 7) (ret := (some .int)) (by decide) rfl ?_
  intro p e s m args below meth c s₁ B hml hv
  obtain ⟨rfl, hP, hK⟩ := hv
  have hx := B.exec
  have hb := B.bytes
  have hr := B.returns
  have hts := atoms_spec (ws := wsX0_fork) B.pre
  have hown : s.vm.findClass RX0 = some m.cls := findClass_of_methodNamed B.named
  have hlocks := B.notSynchronized
  have hin0 : ∀ w ∈ u_ws RX0 TX0 9, w ∈ wsX0_fork := by decide +kernel
  have fl13 := hts (.fieldLink RX0 13 "WorkTree" "heights" "[I") (by decide +kernel)
  have ml56 := hts (.methodLink RX0 56 Lib.Math.min.name) (by decide +kernel)
  have ms56 := hts (.static Lib.Math.min.name) (by decide +kernel)
  have mi56 := hts (.initialized "java/lang/Math") (by decide +kernel)
  have mc56 := hts (.code Lib.Math.min.name Lib.Math.min.code 2 (some .int)) (by decide +kernel)
  have fl9 := hts (.fieldLink RX0 9 "WorkTree" "parents" "[I") (by decide +kernel)
  have hl := lv_entry ([.ref o, .int b1, .int b2]) (n := 7) (Nat.le_of_ble_eq_true rfl)
  rw [lg_entry_eq]
  generalize (lg_sl ([.ref o, .int b1, .int b2]) ++ List.replicate (7 - (lg_sl ([.ref o, .int b1, .int b2])).length) Slot.unset).toArray = ls at hl ⊢
  have hl : lv_has ls 7 [(0, .ref o), (1, .int b1), (2, .int b2)] := hl
  refine tk_Q (fun Q hQ => ?_)
  have hn := hT.1.2
  refine lv_aload_n hx hb dX0_fork_0 rfl (lv_at hl 0 rfl) ?_
  refine lv_iload_n hx hb dX0_fork_1 rfl (lv_at hl 1 rfl) ?_
  refine vp_callSi (W.runV (As := [.int b1]) (rest := []) ⟨hx, hb, hml, hown, hts⟩ (c0_exists l dC dI o q ca aP aH aT aA aG aK aZ aS n b1) (cwV 1 hts gX0_fork_X0_exists rfl rfl rfl (by decide +kernel) ⟨Nat.le_of_ble_eq_true rfl, Nat.le_of_ble_eq_true rfl⟩) (tk_pre hK hP rfl rfl) rfl rfl hl.1 rfl (lv_room (Nat.le_of_ble_eq_true rfl)) dX0_fork_2 ⟨Nat.le_of_ble_eq_true rfl, Nat.le_of_ble_eq_true rfl⟩) (fun r hr1 => ?_)
  refine tk_top (y := tk_ex n b1) hr1 ?_
  refine lv_if_eq (tgt := 16) hx hb dX0_fork_5 (by decide) (fun hc5 => ?_) (fun hc5 => ?_)
  · refine lv_bipush (v := -2) hx hb dX0_fork_16 (by decide +kernel) ?_
    subst hQ
    exact tk_iret hx hb hr hlocks (tk_fr0 hc5).symm dX0_fork_18
  · obtain ⟨i, hi, rfl⟩ := tk_ex_t hn hc5
    have hii := (hT.2.2.2.1 i hi).2
    refine lv_aload_n hx hb dX0_fork_8 rfl (lv_at hl 0 rfl) ?_
    refine lv_iload_n hx hb dX0_fork_9 rfl (lv_at hl 2 rfl) ?_
    refine vp_callSi (W.runV (As := [.int b2]) (rest := []) ⟨hx, hb, hml, hown, hts⟩ (c0_exists l dC dI o q ca aP aH aT aA aG aK aZ aS n b2) (cwV 1 hts gX0_fork_X0_exists rfl rfl rfl (by decide +kernel) ⟨Nat.le_of_ble_eq_true rfl, Nat.le_of_ble_eq_true rfl⟩) (tk_pre hK hP rfl rfl) rfl rfl hl.1 rfl (lv_room (Nat.le_of_ble_eq_true rfl)) dX0_fork_10 ⟨Nat.le_of_ble_eq_true rfl, Nat.le_of_ble_eq_true rfl⟩) (fun r hr1 => ?_)
    refine tk_top (y := tk_ex n b2) hr1 ?_
    refine lv_if_ne (tgt := 19) hx hb dX0_fork_13 (by decide) (fun hc13 => ?_) (fun hc13 => ?_)
    · obtain ⟨j, hj, rfl⟩ := tk_ex_t hn hc13
      have hjj := (hT.2.2.2.1 j hj).2
      refine lv_aload_n hx hb dX0_fork_19 rfl (lv_at hl 0 rfl) ?_
      refine va_get (D := (dC, dI)) (ci := 0) (v := .ref (q 1)) (C := RX0) (T := TX0) (N := 9) hx hb hts hin0 hown hK hP 0 rfl rfl 1 (by decide) fl13 (fun _ h9 => h9) rfl dX0_fork_20 ?_
      refine lv_iload_n hx hb dX0_fork_23 rfl (lv_at hl 1 rfl) ?_
      refine tk_rdi (v := nI (he i)) hx hb hK hP 2 1 rfl rfl (i) (by omega) (by decide) (hT.2.2.2.1 i hi).1 dX0_fork_24 ?_
      refine lv_aload_n hx hb dX0_fork_25 rfl (lv_at hl 0 rfl) ?_
      refine va_get (D := (dC, dI)) (ci := 0) (v := .ref (q 1)) (C := RX0) (T := TX0) (N := 9) hx hb hts hin0 hown hK hP 0 rfl rfl 1 (by decide) fl13 (fun _ h9 => h9) rfl dX0_fork_26 ?_
      refine lv_iload_n hx hb dX0_fork_29 rfl (lv_at hl 2 rfl) ?_
      refine tk_rdi (v := nI (he j)) hx hb hK hP 2 1 rfl rfl (j) (by omega) (by decide) (hT.2.2.2.1 j hj).1 dX0_fork_30 ?_
      refine va_mmin hx hb (hml.trans hl.1.symm) hown ml56 ms56 mi56 mc56 (Nat.le_of_ble_eq_true rfl) (Nat.le_of_ble_eq_true rfl) (Nat.le_of_ble_eq_true rfl) (Nat.le_of_ble_eq_true rfl) dX0_fork_31 ?_
      refine tk_top (y := nI (tk_mn (he i) (he j))) (tk_mnI (by omega) (by omega)) ?_
      obtain ⟨mn1, mn2⟩ := tk_mn_le (a := he i) (b := he j)
      have hzz : nI (tk_fork pa he i j) = tk_fr pa he n (nI i) (nI j) := (tk_fr2 hn hi hj).symm
      unfold tk_fork at hzz
      generalize tk_mn (he i) (he j) = hm at hzz mn1 mn2 ⊢
      obtain ⟨an1, an2⟩ := tk_anc_in hT (he i - hm) i hi (by omega)
      obtain ⟨bn1, bn2⟩ := tk_anc_in hT (he j - hm) j hj (by omega)
      refine lv_istore_n hx hb dX0_fork_34 rfl hl (by decide) rfl (fun ls hl => ?_)
      have hl : lv_has ls 7 [(3, .int (nI hm)), (0, .ref o), (1, .int (nI i)), (2, .int (nI j))] := hl
      refine lv_aload_n hx hb dX0_fork_35 rfl (lv_at hl 1 rfl) ?_
      refine lv_iload_n hx hb dX0_fork_36 rfl (lv_at hl 2 rfl) ?_
      refine lv_iload_n hx hb dX0_fork_37 rfl (lv_at hl 0 rfl) ?_
      refine vp_callSi (W.runV (As := [.int (nI i), .int (nI hm)]) (rest := []) ⟨hx, hb, hml, hown, hts⟩ (c0_ancestorAt l dC dI o q ca aP aH aT aA aG aK aZ aS n pa he hT i (he i - hm) hm hi (by omega)) (cwV 2 hts gX0_fork_X0_ancestorAt rfl rfl rfl (by decide +kernel) ⟨Nat.le_of_ble_eq_true rfl, Nat.le_of_ble_eq_true rfl⟩) (tk_pre hK hP rfl rfl) rfl rfl hl.1 rfl (lv_room (Nat.le_of_ble_eq_true rfl)) dX0_fork_38 ⟨Nat.le_of_ble_eq_true rfl, Nat.le_of_ble_eq_true rfl⟩) (fun r hr1 => ?_)
      refine tk_top (y := nI (tk_anc pa (he i - hm) i)) hr1 ?_
      refine lv_istore hx hb dX0_fork_41 hl (by decide) rfl (fun ls hl => ?_)
      have hl : lv_has ls 7 [(4, .int (nI (tk_anc pa (he i - hm) i))), (3, .int (nI hm)), (0, .ref o), (1, .int (nI i)), (2, .int (nI j))] := hl
      refine lv_aload_n hx hb dX0_fork_43 rfl (lv_at hl 2 rfl) ?_
      refine lv_iload_n hx hb dX0_fork_44 rfl (lv_at hl 4 rfl) ?_
      refine lv_iload_n hx hb dX0_fork_45 rfl (lv_at hl 1 rfl) ?_
      refine vp_callSi (W.runV (As := [.int (nI j), .int (nI hm)]) (rest := []) ⟨hx, hb, hml, hown, hts⟩ (c0_ancestorAt l dC dI o q ca aP aH aT aA aG aK aZ aS n pa he hT j (he j - hm) hm hj (by omega)) (cwV 2 hts gX0_fork_X0_ancestorAt rfl rfl rfl (by decide +kernel) ⟨Nat.le_of_ble_eq_true rfl, Nat.le_of_ble_eq_true rfl⟩) (tk_pre hK hP rfl rfl) rfl rfl hl.1 rfl (lv_room (Nat.le_of_ble_eq_true rfl)) dX0_fork_46 ⟨Nat.le_of_ble_eq_true rfl, Nat.le_of_ble_eq_true rfl⟩) (fun r hr1 => ?_)
      refine tk_top (y := nI (tk_anc pa (he j - hm) j)) hr1 ?_
      refine lv_istore hx hb dX0_fork_49 hl (by decide) rfl (fun ls hl => ?_)
      have hl : lv_has ls 7 [(5, .int (nI (tk_anc pa (he j - hm) j))), (4, .int (nI (tk_anc pa (he i - hm) i))), (3, .int (nI hm)), (0, .ref o), (1, .int (nI i)), (2, .int (nI j))] := hl
      refine lv_iload_n hx hb dX0_fork_51 rfl (lv_at hl 2 rfl) ?_
      refine lv_istore hx hb dX0_fork_52 hl (by decide) rfl (fun ls hl => ?_)
      have hl : lv_has ls 7 [(6, .int (nI hm)), (5, .int (nI (tk_anc pa (he j - hm) j))), (4, .int (nI (tk_anc pa (he i - hm) i))), (3, .int (nI hm)), (0, .ref o), (1, .int (nI i)), (2, .int (nI j))] := hl
      generalize hzq : tk_fk pa hm (tk_anc pa (he i - hm) i) (tk_anc pa (he j - hm) j) = z at hzz
      have loop : ∀ (hh : Nat) (a b : Nat) (ls : Array Slot), a < n → b < n → he a = hh → he b = hh → tk_fk pa hh a b = z → lv_has ls 7 [(6, .int (nI hh)), (5, .int (nI b)), (4, .int (nI a)), (3, .int (nI hm)), (0, .ref o), (1, .int (nI i)), (2, .int (nI j))] → W p l e (headSpec wsX0_fork ({ frames := 1, cells := 0, slots := 0, locals := 24 })).room s m ([.ref o, .int (nI i), .int (nI j)] : List Value).toArray below meth c s.heap [] 0 0 Q (F0 m 54 ls []) := by
        intro hh
        induction hh with
        | zero =>
          intro a b ls ha hb0 hea heb hz hl
          have hha := (hT.2.2.2.1 a ha).2
          refine lv_iload hx hb dX0_fork_54 (lv_at hl 0 rfl) ?_
          refine lv_if_le (tgt := 90) hx hb dX0_fork_56 (by decide) (fun hc56 => ?_) (fun hc56 => ?_)
          · refine lv_iload hx hb dX0_fork_90 (lv_at hl 2 rfl) ?_
            subst hQ
            exact tk_iret hx hb hr hlocks (show nI a = _ from (congrArg nI hz).trans hzz) dX0_fork_92
          · exact absurd ((tk_le0 (by omega)).mpr rfl) hc56
        | succ hh ih =>
          intro a b ls ha hb0 hea heb hz hl
          have hha := (hT.2.2.2.1 a ha).2
          refine lv_iload hx hb dX0_fork_54 (lv_at hl 0 rfl) ?_
          refine lv_if_le (tgt := 90) hx hb dX0_fork_56 (by decide) (fun hc56 => ?_) (fun hc56 => ?_)
          · exact absurd ((tk_le0 (by omega)).mp hc56) (by omega)
          · obtain ⟨u1, u2, u3, u4⟩ := tk_up hT ha (by omega)
            obtain ⟨v1, v2, v3, v4⟩ := tk_up hT hb0 (by omega)
            refine lv_iload hx hb dX0_fork_59 (lv_at hl 2 rfl) ?_
            refine lv_iload hx hb dX0_fork_61 (lv_at hl 1 rfl) ?_
            refine lv_icmp_eq (tgt := 90) hx hb dX0_fork_63 (by decide) (fun hc63 => ?_) (fun hc63 => ?_)
            · have e63 := (nI_eq (by omega) (by omega)).mp hc63
              refine lv_iload hx hb dX0_fork_90 (lv_at hl 2 rfl) ?_
              subst hQ
              exact tk_iret hx hb hr hlocks (show nI a = _ from (congrArg nI ((tk_fk_t e63).symm.trans hz)).trans hzz) dX0_fork_92
            · have e63 : ¬ a = b := fun z9 => hc63 (congrArg nI z9)
              refine lv_aload_n hx hb dX0_fork_66 rfl (lv_at hl 4 rfl) ?_
              refine va_get (D := (dC, dI)) (ci := 0) (v := .ref (q 0)) (C := RX0) (T := TX0) (N := 9) hx hb hts hin0 hown hK hP 0 rfl rfl 0 (by decide) fl9 (fun _ h9 => h9) rfl dX0_fork_67 ?_
              refine lv_iload hx hb dX0_fork_70 (lv_at hl 2 rfl) ?_
              refine tk_rdi (v := nI (pa a)) hx hb hK hP 1 0 rfl rfl (a) (by omega) (by decide) u2 dX0_fork_72 ?_
              refine lv_istore hx hb dX0_fork_73 hl (by decide) rfl (fun ls hl => ?_)
              have hl : lv_has ls 7 [(4, .int (nI (pa a))), (6, .int (nI (hh + 1))), (5, .int (nI b)), (3, .int (nI hm)), (0, .ref o), (1, .int (nI i)), (2, .int (nI j))] := hl
              refine lv_aload_n hx hb dX0_fork_75 rfl (lv_at hl 4 rfl) ?_
              refine va_get (D := (dC, dI)) (ci := 0) (v := .ref (q 0)) (C := RX0) (T := TX0) (N := 9) hx hb hts hin0 hown hK hP 0 rfl rfl 0 (by decide) fl9 (fun _ h9 => h9) rfl dX0_fork_76 ?_
              refine lv_iload hx hb dX0_fork_79 (lv_at hl 2 rfl) ?_
              refine tk_rdi (v := nI (pa b)) hx hb hK hP 1 0 rfl rfl (b) (by omega) (by decide) v2 dX0_fork_81 ?_
              refine lv_istore hx hb dX0_fork_82 hl (by decide) rfl (fun ls hl => ?_)
              have hl : lv_has ls 7 [(5, .int (nI (pa b))), (4, .int (nI (pa a))), (6, .int (nI (hh + 1))), (3, .int (nI hm)), (0, .ref o), (1, .int (nI i)), (2, .int (nI j))] := hl
              refine lv_iinc (k := 2) (v := nI hh) hx hb dX0_fork_84 hl rfl (tk_dec hh) (by decide) rfl (fun ls hl => ?_)
              have hl : lv_has ls 7 [(6, .int (nI hh)), (5, .int (nI (pa b))), (4, .int (nI (pa a))), (3, .int (nI hm)), (0, .ref o), (1, .int (nI i)), (2, .int (nI j))] := hl
              refine lv_goto (tgt := 54) hx hb dX0_fork_87 (by decide) ?_
              exact ih (pa a) (pa b) ls (by omega) (by omega) (by omega) (by omega) ((tk_fk_f e63).symm.trans hz) hl
      exact loop hm _ _ ls (by omega) (by omega) (by omega) (by omega) hzq hl
    · refine lv_bipush (v := -2) hx hb dX0_fork_16 (by decide +kernel) ?_
      subst hQ
      exact tk_iret hx hb hr hlocks (tk_fr1 hc13).symm dX0_fork_18
end
section
set_option maxHeartbeats 4000000 in
set_option maxRecDepth 100000 in
theorem c0_insertTime (l : Launch) (dC : Nat → ClassId) (dI : Nat → Nat → Nat) (o : Nat) (q : Nat → Nat) (ca : Nat → ClassId) (aP aH aT aA aG aK aZ aS : Nat → Int32) (n : Nat) (sz : Nat) (tm : Int32) (f : Nat) (hf : f < 7) : Met l yX0_insertTime wsX0_insertTime ({ frames := 0, cells := 0, slots := 0, locals := 0 }) (tk_Wp (dC, dI) (tk_w0 o q ca aP aH aT aA aG aK aZ aS n) (tk_t0 ca) sz [.ref o, .int tm, .int (nI f)]) (va_Qv (fun u : va_W => u = tk_w0 o q ca aP aH aT aA aG aK aZ (tk_ins tm f aS) n) (tk_E (dC, dI) (tk_t0 ca) (va_A (tk_w0 o q ca aP aH aT aA aG aK aZ aS n) sz)) (va_A (tk_w0 o q ca aP aH aT aA aG aK aZ aS n) sz)) 0 0 (va_A (tk_w0 o q ca aP aH aT aA aG aK aZ aS n) sz) := by
  refine Met.ofW (cc := cX0_insertTime) (maxL := 4) (ret := none) (by decide) rfl ?_
  intro p e s m args below meth c s₁ B hml hv
  obtain ⟨rfl, hsz, hP, hK, hD0⟩ := hv
  have hx := B.exec
  have hb := B.bytes
  have hr := B.returns
  have hts := atoms_spec (ws := wsX0_insertTime) B.pre
  have hown : s.vm.findClass RX0 = some m.cls := findClass_of_methodNamed B.named
  have hlocks := B.notSynchronized
  have hin0 : ∀ w ∈ u_ws RX0 TX0 9, w ∈ wsX0_insertTime := by decide +kernel
  have fl32 := hts (.fieldLink RX0 32 "WorkTree" "sortedTimes" "[I") (by decide +kernel)
  subst hsz
  have hD := hD0.self (sz := s.heap.size)
  generalize hAe : va_A (tk_w0 o q ca aP aH aT aA aG aK aZ aS n) s.heap.size = A at hD ⊢
  have hA : ∀ q : Nat, s.heap.size ≤ q → A q := fun q h => by rw [← hAe]; exact Or.inr h
  have hS : va_S A s.heap s.heap [] := va_S.rf
  have hl := lv_entry ([.ref o, .int tm, .int (nI f)]) (n := 4) (Nat.le_of_ble_eq_true rfl)
  rw [lg_entry_eq]
  generalize (lg_sl ([.ref o, .int tm, .int (nI f)]) ++ List.replicate (4 - (lg_sl ([.ref o, .int tm, .int (nI f)])).length) Slot.unset).toArray = ls at hl ⊢
  have hl : lv_has ls 4 [(0, .ref o), (1, .int tm), (2, .int (nI f))] := hl
  refine tk_Q (fun Q hQ => ?_)
  generalize hzz : tk_ins tm f aS = z at hQ
  have loop : ∀ (k : Nat) (S : Nat → Int32) (Hp : Heap) (locs : List Loc) (ls : Array Slot), k < 7 → tk_ins tm k S = z → va_P (dC, dI) vwCl (tk_w0 o q ca aP aH aT aA aG aK aZ S n) Hp → va_D A (tk_w0 o q ca aP aH aT aA aG aK aZ S n) → va_S A s.heap Hp locs → lv_has ls 4 [(3, .int (nI k)), (0, .ref o), (1, .int tm), (2, .int (nI f))] → W p l e (headSpec wsX0_insertTime ({ frames := 0, cells := 0, slots := 0, locals := 0 })).room s m ([.ref o, .int tm, .int (nI f)] : List Value).toArray below meth c Hp locs 0 0 Q (F0 m 2 ls []) := by
    intro k
    induction k with
    | zero =>
      intro S Hp locs ls hk hz hP hD hS hl
      refine lv_iload_n hx hb dX0_insertTime_2 rfl (lv_at hl 0 rfl) ?_
      refine lv_if_le (tgt := 38) hx hb dX0_insertTime_3 (by decide) (fun hc3 => ?_) (fun hc3 => ?_)
      · refine lv_aload_n hx hb dX0_insertTime_38 rfl (lv_at hl 1 rfl) ?_
        refine va_get (D := (dC, dI)) (ci := 0) (v := .ref (q 7)) (C := RX0) (T := TX0) (N := 9) hx hb hts hin0 hown hK hP 0 rfl rfl 7 (by decide) fl32 (fun _ h9 => h9) rfl dX0_insertTime_39 ?_
        refine lv_iload_n hx hb dX0_insertTime_42 rfl (lv_at hl 0 rfl) ?_
        refine lv_iload_n hx hb dX0_insertTime_43 rfl (lv_at hl 2 rfl) ?_
        refine tk_sti hx hb hK hP hD hS 8 7 rfl rfl 0 (by omega) (by decide) dX0_insertTime_44 (fun Hp locs hP hD hS => ?_)
        have hP : va_P (dC, dI) vwCl (tk_w0 o q ca aP aH aT aA aG aK aZ (upd S 0 tm) n) Hp := hP
        have hD : va_D A (tk_w0 o q ca aP aH aT aA aG aK aZ (upd S 0 tm) n) := hD
        subst hQ
        exact W.vret hx hb hr (fun t ht hW => ⟨⟨tk_w0 o q ca aP aH aT aA aG aK aZ (upd S 0 tm) n, rfl, (congrArg (fun S9 : Nat → Int32 => tk_w0 o q ca aP aH aT aA aG aK aZ S9 n) hz), by rw [ht]; exact hP, va_K.moved hW.alike hK, hD⟩, hS.F ht⟩) hS.2.2 dX0_insertTime_45
      · exact absurd ((tk_le0 (by omega)).mpr rfl) hc3
    | succ k ih =>
      intro S Hp locs ls hk hz hP hD hS hl
      refine lv_iload_n hx hb dX0_insertTime_2 rfl (lv_at hl 0 rfl) ?_
      refine lv_if_le (tgt := 38) hx hb dX0_insertTime_3 (by decide) (fun hc3 => ?_) (fun hc3 => ?_)
      · exact absurd ((tk_le0 (by omega)).mp hc3) (by omega)
      · refine lv_aload_n hx hb dX0_insertTime_6 rfl (lv_at hl 1 rfl) ?_
        refine va_get (D := (dC, dI)) (ci := 0) (v := .ref (q 7)) (C := RX0) (T := TX0) (N := 9) hx hb hts hin0 hown hK hP 0 rfl rfl 7 (by decide) fl32 (fun _ h9 => h9) rfl dX0_insertTime_7 ?_
        refine lv_iload_n hx hb dX0_insertTime_10 rfl (lv_at hl 0 rfl) ?_
        refine lv_iconst (v := nI 1) hx hb dX0_insertTime_11 (by decide +kernel) ?_
        refine lv_isub hx hb dX0_insertTime_12 ?_
        refine tk_top (y := nI k) (tk_sub1 k) ?_
        refine tk_rdi (v := S k) hx hb hK hP 8 7 rfl rfl (k) (by omega) (by decide) rfl dX0_insertTime_13 ?_
        refine lv_iload_n hx hb dX0_insertTime_14 rfl (lv_at hl 2 rfl) ?_
        refine lv_icmp_le (tgt := 38) hx hb dX0_insertTime_15 (by decide) (fun hc15 => ?_) (fun hc15 => ?_)
        · refine lv_aload_n hx hb dX0_insertTime_38 rfl (lv_at hl 1 rfl) ?_
          refine va_get (D := (dC, dI)) (ci := 0) (v := .ref (q 7)) (C := RX0) (T := TX0) (N := 9) hx hb hts hin0 hown hK hP 0 rfl rfl 7 (by decide) fl32 (fun _ h9 => h9) rfl dX0_insertTime_39 ?_
          refine lv_iload_n hx hb dX0_insertTime_42 rfl (lv_at hl 0 rfl) ?_
          refine lv_iload_n hx hb dX0_insertTime_43 rfl (lv_at hl 2 rfl) ?_
          refine tk_sti hx hb hK hP hD hS 8 7 rfl rfl (k + 1) (by omega) (by decide) dX0_insertTime_44 (fun Hp locs hP hD hS => ?_)
          have hP : va_P (dC, dI) vwCl (tk_w0 o q ca aP aH aT aA aG aK aZ (upd S (k + 1) tm) n) Hp := hP
          have hD : va_D A (tk_w0 o q ca aP aH aT aA aG aK aZ (upd S (k + 1) tm) n) := hD
          subst hQ
          exact W.vret hx hb hr (fun t ht hW => ⟨⟨tk_w0 o q ca aP aH aT aA aG aK aZ (upd S (k + 1) tm) n, rfl, (congrArg (fun S9 : Nat → Int32 => tk_w0 o q ca aP aH aT aA aG aK aZ S9 n) ((tk_ins_f (tk_nlt hc15)).symm.trans hz)), by rw [ht]; exact hP, va_K.moved hW.alike hK, hD⟩, hS.F ht⟩) hS.2.2 dX0_insertTime_45
        · refine lv_aload_n hx hb dX0_insertTime_18 rfl (lv_at hl 1 rfl) ?_
          refine va_get (D := (dC, dI)) (ci := 0) (v := .ref (q 7)) (C := RX0) (T := TX0) (N := 9) hx hb hts hin0 hown hK hP 0 rfl rfl 7 (by decide) fl32 (fun _ h9 => h9) rfl dX0_insertTime_19 ?_
          refine lv_iload_n hx hb dX0_insertTime_22 rfl (lv_at hl 0 rfl) ?_
          refine lv_aload_n hx hb dX0_insertTime_23 rfl (lv_at hl 1 rfl) ?_
          refine va_get (D := (dC, dI)) (ci := 0) (v := .ref (q 7)) (C := RX0) (T := TX0) (N := 9) hx hb hts hin0 hown hK hP 0 rfl rfl 7 (by decide) fl32 (fun _ h9 => h9) rfl dX0_insertTime_24 ?_
          refine lv_iload_n hx hb dX0_insertTime_27 rfl (lv_at hl 0 rfl) ?_
          refine lv_iconst (v := nI 1) hx hb dX0_insertTime_28 (by decide +kernel) ?_
          refine lv_isub hx hb dX0_insertTime_29 ?_
          refine tk_top (y := nI k) (tk_sub1 k) ?_
          refine tk_rdi (v := S k) hx hb hK hP 8 7 rfl rfl (k) (by omega) (by decide) rfl dX0_insertTime_30 ?_
          refine tk_sti hx hb hK hP hD hS 8 7 rfl rfl (k + 1) (by omega) (by decide) dX0_insertTime_31 (fun Hp locs hP hD hS => ?_)
          have hP : va_P (dC, dI) vwCl (tk_w0 o q ca aP aH aT aA aG aK aZ (upd S (k + 1) (S k)) n) Hp := hP
          have hD : va_D A (tk_w0 o q ca aP aH aT aA aG aK aZ (upd S (k + 1) (S k)) n) := hD
          refine lv_iinc (k := 0) (v := nI k) hx hb dX0_insertTime_32 hl rfl (tk_dec k) (by decide) rfl (fun ls hl => ?_)
          have hl : lv_has ls 4 [(3, .int (nI k)), (0, .ref o), (1, .int tm), (2, .int (nI f))] := hl
          refine lv_goto (tgt := 2) hx hb dX0_insertTime_35 (by decide) ?_
          exact ih _ Hp locs ls (by omega) ((tk_ins_t (tk_ltn hc15)).symm.trans hz) hP hD hS hl
  refine lv_iload_n hx hb dX0_insertTime_0 rfl (lv_at hl 2 rfl) ?_
  refine lv_istore_n hx hb dX0_insertTime_1 rfl hl (by decide) rfl (fun ls hl => ?_)
  have hl : lv_has ls 4 [(3, .int (nI f)), (0, .ref o), (1, .int tm), (2, .int (nI f))] := hl
  exact loop f aS s.heap [] ls hf hzz hP hD hS hl
set_option maxHeartbeats 4000000 in
set_option maxRecDepth 100000 in
theorem c0_medianTime (l : Launch) (dC : Nat → ClassId) (dI : Nat → Nat → Nat) (o : Nat) (q : Nat → Nat) (ca : Nat → ClassId) (aP aH aT aA aG aK aZ aS : Nat → Int32) (n : Nat) (sz : Nat) (pa he : Nat → Nat) (hT : tk_I aP aH pa he n) (j : Nat) (hj : j < n) : Met l yX0_medianTime wsX0_medianTime ({ frames := 1, cells := 0, slots := 0, locals := 23 }) (tk_Wp (dC, dI) (tk_w0 o q ca aP aH aT aA aG aK aZ aS n) (tk_t0 ca) sz [.ref o, .int (nI j)]) (va_Qi (fun (r : Int32) (u : va_W) => r = tk_med pa he aT j aS ∧ u = tk_w0 o q ca aP aH aT aA aG aK aZ (tk_mS pa he aT j aS) n) (tk_E (dC, dI) (tk_t0 ca) (va_A (tk_w0 o q ca aP aH aT aA aG aK aZ aS n) sz)) (va_A (tk_w0 o q ca aP aH aT aA aG aK aZ aS n) sz)) 0 0 (va_A (tk_w0 o q ca aP aH aT aA aG aK aZ aS n) sz) := by
  refine Met.ofW (cc := cX0_medianTime) (maxL := 5) (ret := (some .int)) (by decide) rfl ?_
  intro p e s m args below meth c s₁ B hml hv
  obtain ⟨rfl, hsz, hP, hK, hD0⟩ := hv
  have hx := B.exec
  have hb := B.bytes
  have hr := B.returns
  have hts := atoms_spec (ws := wsX0_medianTime) B.pre
  have hown : s.vm.findClass RX0 = some m.cls := findClass_of_methodNamed B.named
  have hlocks := B.notSynchronized
  have hin0 : ∀ w ∈ u_ws RX0 TX0 9, w ∈ wsX0_medianTime := by decide +kernel
  have fl13 := hts (.fieldLink RX0 13 "WorkTree" "heights" "[I") (by decide +kernel)
  have ml56 := hts (.methodLink RX0 56 Lib.Math.min.name) (by decide +kernel)
  have ms56 := hts (.static Lib.Math.min.name) (by decide +kernel)
  have mi56 := hts (.initialized "java/lang/Math") (by decide +kernel)
  have mc56 := hts (.code Lib.Math.min.name Lib.Math.min.code 2 (some .int)) (by decide +kernel)
  have fl16 := hts (.fieldLink RX0 16 "WorkTree" "times" "[I") (by decide +kernel)
  have fl9 := hts (.fieldLink RX0 9 "WorkTree" "parents" "[I") (by decide +kernel)
  have fl32 := hts (.fieldLink RX0 32 "WorkTree" "sortedTimes" "[I") (by decide +kernel)
  subst hsz
  have hD := hD0.self (sz := s.heap.size)
  generalize hAe : va_A (tk_w0 o q ca aP aH aT aA aG aK aZ aS n) s.heap.size = A at hD ⊢
  have hA : ∀ q : Nat, s.heap.size ≤ q → A q := fun q h => by rw [← hAe]; exact Or.inr h
  have hS : va_S A s.heap s.heap [] := va_S.rf
  have hl := lv_entry ([.ref o, .int (nI j)]) (n := 5) (Nat.le_of_ble_eq_true rfl)
  rw [lg_entry_eq]
  generalize (lg_sl ([.ref o, .int (nI j)]) ++ List.replicate (5 - (lg_sl ([.ref o, .int (nI j)])).length) Slot.unset).toArray = ls at hl ⊢
  have hl : lv_has ls 5 [(0, .ref o), (1, .int (nI j))] := hl
  refine tk_Q (fun Q hQ => ?_)
  have hn := hT.1.2
  have hjj := (hT.2.2.2.1 j hj).2
  obtain ⟨mn1, mn2⟩ := tk_mn_le (a := he j + 1) (b := 7)
  have hmed : tk_med pa he aT j aS = tk_md pa aT (tk_mn (he j + 1) 7) 0 j aS (tk_mn (he j + 1) 7 / 2) := rfl
  have hmS : tk_mS pa he aT j aS = tk_md pa aT (tk_mn (he j + 1) 7) 0 j aS := rfl
  have hmi := tk_mnI (a := he j + 1) (b := 7) (by omega) (by decide)
  generalize tk_mn (he j + 1) 7 = md at hmed hmS mn1 mn2 hmi
  generalize hzz : tk_md pa aT md 0 j aS = z at hmed hmS
  have loop : ∀ (c0 : Nat) (f i : Nat) (x : Int32) (S : Nat → Int32) (Hp : Heap) (locs : List Loc) (ls : Array Slot), f + c0 = md → (0 < c0 → x = nI i ∧ i < n ∧ he i + f = he j) → tk_md pa aT c0 f i S = z → va_P (dC, dI) vwCl (tk_w0 o q ca aP aH aT aA aG aK aZ S n) Hp → va_D A (tk_w0 o q ca aP aH aT aA aG aK aZ S n) → va_S A s.heap Hp locs → lv_has ls 5 [(4, .int (nI f)), (3, .int x), (2, .int (nI md)), (0, .ref o), (1, .int (nI j))] → W p l e (headSpec wsX0_medianTime ({ frames := 1, cells := 0, slots := 0, locals := 23 })).room s m ([.ref o, .int (nI j)] : List Value).toArray below meth c Hp locs 0 0 Q (F0 m 19 ls []) := by
    intro c0
    induction c0 with
    | zero =>
      intro f i x S Hp locs ls hfc hxi hz hP hD hS hl
      refine lv_iload hx hb dX0_medianTime_19 (lv_at hl 0 rfl) ?_
      refine lv_iload_n hx hb dX0_medianTime_21 rfl (lv_at hl 2 rfl) ?_
      refine lv_icmp_ge (tgt := 50) hx hb dX0_medianTime_22 (by decide) (fun hc22 => ?_) (fun hc22 => ?_)
      · refine lv_aload_n hx hb dX0_medianTime_50 rfl (lv_at hl 3 rfl) ?_
        refine va_get (D := (dC, dI)) (ci := 0) (v := .ref (q 7)) (C := RX0) (T := TX0) (N := 9) hx hb hts hin0 hown hK hP 0 rfl rfl 7 (by decide) fl32 (fun _ h9 => h9) rfl dX0_medianTime_51 ?_
        refine lv_iload_n hx hb dX0_medianTime_54 rfl (lv_at hl 2 rfl) ?_
        refine lv_iconst (v := nI 2) hx hb dX0_medianTime_55 (by decide +kernel) ?_
        refine lv_idiv hx hb dX0_medianTime_56 (by decide +kernel) ?_
        refine tk_top (y := nI (md / 2)) (pk_div (by omega) (by decide) (by decide)) ?_
        refine tk_rdi (v := S (md / 2)) hx hb hK hP 8 7 rfl rfl (md / 2) (by omega) (by decide) rfl dX0_medianTime_57 ?_
        subst hQ
        exact W.iret hx hb hr (fun t ht hW => ⟨⟨S (md / 2), tk_w0 o q ca aP aH aT aA aG aK aZ S n, rfl, ⟨(show S (md / 2) = tk_med pa he aT j aS from (hmed.trans (congrFun hz.symm (md / 2))).symm), (congrArg (fun S9 : Nat → Int32 => tk_w0 o q ca aP aH aT aA aG aK aZ S9 n) (hmS.trans hz.symm).symm)⟩, by rw [ht]; exact hP, va_K.moved hW.alike hK, hD⟩, hS.F ht⟩) hS.2.2 dX0_medianTime_58
      · exact absurd (nI_le (by omega) (by omega)) hc22
    | succ c0 ih =>
      intro f i x S Hp locs ls hfc hxi hz hP hD hS hl
      obtain ⟨rfl, hi, hei⟩ := hxi (by omega)
      have hii := (hT.2.2.2.1 i hi).2
      refine lv_iload hx hb dX0_medianTime_19 (lv_at hl 0 rfl) ?_
      refine lv_iload_n hx hb dX0_medianTime_21 rfl (lv_at hl 2 rfl) ?_
      refine lv_icmp_ge (tgt := 50) hx hb dX0_medianTime_22 (by decide) (fun hc22 => ?_) (fun hc22 => ?_)
      · exact absurd hc22 (nI_ge (by omega) (by omega))
      · refine lv_aload_n hx hb dX0_medianTime_25 rfl (lv_at hl 3 rfl) ?_
        refine lv_aload_n hx hb dX0_medianTime_26 rfl (lv_at hl 3 rfl) ?_
        refine va_get (D := (dC, dI)) (ci := 0) (v := .ref (q 2)) (C := RX0) (T := TX0) (N := 9) hx hb hts hin0 hown hK hP 0 rfl rfl 2 (by decide) fl16 (fun _ h9 => h9) rfl dX0_medianTime_27 ?_
        refine lv_iload_n hx hb dX0_medianTime_30 rfl (lv_at hl 1 rfl) ?_
        refine tk_rdi (v := aT i) hx hb hK hP 3 2 rfl rfl (i) (by omega) (by decide) rfl dX0_medianTime_31 ?_
        refine lv_iload hx hb dX0_medianTime_32 (lv_at hl 0 rfl) ?_
        have hFc := va_free (wc := tk_w0 o q ca aP aH aT aA aG aK aZ S n) hD hS hA [0, 1, 2, 3, 4, 5, 6, 7, 8] rfl
        refine va_callv (va_runV (As := [.int (aT i), .int (nI f)]) (rest := []) ⟨hx, hb, hml, hown, hts⟩ (c0_insertTime l dC dI o q ca aP aH aT aA aG aK aZ S n _ (aT i) f (by omega)) (cwV 2 hts gX0_medianTime_X0_insertTime rfl rfl rfl (by decide +kernel) ⟨Nat.le_of_ble_eq_true rfl, Nat.le_of_ble_eq_true rfl⟩) (tk_preW hK hP hD rfl rfl) rfl rfl hl.1 rfl (lv_room (Nat.le_of_ble_eq_true rfl)) dX0_medianTime_34 ⟨Nat.le_of_ble_eq_true rfl, Nat.le_of_ble_eq_true rfl⟩) hS (fun q _ h => hFc q h) hFc (fun u t Hp locs ht hvm hw hB hz1 hk1 hS => ?_)
        subst hw
        obtain ⟨hP, hK1, hD1⟩ := hB
        rw [ht] at hP
        have hD : va_D A (tk_w0 o q ca aP aH aT aA aG aK aZ (tk_ins (aT i) f S) n) := hD1.weaken (fun _ _ _ h => hFc _ h)
        refine lv_aload_n hx hb dX0_medianTime_37 rfl (lv_at hl 3 rfl) ?_
        refine va_get (D := (dC, dI)) (ci := 0) (v := .ref (q 0)) (C := RX0) (T := TX0) (N := 9) hx hb hts hin0 hown hK hP 0 rfl rfl 0 (by decide) fl9 (fun _ h9 => h9) rfl dX0_medianTime_38 ?_
        refine lv_iload_n hx hb dX0_medianTime_41 rfl (lv_at hl 1 rfl) ?_
        refine tk_rdi (v := aP i) hx hb hK hP 1 0 rfl rfl (i) (by omega) (by decide) rfl dX0_medianTime_42 ?_
        refine lv_istore_n hx hb dX0_medianTime_43 rfl hl (by decide) rfl (fun ls hl => ?_)
        have hl : lv_has ls 5 [(3, .int (aP i)), (4, .int (nI f)), (2, .int (nI md)), (0, .ref o), (1, .int (nI j))] := hl
        refine lv_iinc (k := 1) (v := nI (f + 1)) hx hb dX0_medianTime_44 hl rfl (tk_inc f) (by decide) rfl (fun ls hl => ?_)
        have hl : lv_has ls 5 [(4, .int (nI (f + 1))), (3, .int (aP i)), (2, .int (nI md)), (0, .ref o), (1, .int (nI j))] := hl
        refine lv_goto (tgt := 19) hx hb dX0_medianTime_47 (by decide) ?_
        exact ih (f + 1) (pa i) (aP i) _ Hp locs ls (by omega) (fun h9 => by obtain ⟨u1, u2, u3, u4⟩ := tk_up hT hi (by omega); exact ⟨u2, by omega, by omega⟩) hz hP hD hS hl
  refine lv_aload_n hx hb dX0_medianTime_0 rfl (lv_at hl 0 rfl) ?_
  refine va_get (D := (dC, dI)) (ci := 0) (v := .ref (q 1)) (C := RX0) (T := TX0) (N := 9) hx hb hts hin0 hown hK hP 0 rfl rfl 1 (by decide) fl13 (fun _ h9 => h9) rfl dX0_medianTime_1 ?_
  refine lv_iload_n hx hb dX0_medianTime_4 rfl (lv_at hl 1 rfl) ?_
  refine tk_rdi (v := nI (he j)) hx hb hK hP 2 1 rfl rfl (j) (by omega) (by decide) (hT.2.2.2.1 j hj).1 dX0_medianTime_5 ?_
  refine lv_iconst (v := nI 1) hx hb dX0_medianTime_6 (by decide +kernel) ?_
  refine lv_iadd hx hb dX0_medianTime_7 ?_
  refine tk_top (y := nI (he j + 1)) (tk_add1 _) ?_
  refine lv_bipush (v := nI 7) hx hb dX0_medianTime_8 (by decide +kernel) ?_
  refine va_mmin hx hb (hml.trans hl.1.symm) hown ml56 ms56 mi56 mc56 (Nat.le_of_ble_eq_true rfl) (Nat.le_of_ble_eq_true rfl) (Nat.le_of_ble_eq_true rfl) (Nat.le_of_ble_eq_true rfl) dX0_medianTime_10 ?_
  refine tk_top (y := nI md) hmi ?_
  refine lv_istore_n hx hb dX0_medianTime_13 rfl hl (by decide) rfl (fun ls hl => ?_)
  have hl : lv_has ls 5 [(2, .int (nI md)), (0, .ref o), (1, .int (nI j))] := hl
  refine lv_iload_n hx hb dX0_medianTime_14 rfl (lv_at hl 2 rfl) ?_
  refine lv_istore_n hx hb dX0_medianTime_15 rfl hl (by decide) rfl (fun ls hl => ?_)
  have hl : lv_has ls 5 [(3, .int (nI j)), (2, .int (nI md)), (0, .ref o), (1, .int (nI j))] := hl
  refine lv_iconst (v := nI 0) hx hb dX0_medianTime_16 (by decide +kernel) ?_
  refine lv_istore hx hb dX0_medianTime_17 hl (by decide) rfl (fun ls hl => ?_)
  have hl : lv_has ls 5 [(4, .int (nI 0)), (3, .int (nI j)), (2, .int (nI md)), (0, .ref o), (1, .int (nI j))] := hl
  exact loop md 0 j (nI j) aS s.heap [] ls (by omega) (fun _ => ⟨rfl, hj, by omega⟩) hzz hP hD hS hl
set_option maxHeartbeats 4000000 in
set_option maxRecDepth 100000 in
theorem c0_median (l : Launch) (dC : Nat → ClassId) (dI : Nat → Nat → Nat) (o : Nat) (q : Nat → Nat) (ca : Nat → ClassId) (aP aH aT aA aG aK aZ aS : Nat → Int32) (n : Nat) (sz : Nat) (pa he : Nat → Nat) (hT : tk_I aP aH pa he n) (b : Int32) : Met l yX0_median wsX0_median ({ frames := 2, cells := 0, slots := 0, locals := 47 }) (tk_Wp (dC, dI) (tk_w0 o q ca aP aH aT aA aG aK aZ aS n) (tk_t0 ca) sz [.ref o, .int b]) (va_Qi (fun (r : Int32) (u : va_W) => r = tk_pb n b (fun j => tk_med pa he aT j aS) ∧ u = tk_w0 o q ca aP aH aT aA aG aK aZ (tk_mb pa he aT n b aS) n) (tk_E (dC, dI) (tk_t0 ca) (va_A (tk_w0 o q ca aP aH aT aA aG aK aZ aS n) sz)) (va_A (tk_w0 o q ca aP aH aT aA aG aK aZ aS n) sz)) 0 0 (va_A (tk_w0 o q ca aP aH aT aA aG aK aZ aS n) sz) := by
  refine Met.ofW (cc := cX0_median) (maxL := 2) (ret := (some .int)) (by decide) rfl ?_
  intro p e s m args below meth c s₁ B hml hv
  obtain ⟨rfl, hsz, hP, hK, hD0⟩ := hv
  have hx := B.exec
  have hb := B.bytes
  have hr := B.returns
  have hts := atoms_spec (ws := wsX0_median) B.pre
  have hown : s.vm.findClass RX0 = some m.cls := findClass_of_methodNamed B.named
  have hlocks := B.notSynchronized
  subst hsz
  have hD := hD0.self (sz := s.heap.size)
  generalize hAe : va_A (tk_w0 o q ca aP aH aT aA aG aK aZ aS n) s.heap.size = A at hD ⊢
  have hA : ∀ q : Nat, s.heap.size ≤ q → A q := fun q h => by rw [← hAe]; exact Or.inr h
  have hS : va_S A s.heap s.heap [] := va_S.rf
  have hl := lv_entry ([.ref o, .int b]) (n := 2) (Nat.le_of_ble_eq_true rfl)
  rw [lg_entry_eq]
  generalize (lg_sl ([.ref o, .int b]) ++ List.replicate (2 - (lg_sl ([.ref o, .int b])).length) Slot.unset).toArray = ls at hl ⊢
  have hl : lv_has ls 2 [(0, .ref o), (1, .int b)] := hl
  refine tk_Q (fun Q hQ => ?_)
  have hn := hT.1.2
  refine lv_aload_n hx hb dX0_median_0 rfl (lv_at hl 0 rfl) ?_
  refine lv_iload_n hx hb dX0_median_1 rfl (lv_at hl 1 rfl) ?_
  refine vp_callSi (W.runV (As := [.int b]) (rest := []) ⟨hx, hb, hml, hown, hts⟩ (c0_exists l dC dI o q ca aP aH aT aA aG aK aZ aS n b) (cwV 1 hts gX0_median_X0_exists rfl rfl rfl (by decide +kernel) ⟨Nat.le_of_ble_eq_true rfl, Nat.le_of_ble_eq_true rfl⟩) (tk_pre hK hP rfl rfl) rfl rfl hl.1 rfl (lv_room (Nat.le_of_ble_eq_true rfl)) dX0_median_2 ⟨Nat.le_of_ble_eq_true rfl, Nat.le_of_ble_eq_true rfl⟩) (fun r hr1 => ?_)
  refine tk_top (y := tk_ex n b) hr1 ?_
  refine lv_if_eq (tgt := 16) hx hb dX0_median_5 (by decide) (fun hc5 => ?_) (fun hc5 => ?_)
  · refine lv_bipush (v := -2) hx hb dX0_median_16 (by decide +kernel) ?_
    subst hQ
    exact W.iret hx hb hr (fun t ht hW => ⟨⟨-2, tk_w0 o q ca aP aH aT aA aG aK aZ aS n, rfl, ⟨(tk_pb0 hc5).symm, congrArg (fun S9 : Nat → Int32 => tk_w0 o q ca aP aH aT aA aG aK aZ S9 n) (tk_mb0 hc5).symm⟩, by rw [ht]; exact hP, va_K.moved hW.alike hK, hD⟩, hS.F ht⟩) hS.2.2 dX0_median_18
  · obtain ⟨j, hj, rfl⟩ := tk_ex_t hn hc5
    refine lv_aload_n hx hb dX0_median_8 rfl (lv_at hl 0 rfl) ?_
    refine lv_iload_n hx hb dX0_median_9 rfl (lv_at hl 1 rfl) ?_
    have hFc := va_free (wc := tk_w0 o q ca aP aH aT aA aG aK aZ aS n) hD hS hA [0, 1, 2, 3, 4, 5, 6, 7, 8] rfl
    refine va_calli (va_runV (As := [.int (nI j)]) (rest := []) ⟨hx, hb, hml, hown, hts⟩ (c0_medianTime l dC dI o q ca aP aH aT aA aG aK aZ aS n _ pa he hT j hj) (cwV 1 hts gX0_median_X0_medianTime rfl rfl rfl (by decide +kernel) ⟨Nat.le_of_ble_eq_true rfl, Nat.le_of_ble_eq_true rfl⟩) (tk_preW hK hP hD rfl rfl) rfl rfl hl.1 rfl (lv_room (Nat.le_of_ble_eq_true rfl)) dX0_median_10 ⟨Nat.le_of_ble_eq_true rfl, Nat.le_of_ble_eq_true rfl⟩) hS (fun q _ h => hFc q h) hFc (fun r u t Hp locs ht hvm hw hB hz1 hk1 hS => ?_)
    obtain ⟨hr1, hw⟩ := hw
    subst hw
    obtain ⟨hP, hK1, hD1⟩ := hB
    rw [ht] at hP
    have hD : va_D A (tk_w0 o q ca aP aH aT aA aG aK aZ (tk_mS pa he aT j aS) n) := hD1.weaken (fun _ _ _ h => hFc _ h)
    refine tk_top (y := tk_med pa he aT j aS) hr1 ?_
    refine lv_goto (tgt := 18) hx hb dX0_median_13 (by decide) ?_
    subst hQ
    exact W.iret hx hb hr (fun t ht hW => ⟨⟨tk_med pa he aT j aS, tk_w0 o q ca aP aH aT aA aG aK aZ (tk_mS pa he aT j aS) n, rfl, ⟨(tk_pbn (f := fun j => tk_med pa he aT j aS) hn hj).symm, congrArg (fun S9 : Nat → Int32 => tk_w0 o q ca aP aH aT aA aG aK aZ S9 n) (tk_mbn hn hj).symm⟩, by rw [ht]; exact hP, va_K.moved hW.alike hK, hD⟩, hS.F ht⟩) hS.2.2 dX0_median_18
end
section
set_option maxHeartbeats 4000000 in
set_option maxRecDepth 100000 in
theorem c0_refuse (l : Launch) (dC : Nat → ClassId) (dI : Nat → Nat → Nat) (o : Nat) (q : Nat → Nat) (ca : Nat → ClassId) (aP aH aT aA aG aK aZ aS : Nat → Int32) (n : Nat) (sz : Nat) (pa he : Nat → Nat) (hT : tk_I aP aH pa he n) (wk : Nat → Nat) (hW : tk_Wk aK wk n) (b : Int32) : Met l yX0_refuse wsX0_refuse ({ frames := 2, cells := 0, slots := 0, locals := 44 }) (tk_Wp (dC, dI) (tk_w0 o q ca aP aH aT aA aG aK aZ aS n) (tk_t0 ca) sz [.ref o, .int b]) (va_Qi (fun (r : Int32) (u : va_W) => ((tk_ex n b = 0 ∨ b = 0) ∧ r = -1 ∧ u = tk_w0 o q ca aP aH aT aA aG aK aZ aS n) ∨ (∃ j, 0 < j ∧ j < n ∧ b = nI j ∧ r = nI (tk_best (tk_rf pa (n - (j + 1)) (j + 1) (upd aZ j 1)) aA wk n) ∧ u = tk_w0 o q ca aP aH aT aA aG aK (tk_rf pa (n - (j + 1)) (j + 1) (upd aZ j 1)) aS n)) (tk_E (dC, dI) (tk_t0 ca) (va_A (tk_w0 o q ca aP aH aT aA aG aK aZ aS n) sz)) (va_A (tk_w0 o q ca aP aH aT aA aG aK aZ aS n) sz)) 0 0 (va_A (tk_w0 o q ca aP aH aT aA aG aK aZ aS n) sz) := by
  refine Met.ofW (cc := cX0_refuse) (maxL := 3) (ret := (some .int)) (by decide) rfl ?_
  intro p e s m args below meth c s₁ B hml hv
  obtain ⟨rfl, hsz, hP, hK, hD0⟩ := hv
  have hx := B.exec
  have hb := B.bytes
  have hr := B.returns
  have hts := atoms_spec (ws := wsX0_refuse) B.pre
  have hown : s.vm.findClass RX0 = some m.cls := findClass_of_methodNamed B.named
  have hlocks := B.notSynchronized
  have hin0 : ∀ w ∈ u_ws RX0 TX0 9, w ∈ wsX0_refuse := by decide +kernel
  have fl28 := hts (.fieldLink RX0 28 "WorkTree" "wrong" "[Z") (by decide +kernel)
  have fl36 := hts (.fieldLink RX0 36 "WorkTree" "count" "I") (by decide +kernel)
  have fl9 := hts (.fieldLink RX0 9 "WorkTree" "parents" "[I") (by decide +kernel)
  subst hsz
  have hD := hD0.self (sz := s.heap.size)
  generalize hAe : va_A (tk_w0 o q ca aP aH aT aA aG aK aZ aS n) s.heap.size = A at hD ⊢
  have hA : ∀ q : Nat, s.heap.size ≤ q → A q := fun q h => by rw [← hAe]; exact Or.inr h
  have hS : va_S A s.heap s.heap [] := va_S.rf
  have hl := lv_entry ([.ref o, .int b]) (n := 3) (Nat.le_of_ble_eq_true rfl)
  rw [lg_entry_eq]
  generalize (lg_sl ([.ref o, .int b]) ++ List.replicate (3 - (lg_sl ([.ref o, .int b])).length) Slot.unset).toArray = ls at hl ⊢
  have hl : lv_has ls 3 [(0, .ref o), (1, .int b)] := hl
  refine tk_Q (fun Q hQ => ?_)
  have hn := hT.1.2
  have hn1 := hT.1.1
  refine lv_aload_n hx hb dX0_refuse_0 rfl (lv_at hl 0 rfl) ?_
  refine lv_iload_n hx hb dX0_refuse_1 rfl (lv_at hl 1 rfl) ?_
  refine vp_callSi (W.runV (As := [.int b]) (rest := []) ⟨hx, hb, hml, hown, hts⟩ (c0_exists l dC dI o q ca aP aH aT aA aG aK aZ aS n b) (cwV 1 hts gX0_refuse_X0_exists rfl rfl rfl (by decide +kernel) ⟨Nat.le_of_ble_eq_true rfl, Nat.le_of_ble_eq_true rfl⟩) (tk_pre hK hP rfl rfl) rfl rfl hl.1 rfl (lv_room (Nat.le_of_ble_eq_true rfl)) dX0_refuse_2 ⟨Nat.le_of_ble_eq_true rfl, Nat.le_of_ble_eq_true rfl⟩) (fun r hr1 => ?_)
  refine tk_top (y := tk_ex n b) hr1 ?_
  refine lv_if_eq (tgt := 12) hx hb dX0_refuse_5 (by decide) (fun hc5 => ?_) (fun hc5 => ?_)
  · refine lv_iconst (v := -1) hx hb dX0_refuse_12 (by decide +kernel) ?_
    subst hQ
    exact W.iret hx hb hr (fun t ht hW => ⟨⟨-1, tk_w0 o q ca aP aH aT aA aG aK aZ aS n, rfl, (Or.inl ⟨Or.inl hc5, rfl, rfl⟩), by rw [ht]; exact hP, va_K.moved hW.alike hK, hD⟩, hS.F ht⟩) hS.2.2 dX0_refuse_13
  · obtain ⟨j, hj, rfl⟩ := tk_ex_t hn hc5
    refine lv_iload_n hx hb dX0_refuse_8 rfl (lv_at hl 1 rfl) ?_
    refine lv_if_ne (tgt := 14) hx hb dX0_refuse_9 (by decide) (fun hc9 => ?_) (fun hc9 => ?_)
    · have hj0 : 0 < j := Nat.pos_of_ne_zero (fun z => hc9 ((tk_eq0 (by omega)).mpr z))
      refine lv_aload_n hx hb dX0_refuse_14 rfl (lv_at hl 0 rfl) ?_
      refine va_get (D := (dC, dI)) (ci := 0) (v := .ref (q 6)) (C := RX0) (T := TX0) (N := 9) hx hb hts hin0 hown hK hP 0 rfl rfl 6 (by decide) fl28 (fun _ h9 => h9) rfl dX0_refuse_15 ?_
      refine lv_iload_n hx hb dX0_refuse_18 rfl (lv_at hl 1 rfl) ?_
      refine lv_iconst (v := 1) hx hb dX0_refuse_19 (by decide +kernel) ?_
      refine tk_stz (x' := 1) hx hb hK hP hD hS 7 6 rfl rfl j (by omega) (by decide) rfl dX0_refuse_20 (fun Hp locs hP hD hS => ?_)
      have hP : va_P (dC, dI) vwCl (tk_w0 o q ca aP aH aT aA aG aK (upd aZ j 1) aS n) Hp := hP
      have hD : va_D A (tk_w0 o q ca aP aH aT aA aG aK (upd aZ j 1) aS n) := hD
      refine lv_iload_n hx hb dX0_refuse_21 rfl (lv_at hl 1 rfl) ?_
      refine lv_iconst (v := nI 1) hx hb dX0_refuse_22 (by decide +kernel) ?_
      refine lv_iadd hx hb dX0_refuse_23 ?_
      refine tk_top (y := nI (j + 1)) (tk_add1 j) ?_
      refine lv_istore_n hx hb dX0_refuse_24 rfl hl (by decide) rfl (fun ls hl => ?_)
      have hl : lv_has ls 3 [(2, .int (nI (j + 1))), (0, .ref o), (1, .int (nI j))] := hl
      obtain ⟨z, hzz⟩ : ∃ z, z = tk_rf pa (n - (j + 1)) (j + 1) (upd aZ j 1) := ⟨_, rfl⟩
      have loop : ∀ (c0 : Nat) (i : Nat) (Z : Nat → Int32) (Hp : Heap) (locs : List Loc) (ls : Array Slot), i + c0 = n → j < i → tk_rf pa c0 i Z = z → va_P (dC, dI) vwCl (tk_w0 o q ca aP aH aT aA aG aK Z aS n) Hp → va_D A (tk_w0 o q ca aP aH aT aA aG aK Z aS n) → va_S A s.heap Hp locs → lv_has ls 3 [(2, .int (nI i)), (0, .ref o), (1, .int (nI j))] → W p l e (headSpec wsX0_refuse ({ frames := 2, cells := 0, slots := 0, locals := 44 })).room s m ([.ref o, .int (nI j)] : List Value).toArray below meth c Hp locs 0 0 Q (F0 m 25 ls []) := by
        intro c0
        induction c0 with
        | zero =>
          intro i Z Hp locs ls hic hji hz hP hD hS hl
          refine lv_iload_n hx hb dX0_refuse_25 rfl (lv_at hl 0 rfl) ?_
          refine lv_aload_n hx hb dX0_refuse_26 rfl (lv_at hl 1 rfl) ?_
          refine va_get (D := (dC, dI)) (ci := 0) (v := .int (nI n)) (C := RX0) (T := TX0) (N := 9) hx hb hts hin0 hown hK hP 0 rfl rfl 8 (by decide) fl36 (fun _ h9 => h9) rfl dX0_refuse_27 ?_
          refine lv_icmp_ge (tgt := 60) hx hb dX0_refuse_30 (by decide) (fun hc30 => ?_) (fun hc30 => ?_)
          · refine lv_aload_n hx hb dX0_refuse_60 rfl (lv_at hl 1 rfl) ?_
            refine vp_callSi (W.runV (As := []) (rest := []) ⟨hx, hb, hml, hown, hts⟩ (c0_bestBlock l dC dI o q ca aP aH aT aA aG aK Z aS n wk hW hn hn1) (cwV 0 hts gX0_refuse_X0_bestBlock rfl rfl rfl (by decide +kernel) ⟨Nat.le_of_ble_eq_true rfl, Nat.le_of_ble_eq_true rfl⟩) (tk_pre hK hP rfl rfl) rfl rfl hl.1 rfl (lv_room (Nat.le_of_ble_eq_true rfl)) dX0_refuse_61 ⟨Nat.le_of_ble_eq_true rfl, Nat.le_of_ble_eq_true rfl⟩) (fun r hr1 => ?_)
            refine tk_top (y := nI (tk_best Z aA wk n)) hr1 ?_
            subst hQ
            exact W.iret hx hb hr (fun t ht hW => ⟨⟨nI (tk_best Z aA wk n), tk_w0 o q ca aP aH aT aA aG aK Z aS n, rfl, (Or.inr ⟨j, hj0, hj, rfl, congrArg (fun Z9 => nI (tk_best Z9 aA wk n)) (hz.trans hzz), congrArg (fun Z9 : Nat → Int32 => tk_w0 o q ca aP aH aT aA aG aK Z9 aS n) (hz.trans hzz)⟩), by rw [ht]; exact hP, va_K.moved hW.alike hK, hD⟩, hS.F ht⟩) hS.2.2 dX0_refuse_64
          · exact absurd (nI_le (by omega) (by omega)) hc30
        | succ c0 ih =>
          intro i Z Hp locs ls hic hji hz hP hD hS hl
          refine lv_iload_n hx hb dX0_refuse_25 rfl (lv_at hl 0 rfl) ?_
          refine lv_aload_n hx hb dX0_refuse_26 rfl (lv_at hl 1 rfl) ?_
          refine va_get (D := (dC, dI)) (ci := 0) (v := .int (nI n)) (C := RX0) (T := TX0) (N := 9) hx hb hts hin0 hown hK hP 0 rfl rfl 8 (by decide) fl36 (fun _ h9 => h9) rfl dX0_refuse_27 ?_
          refine lv_icmp_ge (tgt := 60) hx hb dX0_refuse_30 (by decide) (fun hc30 => ?_) (fun hc30 => ?_)
          · exact absurd hc30 (nI_ge (by omega) (by omega))
          · obtain ⟨u2, u3, u4⟩ := hT.2.2.2.2 i (by omega) (by omega)
            refine lv_aload_n hx hb dX0_refuse_33 rfl (lv_at hl 1 rfl) ?_
            refine va_get (D := (dC, dI)) (ci := 0) (v := .ref (q 6)) (C := RX0) (T := TX0) (N := 9) hx hb hts hin0 hown hK hP 0 rfl rfl 6 (by decide) fl28 (fun _ h9 => h9) rfl dX0_refuse_34 ?_
            refine lv_aload_n hx hb dX0_refuse_37 rfl (lv_at hl 1 rfl) ?_
            refine va_get (D := (dC, dI)) (ci := 0) (v := .ref (q 0)) (C := RX0) (T := TX0) (N := 9) hx hb hts hin0 hown hK hP 0 rfl rfl 0 (by decide) fl9 (fun _ h9 => h9) rfl dX0_refuse_38 ?_
            refine lv_iload_n hx hb dX0_refuse_41 rfl (lv_at hl 0 rfl) ?_
            refine tk_rdi (v := nI (pa i)) hx hb hK hP 1 0 rfl rfl (i) (by omega) (by decide) u2 dX0_refuse_42 ?_
            refine tk_rdz (v := Z (pa i)) hx hb hK hP 7 6 rfl rfl (pa i) (by omega) (by decide) rfl dX0_refuse_43 ?_
            refine lv_if_eq (tgt := 54) hx hb dX0_refuse_44 (by decide) (fun hc44 => ?_) (fun hc44 => ?_)
            · refine lv_iinc (k := 0) (v := nI (i + 1)) hx hb dX0_refuse_54 hl rfl (tk_inc i) (by decide) rfl (fun ls hl => ?_)
              have hl : lv_has ls 3 [(2, .int (nI (i + 1))), (0, .ref o), (1, .int (nI j))] := hl
              refine lv_goto (tgt := 25) hx hb dX0_refuse_57 (by decide) ?_
              exact ih (i + 1) _ Hp locs ls (by omega) (by omega) ((tk_rf_n hc44).symm.trans hz) hP hD hS hl
            · refine lv_aload_n hx hb dX0_refuse_47 rfl (lv_at hl 1 rfl) ?_
              refine va_get (D := (dC, dI)) (ci := 0) (v := .ref (q 6)) (C := RX0) (T := TX0) (N := 9) hx hb hts hin0 hown hK hP 0 rfl rfl 6 (by decide) fl28 (fun _ h9 => h9) rfl dX0_refuse_48 ?_
              refine lv_iload_n hx hb dX0_refuse_51 rfl (lv_at hl 0 rfl) ?_
              refine lv_iconst (v := 1) hx hb dX0_refuse_52 (by decide +kernel) ?_
              refine tk_stz (x' := 1) hx hb hK hP hD hS 7 6 rfl rfl i (by omega) (by decide) rfl dX0_refuse_53 (fun Hp locs hP hD hS => ?_)
              have hP : va_P (dC, dI) vwCl (tk_w0 o q ca aP aH aT aA aG aK (upd Z i 1) aS n) Hp := hP
              have hD : va_D A (tk_w0 o q ca aP aH aT aA aG aK (upd Z i 1) aS n) := hD
              refine lv_iinc (k := 0) (v := nI (i + 1)) hx hb dX0_refuse_54 hl rfl (tk_inc i) (by decide) rfl (fun ls hl => ?_)
              have hl : lv_has ls 3 [(2, .int (nI (i + 1))), (0, .ref o), (1, .int (nI j))] := hl
              refine lv_goto (tgt := 25) hx hb dX0_refuse_57 (by decide) ?_
              exact ih (i + 1) _ Hp locs ls (by omega) (by omega) ((tk_rf_y hc44).symm.trans hz) hP hD hS hl
      exact loop (n - (j + 1)) (j + 1) (upd aZ j 1) Hp locs ls (by omega) (by omega) hzz.symm hP hD hS hl
    · refine lv_iconst (v := -1) hx hb dX0_refuse_12 (by decide +kernel) ?_
      subst hQ
      exact W.iret hx hb hr (fun t ht hW => ⟨⟨-1, tk_w0 o q ca aP aH aT aA aG aK aZ aS n, rfl, (Or.inl ⟨Or.inr hc9, rfl, rfl⟩), by rw [ht]; exact hP, va_K.moved hW.alike hK, hD⟩, hS.F ht⟩) hS.2.2 dX0_refuse_13
end
section
set_option maxHeartbeats 4000000 in
set_option maxRecDepth 100000 in
theorem c0_add (l : Launch) (dC : Nat → ClassId) (dI : Nat → Nat → Nat) (o : Nat) (q : Nat → Nat) (ca : Nat → ClassId) (aP aH aT aA aG aK aZ aS : Nat → Int32) (n : Nat) (sz : Nat) (pa he : Nat → Nat) (hT : tk_I aP aH pa he n) (wk : Nat → Nat) (hW : tk_Wk aK wk n) (hG : tk_G aG n) (hZ01 : ∀ i, i < n → aZ i = 0 ∨ aZ i = 1) (b tm ar : Int32) : Met l yX0_add wsX0_add ({ frames := 3, cells := 0, slots := 0, locals := 60 }) (tk_Wp (dC, dI) (tk_w0 o q ca aP aH aT aA aG aK aZ aS n) (tk_t0 ca) sz [.ref o, .int b, .int tm, .int ar]) (va_Qi (fun (r : Int32) (u : va_W) => (tk_ex n b = 0 ∧ r = -1 ∧ u = tk_w0 o q ca aP aH aT aA aG aK aZ aS n) ∨ (∃ j, j < n ∧ b = nI j ∧ (((tm ≤ tk_med pa he aT j aS ∨ ¬ 0 ≤ ar) ∧ r = -1 ∧ u = tk_w0 o q ca aP aH aT aA aG aK aZ (tk_mS pa he aT j aS) n) ∨ ((¬ tm ≤ tk_med pa he aT j aS ∧ 0 ≤ ar) ∧ ((n = 512 ∧ r = -3 ∧ u = tk_w0 o q ca aP aH aT aA aG aK aZ (tk_mS pa he aT j aS) n) ∨ (n < 512 ∧ r = nI n ∧ ∃ g, 2048 ≤ g ∧ g ≤ 65535 ∧ tk_tb pa he aT aG j = nI g ∧ u = tk_w0 o q ca (upd aP n (nI j)) (upd aH n (nI (he j + 1))) (upd aT n tm) (upd aA n ar) (upd aG n (nI g)) (upd aK n (nI (wk j + 16777216 / g))) (upd aZ n (aZ j)) (tk_mS pa he aT j aS) (n + 1))))))) (tk_E (dC, dI) (tk_t0 ca) (va_A (tk_w0 o q ca aP aH aT aA aG aK aZ aS n) sz)) (va_A (tk_w0 o q ca aP aH aT aA aG aK aZ aS n) sz)) 0 0 (va_A (tk_w0 o q ca aP aH aT aA aG aK aZ aS n) sz) := by
  refine Met.ofW (cc := cX0_add) (maxL := 6) (ret := (some .int)) (by decide) rfl ?_
  intro p e s m args below meth c s₁ B hml hv
  obtain ⟨rfl, hsz, hP, hK, hD0⟩ := hv
  have hx := B.exec
  have hb := B.bytes
  have hr := B.returns
  have hts := atoms_spec (ws := wsX0_add) B.pre
  have hown : s.vm.findClass RX0 = some m.cls := findClass_of_methodNamed B.named
  have hlocks := B.notSynchronized
  have hin0 : ∀ w ∈ u_ws RX0 TX0 9, w ∈ wsX0_add := by decide +kernel
  have fl36 := hts (.fieldLink RX0 36 "WorkTree" "count" "I") (by decide +kernel)
  have fl9 := hts (.fieldLink RX0 9 "WorkTree" "parents" "[I") (by decide +kernel)
  have fl13 := hts (.fieldLink RX0 13 "WorkTree" "heights" "[I") (by decide +kernel)
  have fl16 := hts (.fieldLink RX0 16 "WorkTree" "times" "[I") (by decide +kernel)
  have fl19 := hts (.fieldLink RX0 19 "WorkTree" "arrivals" "[I") (by decide +kernel)
  have fl22 := hts (.fieldLink RX0 22 "WorkTree" "targets" "[I") (by decide +kernel)
  have fl25 := hts (.fieldLink RX0 25 "WorkTree" "works" "[I") (by decide +kernel)
  have kc51 := hts (.constant RX0 51 (16777216)) (by decide +kernel)
  have fl28 := hts (.fieldLink RX0 28 "WorkTree" "wrong" "[Z") (by decide +kernel)
  subst hsz
  have hD := hD0.self (sz := s.heap.size)
  generalize hAe : va_A (tk_w0 o q ca aP aH aT aA aG aK aZ aS n) s.heap.size = A at hD ⊢
  have hA : ∀ q : Nat, s.heap.size ≤ q → A q := fun q h => by rw [← hAe]; exact Or.inr h
  have hS : va_S A s.heap s.heap [] := va_S.rf
  have hl := lv_entry ([.ref o, .int b, .int tm, .int ar]) (n := 6) (Nat.le_of_ble_eq_true rfl)
  rw [lg_entry_eq]
  generalize (lg_sl ([.ref o, .int b, .int tm, .int ar]) ++ List.replicate (6 - (lg_sl ([.ref o, .int b, .int tm, .int ar])).length) Slot.unset).toArray = ls at hl ⊢
  have hl : lv_has ls 6 [(0, .ref o), (1, .int b), (2, .int tm), (3, .int ar)] := hl
  refine tk_Q (fun Q hQ => ?_)
  have hn := hT.1.2
  refine lv_aload_n hx hb dX0_add_0 rfl (lv_at hl 0 rfl) ?_
  refine lv_iload_n hx hb dX0_add_1 rfl (lv_at hl 1 rfl) ?_
  refine vp_callSi (W.runV (As := [.int b]) (rest := []) ⟨hx, hb, hml, hown, hts⟩ (c0_exists l dC dI o q ca aP aH aT aA aG aK aZ aS n b) (cwV 1 hts gX0_add_X0_exists rfl rfl rfl (by decide +kernel) ⟨Nat.le_of_ble_eq_true rfl, Nat.le_of_ble_eq_true rfl⟩) (tk_pre hK hP rfl rfl) rfl rfl hl.1 rfl (lv_room (Nat.le_of_ble_eq_true rfl)) dX0_add_2 ⟨Nat.le_of_ble_eq_true rfl, Nat.le_of_ble_eq_true rfl⟩) (fun r hr1 => ?_)
  refine tk_top (y := tk_ex n b) hr1 ?_
  refine lv_if_eq (tgt := 21) hx hb dX0_add_5 (by decide) (fun hc5 => ?_) (fun hc5 => ?_)
  · refine lv_iconst (v := -1) hx hb dX0_add_21 (by decide +kernel) ?_
    subst hQ
    exact W.iret hx hb hr (fun t ht hW => ⟨⟨-1, tk_w0 o q ca aP aH aT aA aG aK aZ aS n, rfl, (Or.inl ⟨hc5, rfl, rfl⟩), by rw [ht]; exact hP, va_K.moved hW.alike hK, hD⟩, hS.F ht⟩) hS.2.2 dX0_add_22
  · obtain ⟨j, hj, rfl⟩ := tk_ex_t hn hc5
    have hjj := (hT.2.2.2.1 j hj).2
    have hwj := (hW j hj).2
    obtain ⟨g, hg1, hg2, hg⟩ := tk_tb_in (pa := pa) (he := he) (aT := aT) hG hj
    refine lv_iload_n hx hb dX0_add_8 rfl (lv_at hl 2 rfl) ?_
    refine lv_aload_n hx hb dX0_add_9 rfl (lv_at hl 0 rfl) ?_
    refine lv_iload_n hx hb dX0_add_10 rfl (lv_at hl 1 rfl) ?_
    have hFc := va_free (wc := tk_w0 o q ca aP aH aT aA aG aK aZ aS n) hD hS hA [0, 1, 2, 3, 4, 5, 6, 7, 8] rfl
    refine va_calli (va_runV (As := [.int (nI j)]) (rest := [.int tm]) ⟨hx, hb, hml, hown, hts⟩ (c0_medianTime l dC dI o q ca aP aH aT aA aG aK aZ aS n _ pa he hT j hj) (cwV 1 hts gX0_add_X0_medianTime rfl rfl rfl (by decide +kernel) ⟨Nat.le_of_ble_eq_true rfl, Nat.le_of_ble_eq_true rfl⟩) (tk_preW hK hP hD rfl rfl) rfl rfl hl.1 rfl (lv_room (Nat.le_of_ble_eq_true rfl)) dX0_add_11 ⟨Nat.le_of_ble_eq_true rfl, Nat.le_of_ble_eq_true rfl⟩) hS (fun q _ h => hFc q h) hFc (fun r u t Hp locs ht hvm hw hB hz1 hk1 hS => ?_)
    obtain ⟨hr1, hw⟩ := hw
    subst hw
    obtain ⟨hP, hK1, hD1⟩ := hB
    rw [ht] at hP
    have hD : va_D A (tk_w0 o q ca aP aH aT aA aG aK aZ (tk_mS pa he aT j aS) n) := hD1.weaken (fun _ _ _ h => hFc _ h)
    refine tk_top (y := tk_med pa he aT j aS) hr1 ?_
    refine lv_icmp_le (tgt := 21) hx hb dX0_add_14 (by decide) (fun hc14 => ?_) (fun hc14 => ?_)
    · refine lv_iconst (v := -1) hx hb dX0_add_21 (by decide +kernel) ?_
      subst hQ
      exact W.iret hx hb hr (fun t ht hW => ⟨⟨-1, tk_w0 o q ca aP aH aT aA aG aK aZ (tk_mS pa he aT j aS) n, rfl, (Or.inr ⟨j, hj, rfl, Or.inl ⟨Or.inl hc14, rfl, rfl⟩⟩), by rw [ht]; exact hP, va_K.moved hW.alike hK, hD⟩, hS.F ht⟩) hS.2.2 dX0_add_22
    · refine lv_iload_n hx hb dX0_add_17 rfl (lv_at hl 3 rfl) ?_
      refine lv_if_ge (tgt := 23) hx hb dX0_add_18 (by decide) (fun hc18 => ?_) (fun hc18 => ?_)
      · refine lv_aload_n hx hb dX0_add_23 rfl (lv_at hl 0 rfl) ?_
        refine va_get (D := (dC, dI)) (ci := 0) (v := .int (nI n)) (C := RX0) (T := TX0) (N := 9) hx hb hts hin0 hown hK hP 0 rfl rfl 8 (by decide) fl36 (fun _ h9 => h9) rfl dX0_add_24 ?_
        refine lv_sipush (v := nI 512) hx hb dX0_add_27 (by decide +kernel) ?_
        refine lv_icmp_lt (tgt := 36) hx hb dX0_add_30 (by decide) (fun hc30 => ?_) (fun hc30 => ?_)
        · have e30 := (nI_ltI (by omega) (by decide)).mp hc30
          refine lv_aload_n hx hb dX0_add_36 rfl (lv_at hl 0 rfl) ?_
          refine va_get (D := (dC, dI)) (ci := 0) (v := .int (nI n)) (C := RX0) (T := TX0) (N := 9) hx hb hts hin0 hown hK hP 0 rfl rfl 8 (by decide) fl36 (fun _ h9 => h9) rfl dX0_add_37 ?_
          refine lv_istore hx hb dX0_add_40 hl (by decide) rfl (fun ls hl => ?_)
          have hl : lv_has ls 6 [(4, .int (nI n)), (0, .ref o), (1, .int (nI j)), (2, .int tm), (3, .int ar)] := hl
          refine lv_aload_n hx hb dX0_add_42 rfl (lv_at hl 1 rfl) ?_
          refine lv_iload_n hx hb dX0_add_43 rfl (lv_at hl 2 rfl) ?_
          refine vp_callSi (W.runV (As := [.int (nI j)]) (rest := []) ⟨hx, hb, hml, hown, hts⟩ (c0_targetBehind l dC dI o q ca aP aH aT aA aG aK aZ (tk_mS pa he aT j aS) n pa he hT j hj) (cwV 1 hts gX0_add_X0_targetBehind rfl rfl rfl (by decide +kernel) ⟨Nat.le_of_ble_eq_true rfl, Nat.le_of_ble_eq_true rfl⟩) (tk_pre hK hP rfl rfl) rfl rfl hl.1 rfl (lv_room (Nat.le_of_ble_eq_true rfl)) dX0_add_44 ⟨Nat.le_of_ble_eq_true rfl, Nat.le_of_ble_eq_true rfl⟩) (fun r hr1 => ?_)
          refine tk_top (y := tk_tb pa he aT aG j) hr1 ?_
          refine tk_top (y := nI g) hg ?_
          refine lv_istore hx hb dX0_add_47 hl (by decide) rfl (fun ls hl => ?_)
          have hl : lv_has ls 6 [(5, .int (nI g)), (4, .int (nI n)), (0, .ref o), (1, .int (nI j)), (2, .int tm), (3, .int ar)] := hl
          refine lv_aload_n hx hb dX0_add_49 rfl (lv_at hl 2 rfl) ?_
          refine va_get (D := (dC, dI)) (ci := 0) (v := .ref (q 0)) (C := RX0) (T := TX0) (N := 9) hx hb hts hin0 hown hK hP 0 rfl rfl 0 (by decide) fl9 (fun _ h9 => h9) rfl dX0_add_50 ?_
          refine lv_iload hx hb dX0_add_53 (lv_at hl 1 rfl) ?_
          refine lv_iload_n hx hb dX0_add_55 rfl (lv_at hl 3 rfl) ?_
          refine tk_sti hx hb hK hP hD hS 1 0 rfl rfl n (by omega) (by decide) dX0_add_56 (fun Hp locs hP hD hS => ?_)
          have hP : va_P (dC, dI) vwCl (tk_w0 o q ca (upd aP n (nI j)) aH aT aA aG aK aZ (tk_mS pa he aT j aS) n) Hp := hP
          have hD : va_D A (tk_w0 o q ca (upd aP n (nI j)) aH aT aA aG aK aZ (tk_mS pa he aT j aS) n) := hD
          refine lv_aload_n hx hb dX0_add_57 rfl (lv_at hl 2 rfl) ?_
          refine va_get (D := (dC, dI)) (ci := 0) (v := .ref (q 1)) (C := RX0) (T := TX0) (N := 9) hx hb hts hin0 hown hK hP 0 rfl rfl 1 (by decide) fl13 (fun _ h9 => h9) rfl dX0_add_58 ?_
          refine lv_iload hx hb dX0_add_61 (lv_at hl 1 rfl) ?_
          refine lv_aload_n hx hb dX0_add_63 rfl (lv_at hl 2 rfl) ?_
          refine va_get (D := (dC, dI)) (ci := 0) (v := .ref (q 1)) (C := RX0) (T := TX0) (N := 9) hx hb hts hin0 hown hK hP 0 rfl rfl 1 (by decide) fl13 (fun _ h9 => h9) rfl dX0_add_64 ?_
          refine lv_iload_n hx hb dX0_add_67 rfl (lv_at hl 3 rfl) ?_
          refine tk_rdi (v := nI (he j)) hx hb hK hP 2 1 rfl rfl (j) (by omega) (by decide) (hT.2.2.2.1 j hj).1 dX0_add_68 ?_
          refine lv_iconst (v := nI 1) hx hb dX0_add_69 (by decide +kernel) ?_
          refine lv_iadd hx hb dX0_add_70 ?_
          refine tk_top (y := nI (he j + 1)) (tk_add1 _) ?_
          refine tk_sti hx hb hK hP hD hS 2 1 rfl rfl n (by omega) (by decide) dX0_add_71 (fun Hp locs hP hD hS => ?_)
          have hP : va_P (dC, dI) vwCl (tk_w0 o q ca (upd aP n (nI j)) (upd aH n (nI (he j + 1))) aT aA aG aK aZ (tk_mS pa he aT j aS) n) Hp := hP
          have hD : va_D A (tk_w0 o q ca (upd aP n (nI j)) (upd aH n (nI (he j + 1))) aT aA aG aK aZ (tk_mS pa he aT j aS) n) := hD
          refine lv_aload_n hx hb dX0_add_72 rfl (lv_at hl 2 rfl) ?_
          refine va_get (D := (dC, dI)) (ci := 0) (v := .ref (q 2)) (C := RX0) (T := TX0) (N := 9) hx hb hts hin0 hown hK hP 0 rfl rfl 2 (by decide) fl16 (fun _ h9 => h9) rfl dX0_add_73 ?_
          refine lv_iload hx hb dX0_add_76 (lv_at hl 1 rfl) ?_
          refine lv_iload_n hx hb dX0_add_78 rfl (lv_at hl 4 rfl) ?_
          refine tk_sti hx hb hK hP hD hS 3 2 rfl rfl n (by omega) (by decide) dX0_add_79 (fun Hp locs hP hD hS => ?_)
          have hP : va_P (dC, dI) vwCl (tk_w0 o q ca (upd aP n (nI j)) (upd aH n (nI (he j + 1))) (upd aT n tm) aA aG aK aZ (tk_mS pa he aT j aS) n) Hp := hP
          have hD : va_D A (tk_w0 o q ca (upd aP n (nI j)) (upd aH n (nI (he j + 1))) (upd aT n tm) aA aG aK aZ (tk_mS pa he aT j aS) n) := hD
          refine lv_aload_n hx hb dX0_add_80 rfl (lv_at hl 2 rfl) ?_
          refine va_get (D := (dC, dI)) (ci := 0) (v := .ref (q 3)) (C := RX0) (T := TX0) (N := 9) hx hb hts hin0 hown hK hP 0 rfl rfl 3 (by decide) fl19 (fun _ h9 => h9) rfl dX0_add_81 ?_
          refine lv_iload hx hb dX0_add_84 (lv_at hl 1 rfl) ?_
          refine lv_iload_n hx hb dX0_add_86 rfl (lv_at hl 5 rfl) ?_
          refine tk_sti hx hb hK hP hD hS 4 3 rfl rfl n (by omega) (by decide) dX0_add_87 (fun Hp locs hP hD hS => ?_)
          have hP : va_P (dC, dI) vwCl (tk_w0 o q ca (upd aP n (nI j)) (upd aH n (nI (he j + 1))) (upd aT n tm) (upd aA n ar) aG aK aZ (tk_mS pa he aT j aS) n) Hp := hP
          have hD : va_D A (tk_w0 o q ca (upd aP n (nI j)) (upd aH n (nI (he j + 1))) (upd aT n tm) (upd aA n ar) aG aK aZ (tk_mS pa he aT j aS) n) := hD
          refine lv_aload_n hx hb dX0_add_88 rfl (lv_at hl 2 rfl) ?_
          refine va_get (D := (dC, dI)) (ci := 0) (v := .ref (q 4)) (C := RX0) (T := TX0) (N := 9) hx hb hts hin0 hown hK hP 0 rfl rfl 4 (by decide) fl22 (fun _ h9 => h9) rfl dX0_add_89 ?_
          refine lv_iload hx hb dX0_add_92 (lv_at hl 1 rfl) ?_
          refine lv_iload hx hb dX0_add_94 (lv_at hl 0 rfl) ?_
          refine tk_sti hx hb hK hP hD hS 5 4 rfl rfl n (by omega) (by decide) dX0_add_96 (fun Hp locs hP hD hS => ?_)
          have hP : va_P (dC, dI) vwCl (tk_w0 o q ca (upd aP n (nI j)) (upd aH n (nI (he j + 1))) (upd aT n tm) (upd aA n ar) (upd aG n (nI g)) aK aZ (tk_mS pa he aT j aS) n) Hp := hP
          have hD : va_D A (tk_w0 o q ca (upd aP n (nI j)) (upd aH n (nI (he j + 1))) (upd aT n tm) (upd aA n ar) (upd aG n (nI g)) aK aZ (tk_mS pa he aT j aS) n) := hD
          refine lv_aload_n hx hb dX0_add_97 rfl (lv_at hl 2 rfl) ?_
          refine va_get (D := (dC, dI)) (ci := 0) (v := .ref (q 5)) (C := RX0) (T := TX0) (N := 9) hx hb hts hin0 hown hK hP 0 rfl rfl 5 (by decide) fl25 (fun _ h9 => h9) rfl dX0_add_98 ?_
          refine lv_iload hx hb dX0_add_101 (lv_at hl 1 rfl) ?_
          refine lv_aload_n hx hb dX0_add_103 rfl (lv_at hl 2 rfl) ?_
          refine va_get (D := (dC, dI)) (ci := 0) (v := .ref (q 5)) (C := RX0) (T := TX0) (N := 9) hx hb hts hin0 hown hK hP 0 rfl rfl 5 (by decide) fl25 (fun _ h9 => h9) rfl dX0_add_104 ?_
          refine lv_iload_n hx hb dX0_add_107 rfl (lv_at hl 3 rfl) ?_
          refine tk_rdi (v := nI (wk j)) hx hb hK hP 6 5 rfl rfl (j) (by omega) (by decide) (hW j hj).1 dX0_add_108 ?_
          refine lv_ldc (v := 16777216) hx hb hown kc51 dX0_add_109 ?_
          refine tk_top (y := nI 16777216) (by decide +kernel) ?_
          refine lv_iload hx hb dX0_add_111 (lv_at hl 0 rfl) ?_
          refine lv_idiv hx hb dX0_add_113 (fun z => absurd ((tk_eq0 (by omega)).mp z) (by omega)) ?_
          refine tk_top (y := nI (16777216 / g)) (pk_div (by decide) (by omega) (by omega)) ?_
          refine lv_iadd hx hb dX0_add_114 ?_
          refine tk_top (y := nI (wk j + 16777216 / g)) (nI_add _ _) ?_
          refine tk_sti hx hb hK hP hD hS 6 5 rfl rfl n (by omega) (by decide) dX0_add_115 (fun Hp locs hP hD hS => ?_)
          have hP : va_P (dC, dI) vwCl (tk_w0 o q ca (upd aP n (nI j)) (upd aH n (nI (he j + 1))) (upd aT n tm) (upd aA n ar) (upd aG n (nI g)) (upd aK n (nI (wk j + 16777216 / g))) aZ (tk_mS pa he aT j aS) n) Hp := hP
          have hD : va_D A (tk_w0 o q ca (upd aP n (nI j)) (upd aH n (nI (he j + 1))) (upd aT n tm) (upd aA n ar) (upd aG n (nI g)) (upd aK n (nI (wk j + 16777216 / g))) aZ (tk_mS pa he aT j aS) n) := hD
          refine lv_aload_n hx hb dX0_add_116 rfl (lv_at hl 2 rfl) ?_
          refine va_get (D := (dC, dI)) (ci := 0) (v := .ref (q 6)) (C := RX0) (T := TX0) (N := 9) hx hb hts hin0 hown hK hP 0 rfl rfl 6 (by decide) fl28 (fun _ h9 => h9) rfl dX0_add_117 ?_
          refine lv_iload hx hb dX0_add_120 (lv_at hl 1 rfl) ?_
          refine lv_aload_n hx hb dX0_add_122 rfl (lv_at hl 2 rfl) ?_
          refine va_get (D := (dC, dI)) (ci := 0) (v := .ref (q 6)) (C := RX0) (T := TX0) (N := 9) hx hb hts hin0 hown hK hP 0 rfl rfl 6 (by decide) fl28 (fun _ h9 => h9) rfl dX0_add_123 ?_
          refine lv_iload_n hx hb dX0_add_126 rfl (lv_at hl 3 rfl) ?_
          refine tk_rdz (v := aZ j) hx hb hK hP 7 6 rfl rfl (j) (by omega) (by decide) rfl dX0_add_127 ?_
          refine tk_stz (x' := aZ j) hx hb hK hP hD hS 7 6 rfl rfl n (by omega) (by decide) (tk_nar (hZ01 j hj)) dX0_add_128 (fun Hp locs hP hD hS => ?_)
          have hP : va_P (dC, dI) vwCl (tk_w0 o q ca (upd aP n (nI j)) (upd aH n (nI (he j + 1))) (upd aT n tm) (upd aA n ar) (upd aG n (nI g)) (upd aK n (nI (wk j + 16777216 / g))) (upd aZ n (aZ j)) (tk_mS pa he aT j aS) n) Hp := hP
          have hD : va_D A (tk_w0 o q ca (upd aP n (nI j)) (upd aH n (nI (he j + 1))) (upd aT n tm) (upd aA n ar) (upd aG n (nI g)) (upd aK n (nI (wk j + 16777216 / g))) (upd aZ n (aZ j)) (tk_mS pa he aT j aS) n) := hD
          refine lv_aload_n hx hb dX0_add_129 rfl (lv_at hl 2 rfl) ?_
          refine lv_dup hx hb dX0_add_130 rfl ?_
          refine va_get (D := (dC, dI)) (ci := 0) (v := .int (nI n)) (C := RX0) (T := TX0) (N := 9) hx hb hts hin0 hown hK hP 0 rfl rfl 8 (by decide) fl36 (fun _ h9 => h9) rfl dX0_add_131 ?_
          refine lv_iconst (v := nI 1) hx hb dX0_add_134 (by decide +kernel) ?_
          refine lv_iadd hx hb dX0_add_135 ?_
          refine tk_top (y := nI (n + 1)) (tk_add1 n) ?_
          refine va_put (D := (dC, dI)) (ci := 0) (v := .int (nI (n + 1))) (ty := .int) (C := RX0) (T := TX0) (N := 9) hx hb hts hin0 tyX0 tyX0_ok nmX0 hown hK hP hD hS 0 rfl rfl 8 (by decide) fl36 (fun _ h9 => h9) rfl (by decide +kernel) rfl rfl (Nat.le_of_ble_eq_true rfl) dX0_add_136 (fun Hp locs hP hD hS => ?_)
          have hP : va_P (dC, dI) vwCl (tk_w0 o q ca (upd aP n (nI j)) (upd aH n (nI (he j + 1))) (upd aT n tm) (upd aA n ar) (upd aG n (nI g)) (upd aK n (nI (wk j + 16777216 / g))) (upd aZ n (aZ j)) (tk_mS pa he aT j aS) (n + 1)) Hp := hP
          have hD : va_D A (tk_w0 o q ca (upd aP n (nI j)) (upd aH n (nI (he j + 1))) (upd aT n tm) (upd aA n ar) (upd aG n (nI g)) (upd aK n (nI (wk j + 16777216 / g))) (upd aZ n (aZ j)) (tk_mS pa he aT j aS) (n + 1)) := hD
          refine lv_iload hx hb dX0_add_139 (lv_at hl 1 rfl) ?_
          subst hQ
          exact W.iret hx hb hr (fun t ht hW => ⟨⟨nI n, tk_w0 o q ca (upd aP n (nI j)) (upd aH n (nI (he j + 1))) (upd aT n tm) (upd aA n ar) (upd aG n (nI g)) (upd aK n (nI (wk j + 16777216 / g))) (upd aZ n (aZ j)) (tk_mS pa he aT j aS) (n + 1), rfl, (Or.inr ⟨j, hj, rfl, Or.inr ⟨⟨hc14, hc18⟩, Or.inr ⟨e30, rfl, g, hg1, hg2, hg, rfl⟩⟩⟩), by rw [ht]; exact hP, va_K.moved hW.alike hK, hD⟩, hS.F ht⟩) hS.2.2 dX0_add_141
        · have e30 : ¬ n < 512 := fun z => hc30 ((nI_ltI (by omega) (by decide)).mpr z)
          refine lv_bipush (v := -3) hx hb dX0_add_33 (by decide +kernel) ?_
          subst hQ
          exact W.iret hx hb hr (fun t ht hW => ⟨⟨-3, tk_w0 o q ca aP aH aT aA aG aK aZ (tk_mS pa he aT j aS) n, rfl, (Or.inr ⟨j, hj, rfl, Or.inr ⟨⟨hc14, hc18⟩, Or.inl ⟨by omega, rfl, rfl⟩⟩⟩), by rw [ht]; exact hP, va_K.moved hW.alike hK, hD⟩, hS.F ht⟩) hS.2.2 dX0_add_35
      · refine lv_iconst (v := -1) hx hb dX0_add_21 (by decide +kernel) ?_
        subst hQ
        exact W.iret hx hb hr (fun t ht hW => ⟨⟨-1, tk_w0 o q ca aP aH aT aA aG aK aZ (tk_mS pa he aT j aS) n, rfl, (Or.inr ⟨j, hj, rfl, Or.inl ⟨Or.inr hc18, rfl, rfl⟩⟩), by rw [ht]; exact hP, va_K.moved hW.alike hK, hD⟩, hS.F ht⟩) hS.2.2 dX0_add_22
end
section
set_option maxHeartbeats 4000000 in
set_option maxRecDepth 100000 in
theorem c1_wrong (l : Launch) (dC : Nat → ClassId) (dI : Nat → Nat → Nat) (o : Nat) (q : Nat → Nat) (ca : Nat → ClassId) (aP aH aT aG : Nat → Int32) (aL : Nat → Int64) (aA aF aS : Nat → Int32) (n : Nat) (pa he : Nat → Nat) (hT : tk_I aP aH pa he n) (aZ : Nat → Int32) (hZ : tk_wI pa aF aZ n) (j : Nat) (hj : j < n) : Met l yX1_wrong wsX1_wrong ({ frames := 0, cells := 0, slots := 0, locals := 0 }) (tk_R (dC, dI) (tk_w1 o q ca aP aH aT aG aL aA aF aS n) (tk_t1 ca) [.ref o, .int (nI j)]) (vp_Si (fun r => r = aZ j)) 0 0 (fun _ => False) := by
  refine Met.ofW (cc := cX1_wrong) (maxL := 4) (ret := (some .boolean)) (by decide) rfl ?_
  intro p e s m args below meth c s₁ B hml hv
  obtain ⟨rfl, hP, hK⟩ := hv
  have hx := B.exec
  have hb := B.bytes
  have hr := B.returns
  have hts := atoms_spec (ws := wsX1_wrong) B.pre
  have hown : s.vm.findClass RX1 = some m.cls := findClass_of_methodNamed B.named
  have hlocks := B.notSynchronized
  have hin0 : ∀ w ∈ u_ws RX1 TX1 9, w ∈ wsX1_wrong := by decide +kernel
  have fl29 := hts (.fieldLink RX1 29 "WorkTreeModel" "refused" "[Z") (by decide +kernel)
  have fl9 := hts (.fieldLink RX1 9 "WorkTreeModel" "parent" "[I") (by decide +kernel)
  have hl := lv_entry ([.ref o, .int (nI j)]) (n := 4) (Nat.le_of_ble_eq_true rfl)
  rw [lg_entry_eq]
  generalize (lg_sl ([.ref o, .int (nI j)]) ++ List.replicate (4 - (lg_sl ([.ref o, .int (nI j)])).length) Slot.unset).toArray = ls at hl ⊢
  have hl : lv_has ls 4 [(0, .ref o), (1, .int (nI j))] := hl
  refine tk_Q (fun Q hQ => ?_)
  have hn := hT.1.2
  have loop : ∀ (k : Nat) (a : Nat) (bad : Int32) (ls : Array Slot), a ≤ k → a < n → (bad = 0 ∧ aZ a = aZ j ∨ bad = 1 ∧ aZ j = 1) → lv_has ls 4 [(3, .int (nI a)), (2, .int bad), (0, .ref o), (1, .int (nI j))] → W p l e (headSpec wsX1_wrong ({ frames := 0, cells := 0, slots := 0, locals := 0 })).room s m ([.ref o, .int (nI j)] : List Value).toArray below meth c s.heap [] 0 0 Q (F0 m 4 ls []) := by
    intro k
    induction k with
    | zero =>
      intro a bad ls hak ha hz hl
      refine lv_iload_n hx hb dX1_wrong_4 rfl (lv_at hl 0 rfl) ?_
      refine lv_if_le (tgt := 37) hx hb dX1_wrong_5 (by decide) (fun hc5 => ?_) (fun hc5 => ?_)
      · obtain rfl : a = 0 := by omega
        refine lv_iload_n hx hb dX1_wrong_37 rfl (lv_at hl 1 rfl) ?_
        subst hQ
        rcases hz with ⟨rfl, h9⟩ | ⟨rfl, h9⟩
        · exact tk_zret hx hb hr hlocks rfl (show (0 : Int32) = aZ j from hZ.1.symm.trans h9) dX1_wrong_38
        · exact tk_zret hx hb hr hlocks rfl (show (1 : Int32) = aZ j from h9.symm) dX1_wrong_38
      · obtain rfl : a = 0 := by omega
        exact absurd ((tk_le0 (by omega)).mpr rfl) hc5
    | succ k ih =>
      intro a bad ls hak ha hz hl
      refine lv_iload_n hx hb dX1_wrong_4 rfl (lv_at hl 0 rfl) ?_
      refine lv_if_le (tgt := 37) hx hb dX1_wrong_5 (by decide) (fun hc5 => ?_) (fun hc5 => ?_)
      · obtain rfl : a = 0 := (tk_le0 (by omega)).mp hc5
        refine lv_iload_n hx hb dX1_wrong_37 rfl (lv_at hl 1 rfl) ?_
        subst hQ
        rcases hz with ⟨rfl, h9⟩ | ⟨rfl, h9⟩
        · exact tk_zret hx hb hr hlocks rfl (show (0 : Int32) = aZ j from hZ.1.symm.trans h9) dX1_wrong_38
        · exact tk_zret hx hb hr hlocks rfl (show (1 : Int32) = aZ j from h9.symm) dX1_wrong_38
      · have e5 : 0 < a := Nat.pos_of_ne_zero (fun z => hc5 ((tk_le0 (by omega)).mpr z))
        obtain ⟨u2, u3, u4⟩ := hT.2.2.2.2 a e5 ha
        refine lv_iload_n hx hb dX1_wrong_8 rfl (lv_at hl 1 rfl) ?_
        refine lv_if_ne (tgt := 21) hx hb dX1_wrong_9 (by decide) (fun hc9 => ?_) (fun hc9 => ?_)
        · have hz1 : aZ j = 1 := by
            rcases hz with ⟨h9, _⟩ | ⟨_, h9⟩
            · exact absurd h9 hc9
            · exact h9
          refine lv_iconst (v := 1) hx hb dX1_wrong_21 (by decide +kernel) ?_
          refine lv_goto (tgt := 26) hx hb dX1_wrong_22 (by decide) ?_
          refine lv_istore_n hx hb dX1_wrong_26 rfl hl (by decide) rfl (fun ls hl => ?_)
          have hl : lv_has ls 4 [(2, .int 1), (3, .int (nI a)), (0, .ref o), (1, .int (nI j))] := hl
          refine lv_aload_n hx hb dX1_wrong_27 rfl (lv_at hl 2 rfl) ?_
          refine va_get (D := (dC, dI)) (ci := 1) (v := .ref (q 0)) (C := RX1) (T := TX1) (N := 9) hx hb hts hin0 hown hK hP 0 rfl rfl 0 (by decide) fl9 (fun _ h9 => h9) rfl dX1_wrong_28 ?_
          refine lv_iload_n hx hb dX1_wrong_31 rfl (lv_at hl 1 rfl) ?_
          refine tk_rdi (v := nI (pa a)) hx hb hK hP 1 0 rfl rfl (a) (by omega) (by decide) u2 dX1_wrong_32 ?_
          refine lv_istore_n hx hb dX1_wrong_33 rfl hl (by decide) rfl (fun ls hl => ?_)
          have hl : lv_has ls 4 [(3, .int (nI (pa a))), (2, .int 1), (0, .ref o), (1, .int (nI j))] := hl
          refine lv_goto (tgt := 4) hx hb dX1_wrong_34 (by decide) ?_
          exact ih (pa a) 1 ls (by omega) (by omega) (Or.inr ⟨rfl, hz1⟩) hl
        · have hz0 : aZ a = aZ j := by
            rcases hz with ⟨_, h9⟩ | ⟨h9, _⟩
            · exact h9
            · exact absurd (h9.symm.trans hc9) (by decide)
          refine lv_aload_n hx hb dX1_wrong_12 rfl (lv_at hl 2 rfl) ?_
          refine va_get (D := (dC, dI)) (ci := 1) (v := .ref (q 6)) (C := RX1) (T := TX1) (N := 9) hx hb hts hin0 hown hK hP 0 rfl rfl 6 (by decide) fl29 (fun _ h9 => h9) rfl dX1_wrong_13 ?_
          refine lv_iload_n hx hb dX1_wrong_16 rfl (lv_at hl 0 rfl) ?_
          refine tk_rdz (v := aF a) hx hb hK hP 7 6 rfl rfl (a) (by omega) (by decide) rfl dX1_wrong_17 ?_
          refine lv_if_eq (tgt := 25) hx hb dX1_wrong_18 (by decide) (fun hc18 => ?_) (fun hc18 => ?_)
          · refine lv_iconst (v := 0) hx hb dX1_wrong_25 (by decide +kernel) ?_
            refine lv_istore_n hx hb dX1_wrong_26 rfl hl (by decide) rfl (fun ls hl => ?_)
            have hl : lv_has ls 4 [(2, .int 0), (3, .int (nI a)), (0, .ref o), (1, .int (nI j))] := hl
            refine lv_aload_n hx hb dX1_wrong_27 rfl (lv_at hl 2 rfl) ?_
            refine va_get (D := (dC, dI)) (ci := 1) (v := .ref (q 0)) (C := RX1) (T := TX1) (N := 9) hx hb hts hin0 hown hK hP 0 rfl rfl 0 (by decide) fl9 (fun _ h9 => h9) rfl dX1_wrong_28 ?_
            refine lv_iload_n hx hb dX1_wrong_31 rfl (lv_at hl 1 rfl) ?_
            refine tk_rdi (v := nI (pa a)) hx hb hK hP 1 0 rfl rfl (a) (by omega) (by decide) u2 dX1_wrong_32 ?_
            refine lv_istore_n hx hb dX1_wrong_33 rfl hl (by decide) rfl (fun ls hl => ?_)
            have hl : lv_has ls 4 [(3, .int (nI (pa a))), (2, .int 0), (0, .ref o), (1, .int (nI j))] := hl
            refine lv_goto (tgt := 4) hx hb dX1_wrong_34 (by decide) ?_
            exact ih (pa a) 0 ls (by omega) (by omega) (Or.inl ⟨rfl, ((hZ.2.2 a e5 ha).trans (if_pos hc18)).symm.trans hz0⟩) hl
          · refine lv_iconst (v := 1) hx hb dX1_wrong_21 (by decide +kernel) ?_
            refine lv_goto (tgt := 26) hx hb dX1_wrong_22 (by decide) ?_
            refine lv_istore_n hx hb dX1_wrong_26 rfl hl (by decide) rfl (fun ls hl => ?_)
            have hl : lv_has ls 4 [(2, .int 1), (3, .int (nI a)), (0, .ref o), (1, .int (nI j))] := hl
            refine lv_aload_n hx hb dX1_wrong_27 rfl (lv_at hl 2 rfl) ?_
            refine va_get (D := (dC, dI)) (ci := 1) (v := .ref (q 0)) (C := RX1) (T := TX1) (N := 9) hx hb hts hin0 hown hK hP 0 rfl rfl 0 (by decide) fl9 (fun _ h9 => h9) rfl dX1_wrong_28 ?_
            refine lv_iload_n hx hb dX1_wrong_31 rfl (lv_at hl 1 rfl) ?_
            refine tk_rdi (v := nI (pa a)) hx hb hK hP 1 0 rfl rfl (a) (by omega) (by decide) u2 dX1_wrong_32 ?_
            refine lv_istore_n hx hb dX1_wrong_33 rfl hl (by decide) rfl (fun ls hl => ?_)
            have hl : lv_has ls 4 [(3, .int (nI (pa a))), (2, .int 1), (0, .ref o), (1, .int (nI j))] := hl
            refine lv_goto (tgt := 4) hx hb dX1_wrong_34 (by decide) ?_
            exact ih (pa a) 1 ls (by omega) (by omega) (Or.inr ⟨rfl, hz0.symm.trans ((hZ.2.2 a e5 ha).trans (if_neg hc18))⟩) hl
  refine lv_iconst (v := 0) hx hb dX1_wrong_0 (by decide +kernel) ?_
  refine lv_istore_n hx hb dX1_wrong_1 rfl hl (by decide) rfl (fun ls hl => ?_)
  have hl : lv_has ls 4 [(2, .int 0), (0, .ref o), (1, .int (nI j))] := hl
  refine lv_iload_n hx hb dX1_wrong_2 rfl (lv_at hl 2 rfl) ?_
  refine lv_istore_n hx hb dX1_wrong_3 rfl hl (by decide) rfl (fun ls hl => ?_)
  have hl : lv_has ls 4 [(3, .int (nI j)), (2, .int 0), (0, .ref o), (1, .int (nI j))] := hl
  exact loop j j 0 ls (Nat.le_refl _) hj (Or.inl ⟨rfl, rfl⟩) hl
set_option maxHeartbeats 4000000 in
set_option maxRecDepth 100000 in
theorem c1_ancestor (l : Launch) (dC : Nat → ClassId) (dI : Nat → Nat → Nat) (o : Nat) (q : Nat → Nat) (ca : Nat → ClassId) (aP aH aT aG : Nat → Int32) (aL : Nat → Int64) (aA aF aS : Nat → Int32) (n : Nat) (pa he : Nat → Nat) (hT : tk_I aP aH pa he n) (b t : Int32) : Met l yX1_ancestor wsX1_ancestor ({ frames := 1, cells := 0, slots := 0, locals := 21 }) (tk_R (dC, dI) (tk_w1 o q ca aP aH aT aG aL aA aF aS n) (tk_t1 ca) [.ref o, .int b, .int t]) (vp_Si (fun r => r = tk_an pa he n b t)) 0 0 (fun _ => False) := by
  refine Met.ofW (cc := cX1_ancestor) (maxL := 4) (ret := (some .int)) (by decide) rfl ?_
  intro p e s m args below meth c s₁ B hml hv
  obtain ⟨rfl, hP, hK⟩ := hv
  have hx := B.exec
  have hb := B.bytes
  have hr := B.returns
  have hts := atoms_spec (ws := wsX1_ancestor) B.pre
  have hown : s.vm.findClass RX1 = some m.cls := findClass_of_methodNamed B.named
  have hlocks := B.notSynchronized
  have hin0 : ∀ w ∈ u_ws RX1 TX1 9, w ∈ wsX1_ancestor := by decide +kernel
  have fl13 := hts (.fieldLink RX1 13 "WorkTreeModel" "height" "[I") (by decide +kernel)
  have fl9 := hts (.fieldLink RX1 9 "WorkTreeModel" "parent" "[I") (by decide +kernel)
  have hl := lv_entry ([.ref o, .int b, .int t]) (n := 4) (Nat.le_of_ble_eq_true rfl)
  rw [lg_entry_eq]
  generalize (lg_sl ([.ref o, .int b, .int t]) ++ List.replicate (4 - (lg_sl ([.ref o, .int b, .int t])).length) Slot.unset).toArray = ls at hl ⊢
  have hl : lv_has ls 4 [(0, .ref o), (1, .int b), (2, .int t)] := hl
  refine tk_Q (fun Q hQ => ?_)
  have hn := hT.1.2
  refine lv_aload_n hx hb dX1_ancestor_0 rfl (lv_at hl 0 rfl) ?_
  refine lv_iload_n hx hb dX1_ancestor_1 rfl (lv_at hl 1 rfl) ?_
  refine vp_callSi (W.runV (As := [.int b]) (rest := []) ⟨hx, hb, hml, hown, hts⟩ (c1_is l dC dI o q ca aP aH aT aG aL aA aF aS n b) (cwV 1 hts gX1_ancestor_X1_is rfl rfl rfl (by decide +kernel) ⟨Nat.le_of_ble_eq_true rfl, Nat.le_of_ble_eq_true rfl⟩) (tk_pre hK hP rfl rfl) rfl rfl hl.1 rfl (lv_room (Nat.le_of_ble_eq_true rfl)) dX1_ancestor_2 ⟨Nat.le_of_ble_eq_true rfl, Nat.le_of_ble_eq_true rfl⟩) (fun r hr1 => ?_)
  refine tk_top (y := tk_ex n b) hr1 ?_
  refine lv_if_eq (tgt := 22) hx hb dX1_ancestor_5 (by decide) (fun hc5 => ?_) (fun hc5 => ?_)
  · refine lv_bipush (v := -2) hx hb dX1_ancestor_22 (by decide +kernel) ?_
    subst hQ
    exact tk_iret hx hb hr hlocks (tk_an0 hc5).symm dX1_ancestor_24
  · obtain ⟨j, hj, rfl⟩ := tk_ex_t hn hc5
    have hjj := (hT.2.2.2.1 j hj).2
    refine lv_iload_n hx hb dX1_ancestor_8 rfl (lv_at hl 2 rfl) ?_
    refine lv_if_lt (tgt := 22) hx hb dX1_ancestor_9 (by decide) (fun hc9 => ?_) (fun hc9 => ?_)
    · refine lv_bipush (v := -2) hx hb dX1_ancestor_22 (by decide +kernel) ?_
      subst hQ
      exact tk_iret hx hb hr hlocks (tk_an1 hc9).symm dX1_ancestor_24
    · refine lv_iload_n hx hb dX1_ancestor_12 rfl (lv_at hl 2 rfl) ?_
      refine lv_aload_n hx hb dX1_ancestor_13 rfl (lv_at hl 0 rfl) ?_
      refine va_get (D := (dC, dI)) (ci := 1) (v := .ref (q 1)) (C := RX1) (T := TX1) (N := 9) hx hb hts hin0 hown hK hP 0 rfl rfl 1 (by decide) fl13 (fun _ h9 => h9) rfl dX1_ancestor_14 ?_
      refine lv_iload_n hx hb dX1_ancestor_17 rfl (lv_at hl 1 rfl) ?_
      refine tk_rdi (v := nI (he j)) hx hb hK hP 2 1 rfl rfl (j) (by omega) (by decide) (hT.2.2.2.1 j hj).1 dX1_ancestor_18 ?_
      refine lv_icmp_le (tgt := 25) hx hb dX1_ancestor_19 (by decide) (fun hc19 => ?_) (fun hc19 => ?_)
      · obtain ⟨t, ht0, rfl⟩ := nI_of hc9
        have e19 := (nI_leI (by omega) (by omega)).mp hc19
        refine lv_iload_n hx hb dX1_ancestor_25 rfl (lv_at hl 1 rfl) ?_
        refine lv_istore_n hx hb dX1_ancestor_26 rfl hl (by decide) rfl (fun ls hl => ?_)
        have hl : lv_has ls 4 [(3, .int (nI j)), (0, .ref o), (1, .int (nI j)), (2, .int (nI t))] := hl
        have hzz : nI (tk_anc pa (he j - t) j) = tk_an pa he n (nI j) (nI t) := (tk_an3 hn hj ht0 e19).symm
        generalize hzq : tk_anc pa (he j - t) j = z at hzz
        have loop : ∀ (k : Nat) (a : Nat) (ls : Array Slot), a < n → he a = t + k → tk_anc pa k a = z → lv_has ls 4 [(3, .int (nI a)), (0, .ref o), (1, .int (nI j)), (2, .int (nI t))] → W p l e (headSpec wsX1_ancestor ({ frames := 1, cells := 0, slots := 0, locals := 21 })).room s m ([.ref o, .int (nI j), .int (nI t)] : List Value).toArray below meth c s.heap [] 0 0 Q (F0 m 27 ls []) := by
          intro k
          induction k with
          | zero =>
            intro a ls ha hka hz hl
            have hka2 := (hT.2.2.2.1 a ha).2
            refine lv_aload_n hx hb dX1_ancestor_27 rfl (lv_at hl 1 rfl) ?_
            refine va_get (D := (dC, dI)) (ci := 1) (v := .ref (q 1)) (C := RX1) (T := TX1) (N := 9) hx hb hts hin0 hown hK hP 0 rfl rfl 1 (by decide) fl13 (fun _ h9 => h9) rfl dX1_ancestor_28 ?_
            refine lv_iload_n hx hb dX1_ancestor_31 rfl (lv_at hl 0 rfl) ?_
            refine tk_rdi (v := nI (he a)) hx hb hK hP 2 1 rfl rfl (a) (by omega) (by decide) (hT.2.2.2.1 a ha).1 dX1_ancestor_32 ?_
            refine lv_iload_n hx hb dX1_ancestor_33 rfl (lv_at hl 3 rfl) ?_
            refine lv_icmp_le (tgt := 47) hx hb dX1_ancestor_34 (by decide) (fun hc34 => ?_) (fun hc34 => ?_)
            · refine lv_iload_n hx hb dX1_ancestor_47 rfl (lv_at hl 0 rfl) ?_
              subst hQ
              exact tk_iret hx hb hr hlocks (show nI a = _ from (congrArg nI hz).trans hzz) dX1_ancestor_48
            · exact absurd (nI_le (by omega) (by omega)) hc34
          | succ k ih =>
            intro a ls ha hka hz hl
            have hka2 := (hT.2.2.2.1 a ha).2
            refine lv_aload_n hx hb dX1_ancestor_27 rfl (lv_at hl 1 rfl) ?_
            refine va_get (D := (dC, dI)) (ci := 1) (v := .ref (q 1)) (C := RX1) (T := TX1) (N := 9) hx hb hts hin0 hown hK hP 0 rfl rfl 1 (by decide) fl13 (fun _ h9 => h9) rfl dX1_ancestor_28 ?_
            refine lv_iload_n hx hb dX1_ancestor_31 rfl (lv_at hl 0 rfl) ?_
            refine tk_rdi (v := nI (he a)) hx hb hK hP 2 1 rfl rfl (a) (by omega) (by decide) (hT.2.2.2.1 a ha).1 dX1_ancestor_32 ?_
            refine lv_iload_n hx hb dX1_ancestor_33 rfl (lv_at hl 3 rfl) ?_
            refine lv_icmp_le (tgt := 47) hx hb dX1_ancestor_34 (by decide) (fun hc34 => ?_) (fun hc34 => ?_)
            · exact absurd ((nI_leI (by omega) (by omega)).mp hc34) (by omega)
            · obtain ⟨u1, u2, u3, u4⟩ := tk_up hT ha (by omega)
              refine lv_aload_n hx hb dX1_ancestor_37 rfl (lv_at hl 1 rfl) ?_
              refine va_get (D := (dC, dI)) (ci := 1) (v := .ref (q 0)) (C := RX1) (T := TX1) (N := 9) hx hb hts hin0 hown hK hP 0 rfl rfl 0 (by decide) fl9 (fun _ h9 => h9) rfl dX1_ancestor_38 ?_
              refine lv_iload_n hx hb dX1_ancestor_41 rfl (lv_at hl 0 rfl) ?_
              refine tk_rdi (v := nI (pa a)) hx hb hK hP 1 0 rfl rfl (a) (by omega) (by decide) u2 dX1_ancestor_42 ?_
              refine lv_istore_n hx hb dX1_ancestor_43 rfl hl (by decide) rfl (fun ls hl => ?_)
              have hl : lv_has ls 4 [(3, .int (nI (pa a))), (0, .ref o), (1, .int (nI j)), (2, .int (nI t))] := hl
              refine lv_goto (tgt := 27) hx hb dX1_ancestor_44 (by decide) ?_
              exact ih (pa a) ls (by omega) (by omega) hz hl
        exact loop (he j - t) j ls hj (by omega) hzq hl
      · refine lv_bipush (v := -2) hx hb dX1_ancestor_22 (by decide +kernel) ?_
        subst hQ
        exact tk_iret hx hb hr hlocks (tk_an2 hn hj hc19).symm dX1_ancestor_24
set_option maxHeartbeats 4000000 in
set_option maxRecDepth 100000 in
theorem c1_best (l : Launch) (dC : Nat → ClassId) (dI : Nat → Nat → Nat) (o : Nat) (q : Nat → Nat) (ca : Nat → ClassId) (aP aH aT aG : Nat → Int32) (aL : Nat → Int64) (aA aF aS : Nat → Int32) (n : Nat) (pa he : Nat → Nat) (hT : tk_I aP aH pa he n) (aZ : Nat → Int32) (hZ : tk_wI pa aF aZ n) (wk : Nat → Nat) (hL : tk_WL aL wk n) : Met l yX1_best wsX1_best ({ frames := 1, cells := 0, slots := 0, locals := 23 }) (tk_R (dC, dI) (tk_w1 o q ca aP aH aT aG aL aA aF aS n) (tk_t1 ca) [.ref o]) (vp_Si (fun r => r = nI (tk_best aZ aA wk n))) 0 0 (fun _ => False) := by
  refine Met.ofW (cc := cX1_best) (maxL := 3) (ret := (some .int)) (by decide) rfl ?_
  intro p e s m args below meth c s₁ B hml hv
  obtain ⟨rfl, hP, hK⟩ := hv
  have hx := B.exec
  have hb := B.bytes
  have hr := B.returns
  have hts := atoms_spec (ws := wsX1_best) B.pre
  have hown : s.vm.findClass RX1 = some m.cls := findClass_of_methodNamed B.named
  have hlocks := B.notSynchronized
  have hin0 : ∀ w ∈ u_ws RX1 TX1 9, w ∈ wsX1_best := by decide +kernel
  have fl36 := hts (.fieldLink RX1 36 "WorkTreeModel" "count" "I") (by decide +kernel)
  have fl22 := hts (.fieldLink RX1 22 "WorkTreeModel" "work" "[J") (by decide +kernel)
  have fl26 := hts (.fieldLink RX1 26 "WorkTreeModel" "arrival" "[I") (by decide +kernel)
  have hl := lv_entry ([.ref o]) (n := 3) (Nat.le_of_ble_eq_true rfl)
  rw [lg_entry_eq]
  generalize (lg_sl ([.ref o]) ++ List.replicate (3 - (lg_sl ([.ref o])).length) Slot.unset).toArray = ls at hl ⊢
  have hl : lv_has ls 3 [(0, .ref o)] := hl
  refine tk_Q (fun Q hQ => ?_)
  have hn := hT.1.2
  have hn1 := hT.1.1
  generalize hzz : tk_best aZ aA wk n = z at hQ
  have loop : ∀ (c0 : Nat) (b f : Nat) (ls : Array Slot), b + c0 = n → f < n → tk_bs aZ aA wk c0 b f = z → lv_has ls 3 [(2, .int (nI b)), (1, .int (nI f)), (0, .ref o)] → W p l e (headSpec wsX1_best ({ frames := 1, cells := 0, slots := 0, locals := 23 })).room s m ([.ref o] : List Value).toArray below meth c s.heap [] 0 0 Q (F0 m 4 ls []) := by
    intro c0
    induction c0 with
    | zero =>
      intro b f ls hbn hf hz hl
      refine lv_iload_n hx hb dX1_best_4 rfl (lv_at hl 0 rfl) ?_
      refine lv_aload_n hx hb dX1_best_5 rfl (lv_at hl 2 rfl) ?_
      refine va_get (D := (dC, dI)) (ci := 1) (v := .int (nI n)) (C := RX1) (T := TX1) (N := 9) hx hb hts hin0 hown hK hP 0 rfl rfl 8 (by decide) fl36 (fun _ h9 => h9) rfl dX1_best_6 ?_
      refine lv_icmp_ge (tgt := 75) hx hb dX1_best_9 (by decide) (fun hc9 => ?_) (fun hc9 => ?_)
      · refine lv_iload_n hx hb dX1_best_75 rfl (lv_at hl 1 rfl) ?_
        subst hQ
        exact tk_iret hx hb hr hlocks (show nI f = nI z from congrArg nI hz) dX1_best_76
      · exact absurd (nI_le (by omega) (by omega)) hc9
    | succ c0 ih =>
      intro b f ls hbn hf hz hl
      have hbn2 : b < n := by omega
      have hwb := (hL b hbn2).2
      have hwf := (hL f hf).2
      refine lv_iload_n hx hb dX1_best_4 rfl (lv_at hl 0 rfl) ?_
      refine lv_aload_n hx hb dX1_best_5 rfl (lv_at hl 2 rfl) ?_
      refine va_get (D := (dC, dI)) (ci := 1) (v := .int (nI n)) (C := RX1) (T := TX1) (N := 9) hx hb hts hin0 hown hK hP 0 rfl rfl 8 (by decide) fl36 (fun _ h9 => h9) rfl dX1_best_6 ?_
      refine lv_icmp_ge (tgt := 75) hx hb dX1_best_9 (by decide) (fun hc9 => ?_) (fun hc9 => ?_)
      · exact absurd hc9 (nI_ge (by omega) (by omega))
      · refine lv_aload_n hx hb dX1_best_12 rfl (lv_at hl 2 rfl) ?_
        refine va_get (D := (dC, dI)) (ci := 1) (v := .ref (q 4)) (C := RX1) (T := TX1) (N := 9) hx hb hts hin0 hown hK hP 0 rfl rfl 4 (by decide) fl22 (fun _ h9 => h9) rfl dX1_best_13 ?_
        refine lv_iload_n hx hb dX1_best_16 rfl (lv_at hl 0 rfl) ?_
        refine tk_rdl (v := lN (wk b)) hx hb hK hP 5 4 rfl rfl (b) (by omega) (by decide) (hL b hbn2).1 dX1_best_17 ?_
        refine lv_aload_n hx hb dX1_best_18 rfl (lv_at hl 2 rfl) ?_
        refine va_get (D := (dC, dI)) (ci := 1) (v := .ref (q 4)) (C := RX1) (T := TX1) (N := 9) hx hb hts hin0 hown hK hP 0 rfl rfl 4 (by decide) fl22 (fun _ h9 => h9) rfl dX1_best_19 ?_
        refine lv_iload_n hx hb dX1_best_22 rfl (lv_at hl 1 rfl) ?_
        refine tk_rdl (v := lN (wk f)) hx hb hK hP 5 4 rfl rfl (f) (by omega) (by decide) (hL f hf).1 dX1_best_23 ?_
        refine tk_lcmp (v := lg_cmp (lN (wk b)) (lN (wk f))) hx hb dX1_best_24 rfl ?_
        refine lv_if_gt (tgt := 59) hx hb dX1_best_25 (by decide) (fun hc25 => ?_) (fun hc25 => ?_)
        · have e25 := (tk_cmp_gt (by omega) (by omega)).mp hc25
          refine lv_aload_n hx hb dX1_best_59 rfl (lv_at hl 2 rfl) ?_
          refine lv_iload_n hx hb dX1_best_60 rfl (lv_at hl 0 rfl) ?_
          refine vp_callSi (W.runV (As := [.int (nI b)]) (rest := []) ⟨hx, hb, hml, hown, hts⟩ (c1_wrong l dC dI o q ca aP aH aT aG aL aA aF aS n pa he hT aZ hZ b hbn2) (cwV 1 hts gX1_best_X1_wrong rfl rfl rfl (by decide +kernel) ⟨Nat.le_of_ble_eq_true rfl, Nat.le_of_ble_eq_true rfl⟩) (tk_pre hK hP rfl rfl) rfl rfl hl.1 rfl (lv_room (Nat.le_of_ble_eq_true rfl)) dX1_best_61 ⟨Nat.le_of_ble_eq_true rfl, Nat.le_of_ble_eq_true rfl⟩) (fun r hr1 => ?_)
          refine tk_top (y := aZ b) hr1 ?_
          refine lv_if_ne (tgt := 69) hx hb dX1_best_64 (by decide) (fun hc64 => ?_) (fun hc64 => ?_)
          · refine lv_iinc (k := 0) (v := nI (b + 1)) hx hb dX1_best_69 hl rfl (tk_inc b) (by decide) rfl (fun ls hl => ?_)
            have hl : lv_has ls 3 [(2, .int (nI (b + 1))), (1, .int (nI f)), (0, .ref o)] := hl
            refine lv_goto (tgt := 4) hx hb dX1_best_72 (by decide) ?_
            exact ih (b + 1) f ls (by omega) hf ((tk_bs_no (fun z9 => hc64 z9.1)).symm.trans hz) hl
          · refine lv_iload_n hx hb dX1_best_67 rfl (lv_at hl 0 rfl) ?_
            refine lv_istore_n hx hb dX1_best_68 rfl hl (by decide) rfl (fun ls hl => ?_)
            have hl : lv_has ls 3 [(1, .int (nI b)), (2, .int (nI b)), (0, .ref o)] := hl
            refine lv_iinc (k := 1) (v := nI (b + 1)) hx hb dX1_best_69 hl rfl (tk_inc b) (by decide) rfl (fun ls hl => ?_)
            have hl : lv_has ls 3 [(2, .int (nI (b + 1))), (1, .int (nI b)), (0, .ref o)] := hl
            refine lv_goto (tgt := 4) hx hb dX1_best_72 (by decide) ?_
            exact ih (b + 1) b ls (by omega) hbn2 ((tk_bs_yes ⟨hc64, Or.inl e25⟩).symm.trans hz) hl
        · have e25 : ¬ wk f < wk b := fun z => hc25 ((tk_cmp_gt (by omega) (by omega)).mpr z)
          refine lv_aload_n hx hb dX1_best_28 rfl (lv_at hl 2 rfl) ?_
          refine va_get (D := (dC, dI)) (ci := 1) (v := .ref (q 4)) (C := RX1) (T := TX1) (N := 9) hx hb hts hin0 hown hK hP 0 rfl rfl 4 (by decide) fl22 (fun _ h9 => h9) rfl dX1_best_29 ?_
          refine lv_iload_n hx hb dX1_best_32 rfl (lv_at hl 0 rfl) ?_
          refine tk_rdl (v := lN (wk b)) hx hb hK hP 5 4 rfl rfl (b) (by omega) (by decide) (hL b hbn2).1 dX1_best_33 ?_
          refine lv_aload_n hx hb dX1_best_34 rfl (lv_at hl 2 rfl) ?_
          refine va_get (D := (dC, dI)) (ci := 1) (v := .ref (q 4)) (C := RX1) (T := TX1) (N := 9) hx hb hts hin0 hown hK hP 0 rfl rfl 4 (by decide) fl22 (fun _ h9 => h9) rfl dX1_best_35 ?_
          refine lv_iload_n hx hb dX1_best_38 rfl (lv_at hl 1 rfl) ?_
          refine tk_rdl (v := lN (wk f)) hx hb hK hP 5 4 rfl rfl (f) (by omega) (by decide) (hL f hf).1 dX1_best_39 ?_
          refine tk_lcmp (v := lg_cmp (lN (wk b)) (lN (wk f))) hx hb dX1_best_40 rfl ?_
          refine lv_if_ne (tgt := 69) hx hb dX1_best_41 (by decide) (fun hc41 => ?_) (fun hc41 => ?_)
          · have e41 : ¬ wk b = wk f := fun z => hc41 ((tk_cmp_eq (by omega) (by omega)).mpr z)
            refine lv_iinc (k := 0) (v := nI (b + 1)) hx hb dX1_best_69 hl rfl (tk_inc b) (by decide) rfl (fun ls hl => ?_)
            have hl : lv_has ls 3 [(2, .int (nI (b + 1))), (1, .int (nI f)), (0, .ref o)] := hl
            refine lv_goto (tgt := 4) hx hb dX1_best_72 (by decide) ?_
            exact ih (b + 1) f ls (by omega) hf ((tk_bs_no (fun z9 => by rcases z9.2 with h9 | h9 <;> omega)).symm.trans hz) hl
          · have e41 := (tk_cmp_eq (by omega) (by omega)).mp hc41
            refine lv_aload_n hx hb dX1_best_44 rfl (lv_at hl 2 rfl) ?_
            refine va_get (D := (dC, dI)) (ci := 1) (v := .ref (q 5)) (C := RX1) (T := TX1) (N := 9) hx hb hts hin0 hown hK hP 0 rfl rfl 5 (by decide) fl26 (fun _ h9 => h9) rfl dX1_best_45 ?_
            refine lv_iload_n hx hb dX1_best_48 rfl (lv_at hl 0 rfl) ?_
            refine tk_rdi (v := aA b) hx hb hK hP 6 5 rfl rfl (b) (by omega) (by decide) rfl dX1_best_49 ?_
            refine lv_aload_n hx hb dX1_best_50 rfl (lv_at hl 2 rfl) ?_
            refine va_get (D := (dC, dI)) (ci := 1) (v := .ref (q 5)) (C := RX1) (T := TX1) (N := 9) hx hb hts hin0 hown hK hP 0 rfl rfl 5 (by decide) fl26 (fun _ h9 => h9) rfl dX1_best_51 ?_
            refine lv_iload_n hx hb dX1_best_54 rfl (lv_at hl 1 rfl) ?_
            refine tk_rdi (v := aA f) hx hb hK hP 6 5 rfl rfl (f) (by omega) (by decide) rfl dX1_best_55 ?_
            refine lv_icmp_ge (tgt := 69) hx hb dX1_best_56 (by decide) (fun hc56 => ?_) (fun hc56 => ?_)
            · refine lv_iinc (k := 0) (v := nI (b + 1)) hx hb dX1_best_69 hl rfl (tk_inc b) (by decide) rfl (fun ls hl => ?_)
              have hl : lv_has ls 3 [(2, .int (nI (b + 1))), (1, .int (nI f)), (0, .ref o)] := hl
              refine lv_goto (tgt := 4) hx hb dX1_best_72 (by decide) ?_
              exact ih (b + 1) f ls (by omega) hf ((tk_bs_no (fun z9 => by
                rcases z9.2 with h9 | h9
                · omega
                · exact tk_nlt hc56 h9.2)).symm.trans hz) hl
            · refine lv_aload_n hx hb dX1_best_59 rfl (lv_at hl 2 rfl) ?_
              refine lv_iload_n hx hb dX1_best_60 rfl (lv_at hl 0 rfl) ?_
              refine vp_callSi (W.runV (As := [.int (nI b)]) (rest := []) ⟨hx, hb, hml, hown, hts⟩ (c1_wrong l dC dI o q ca aP aH aT aG aL aA aF aS n pa he hT aZ hZ b hbn2) (cwV 1 hts gX1_best_X1_wrong rfl rfl rfl (by decide +kernel) ⟨Nat.le_of_ble_eq_true rfl, Nat.le_of_ble_eq_true rfl⟩) (tk_pre hK hP rfl rfl) rfl rfl hl.1 rfl (lv_room (Nat.le_of_ble_eq_true rfl)) dX1_best_61 ⟨Nat.le_of_ble_eq_true rfl, Nat.le_of_ble_eq_true rfl⟩) (fun r hr1 => ?_)
              refine tk_top (y := aZ b) hr1 ?_
              refine lv_if_ne (tgt := 69) hx hb dX1_best_64 (by decide) (fun hc64 => ?_) (fun hc64 => ?_)
              · refine lv_iinc (k := 0) (v := nI (b + 1)) hx hb dX1_best_69 hl rfl (tk_inc b) (by decide) rfl (fun ls hl => ?_)
                have hl : lv_has ls 3 [(2, .int (nI (b + 1))), (1, .int (nI f)), (0, .ref o)] := hl
                refine lv_goto (tgt := 4) hx hb dX1_best_72 (by decide) ?_
                exact ih (b + 1) f ls (by omega) hf ((tk_bs_no (fun z9 => hc64 z9.1)).symm.trans hz) hl
              · refine lv_iload_n hx hb dX1_best_67 rfl (lv_at hl 0 rfl) ?_
                refine lv_istore_n hx hb dX1_best_68 rfl hl (by decide) rfl (fun ls hl => ?_)
                have hl : lv_has ls 3 [(1, .int (nI b)), (2, .int (nI b)), (0, .ref o)] := hl
                refine lv_iinc (k := 1) (v := nI (b + 1)) hx hb dX1_best_69 hl rfl (tk_inc b) (by decide) rfl (fun ls hl => ?_)
                have hl : lv_has ls 3 [(2, .int (nI (b + 1))), (1, .int (nI b)), (0, .ref o)] := hl
                refine lv_goto (tgt := 4) hx hb dX1_best_72 (by decide) ?_
                exact ih (b + 1) b ls (by omega) hbn2 ((tk_bs_yes ⟨hc64, Or.inr ⟨e41.symm, tk_ltn hc56⟩⟩).symm.trans hz) hl
  refine lv_iconst (v := nI 0) hx hb dX1_best_0 (by decide +kernel) ?_
  refine lv_istore_n hx hb dX1_best_1 rfl hl (by decide) rfl (fun ls hl => ?_)
  have hl : lv_has ls 3 [(1, .int (nI 0)), (0, .ref o)] := hl
  refine lv_iconst (v := nI 1) hx hb dX1_best_2 (by decide +kernel) ?_
  refine lv_istore_n hx hb dX1_best_3 rfl hl (by decide) rfl (fun ls hl => ?_)
  have hl : lv_has ls 3 [(2, .int (nI 1)), (1, .int (nI 0)), (0, .ref o)] := hl
  exact loop (n - 1) 1 0 ls (by omega) (by omega) hzz hl
end
section
set_option maxHeartbeats 4000000 in
set_option maxRecDepth 100000 in
theorem c1_fork (l : Launch) (dC : Nat → ClassId) (dI : Nat → Nat → Nat) (o : Nat) (q : Nat → Nat) (ca : Nat → ClassId) (aP aH aT aG : Nat → Int32) (aL : Nat → Int64) (aA aF aS : Nat → Int32) (n : Nat) (pa he : Nat → Nat) (hT : tk_I aP aH pa he n) (b1 b2 : Int32) : Met l yX1_fork wsX1_fork ({ frames := 1, cells := 0, slots := 0, locals := 21 }) (tk_R (dC, dI) (tk_w1 o q ca aP aH aT aG aL aA aF aS n) (tk_t1 ca) [.ref o, .int b1, .int b2]) (vp_Si (fun r => r = tk_fr pa he n b1 b2)) 0 0 (fun _ => False) := by
  refine Met.ofW (cc := cX1_fork) (maxL := 5) (ret := (some .int)) (by decide) rfl ?_
  intro p e s m args below meth c s₁ B hml hv
  obtain ⟨rfl, hP, hK⟩ := hv
  have hx := B.exec
  have hb := B.bytes
  have hr := B.returns
  have hts := atoms_spec (ws := wsX1_fork) B.pre
  have hown : s.vm.findClass RX1 = some m.cls := findClass_of_methodNamed B.named
  have hlocks := B.notSynchronized
  have hin0 : ∀ w ∈ u_ws RX1 TX1 9, w ∈ wsX1_fork := by decide +kernel
  have fl13 := hts (.fieldLink RX1 13 "WorkTreeModel" "height" "[I") (by decide +kernel)
  have fl9 := hts (.fieldLink RX1 9 "WorkTreeModel" "parent" "[I") (by decide +kernel)
  have hl := lv_entry ([.ref o, .int b1, .int b2]) (n := 5) (Nat.le_of_ble_eq_true rfl)
  rw [lg_entry_eq]
  generalize (lg_sl ([.ref o, .int b1, .int b2]) ++ List.replicate (5 - (lg_sl ([.ref o, .int b1, .int b2])).length) Slot.unset).toArray = ls at hl ⊢
  have hl : lv_has ls 5 [(0, .ref o), (1, .int b1), (2, .int b2)] := hl
  refine tk_Q (fun Q hQ => ?_)
  have hn := hT.1.2
  refine lv_aload_n hx hb dX1_fork_0 rfl (lv_at hl 0 rfl) ?_
  refine lv_iload_n hx hb dX1_fork_1 rfl (lv_at hl 1 rfl) ?_
  refine vp_callSi (W.runV (As := [.int b1]) (rest := []) ⟨hx, hb, hml, hown, hts⟩ (c1_is l dC dI o q ca aP aH aT aG aL aA aF aS n b1) (cwV 1 hts gX1_fork_X1_is rfl rfl rfl (by decide +kernel) ⟨Nat.le_of_ble_eq_true rfl, Nat.le_of_ble_eq_true rfl⟩) (tk_pre hK hP rfl rfl) rfl rfl hl.1 rfl (lv_room (Nat.le_of_ble_eq_true rfl)) dX1_fork_2 ⟨Nat.le_of_ble_eq_true rfl, Nat.le_of_ble_eq_true rfl⟩) (fun r hr1 => ?_)
  refine tk_top (y := tk_ex n b1) hr1 ?_
  refine lv_if_eq (tgt := 16) hx hb dX1_fork_5 (by decide) (fun hc5 => ?_) (fun hc5 => ?_)
  · refine lv_bipush (v := -2) hx hb dX1_fork_16 (by decide +kernel) ?_
    subst hQ
    exact tk_iret hx hb hr hlocks (tk_fr0 hc5).symm dX1_fork_18
  · obtain ⟨i, hi, rfl⟩ := tk_ex_t hn hc5
    refine lv_aload_n hx hb dX1_fork_8 rfl (lv_at hl 0 rfl) ?_
    refine lv_iload_n hx hb dX1_fork_9 rfl (lv_at hl 2 rfl) ?_
    refine vp_callSi (W.runV (As := [.int b2]) (rest := []) ⟨hx, hb, hml, hown, hts⟩ (c1_is l dC dI o q ca aP aH aT aG aL aA aF aS n b2) (cwV 1 hts gX1_fork_X1_is rfl rfl rfl (by decide +kernel) ⟨Nat.le_of_ble_eq_true rfl, Nat.le_of_ble_eq_true rfl⟩) (tk_pre hK hP rfl rfl) rfl rfl hl.1 rfl (lv_room (Nat.le_of_ble_eq_true rfl)) dX1_fork_10 ⟨Nat.le_of_ble_eq_true rfl, Nat.le_of_ble_eq_true rfl⟩) (fun r hr1 => ?_)
    refine tk_top (y := tk_ex n b2) hr1 ?_
    refine lv_if_ne (tgt := 19) hx hb dX1_fork_13 (by decide) (fun hc13 => ?_) (fun hc13 => ?_)
    · obtain ⟨j, hj, rfl⟩ := tk_ex_t hn hc13
      refine lv_iload_n hx hb dX1_fork_19 rfl (lv_at hl 1 rfl) ?_
      refine lv_istore_n hx hb dX1_fork_20 rfl hl (by decide) rfl (fun ls hl => ?_)
      have hl : lv_has ls 5 [(3, .int (nI i)), (0, .ref o), (1, .int (nI i)), (2, .int (nI j))] := hl
      refine lv_iload_n hx hb dX1_fork_21 rfl (lv_at hl 3 rfl) ?_
      refine lv_istore hx hb dX1_fork_22 hl (by decide) rfl (fun ls hl => ?_)
      have hl : lv_has ls 5 [(4, .int (nI j)), (3, .int (nI i)), (0, .ref o), (1, .int (nI i)), (2, .int (nI j))] := hl
      have hzz : nI (tk_fork pa he i j) = tk_fr pa he n (nI i) (nI j) := (tk_fr2 hn hi hj).symm
      generalize hzq : tk_fork pa he i j = z at hzz
      have loop : ∀ (k : Nat) (a b : Nat) (ls : Array Slot), a + b ≤ k → a < n → b < n → tk_fork pa he a b = z → lv_has ls 5 [(4, .int (nI b)), (3, .int (nI a)), (0, .ref o), (1, .int (nI i)), (2, .int (nI j))] → W p l e (headSpec wsX1_fork ({ frames := 1, cells := 0, slots := 0, locals := 21 })).room s m ([.ref o, .int (nI i), .int (nI j)] : List Value).toArray below meth c s.heap [] 0 0 Q (F0 m 24 ls []) := by
        intro k
        induction k with
        | zero =>
          intro a b ls hab ha hb0 hz hl
          have hha := (hT.2.2.2.1 a ha).2
          have hhb := (hT.2.2.2.1 b hb0).2
          refine lv_iload_n hx hb dX1_fork_24 rfl (lv_at hl 1 rfl) ?_
          refine lv_iload hx hb dX1_fork_25 (lv_at hl 0 rfl) ?_
          refine lv_icmp_eq (tgt := 68) hx hb dX1_fork_27 (by decide) (fun hc27 => ?_) (fun hc27 => ?_)
          · have e27 := (nI_eq (by omega) (by omega)).mp hc27
            refine lv_iload_n hx hb dX1_fork_68 rfl (lv_at hl 1 rfl) ?_
            subst hQ
            exact tk_iret hx hb hr hlocks (show nI a = _ from (congrArg nI ((show tk_fork pa he a b = a from by rw [← e27]; exact tk_fork_eq pa he a).symm.trans hz)).trans hzz) dX1_fork_69
          · exact absurd (congrArg nI (show a = b by omega)) hc27
        | succ k ih =>
          intro a b ls hab ha hb0 hz hl
          have hha := (hT.2.2.2.1 a ha).2
          have hhb := (hT.2.2.2.1 b hb0).2
          refine lv_iload_n hx hb dX1_fork_24 rfl (lv_at hl 1 rfl) ?_
          refine lv_iload hx hb dX1_fork_25 (lv_at hl 0 rfl) ?_
          refine lv_icmp_eq (tgt := 68) hx hb dX1_fork_27 (by decide) (fun hc27 => ?_) (fun hc27 => ?_)
          · have e27 := (nI_eq (by omega) (by omega)).mp hc27
            refine lv_iload_n hx hb dX1_fork_68 rfl (lv_at hl 1 rfl) ?_
            subst hQ
            exact tk_iret hx hb hr hlocks (show nI a = _ from (congrArg nI ((show tk_fork pa he a b = a from by rw [← e27]; exact tk_fork_eq pa he a).symm.trans hz)).trans hzz) dX1_fork_69
          · have e27 : ¬ a = b := fun z9 => hc27 (congrArg nI z9)
            refine lv_aload_n hx hb dX1_fork_30 rfl (lv_at hl 2 rfl) ?_
            refine va_get (D := (dC, dI)) (ci := 1) (v := .ref (q 1)) (C := RX1) (T := TX1) (N := 9) hx hb hts hin0 hown hK hP 0 rfl rfl 1 (by decide) fl13 (fun _ h9 => h9) rfl dX1_fork_31 ?_
            refine lv_iload_n hx hb dX1_fork_34 rfl (lv_at hl 1 rfl) ?_
            refine tk_rdi (v := nI (he a)) hx hb hK hP 2 1 rfl rfl (a) (by omega) (by decide) (hT.2.2.2.1 a ha).1 dX1_fork_35 ?_
            refine lv_aload_n hx hb dX1_fork_36 rfl (lv_at hl 2 rfl) ?_
            refine va_get (D := (dC, dI)) (ci := 1) (v := .ref (q 1)) (C := RX1) (T := TX1) (N := 9) hx hb hts hin0 hown hK hP 0 rfl rfl 1 (by decide) fl13 (fun _ h9 => h9) rfl dX1_fork_37 ?_
            refine lv_iload hx hb dX1_fork_40 (lv_at hl 0 rfl) ?_
            refine tk_rdi (v := nI (he b)) hx hb hK hP 2 1 rfl rfl (b) (by omega) (by decide) (hT.2.2.2.1 b hb0).1 dX1_fork_42 ?_
            refine lv_icmp_lt (tgt := 56) hx hb dX1_fork_43 (by decide) (fun hc43 => ?_) (fun hc43 => ?_)
            · have e43 := (nI_ltI (by omega) (by omega)).mp hc43
              obtain ⟨f1, f2⟩ := tk_fork_r hT hb0 e43
              obtain ⟨u2, u3, u4⟩ := hT.2.2.2.2 b f1 hb0
              refine lv_aload_n hx hb dX1_fork_56 rfl (lv_at hl 2 rfl) ?_
              refine va_get (D := (dC, dI)) (ci := 1) (v := .ref (q 0)) (C := RX1) (T := TX1) (N := 9) hx hb hts hin0 hown hK hP 0 rfl rfl 0 (by decide) fl9 (fun _ h9 => h9) rfl dX1_fork_57 ?_
              refine lv_iload hx hb dX1_fork_60 (lv_at hl 0 rfl) ?_
              refine tk_rdi (v := nI (pa b)) hx hb hK hP 1 0 rfl rfl (b) (by omega) (by decide) u2 dX1_fork_62 ?_
              refine lv_istore hx hb dX1_fork_63 hl (by decide) rfl (fun ls hl => ?_)
              have hl : lv_has ls 5 [(4, .int (nI (pa b))), (3, .int (nI a)), (0, .ref o), (1, .int (nI i)), (2, .int (nI j))] := hl
              refine lv_goto (tgt := 24) hx hb dX1_fork_65 (by decide) ?_
              exact ih a (pa b) ls (by omega) ha (by omega) (f2.trans hz) hl
            · have e43 : ¬ he a < he b := fun z9 => hc43 ((nI_ltI (by omega) (by omega)).mpr z9)
              obtain ⟨f1, f2⟩ := tk_fork_l hT ha hb0 e27 (by omega)
              obtain ⟨u2, u3, u4⟩ := hT.2.2.2.2 a f1 ha
              refine lv_aload_n hx hb dX1_fork_46 rfl (lv_at hl 2 rfl) ?_
              refine va_get (D := (dC, dI)) (ci := 1) (v := .ref (q 0)) (C := RX1) (T := TX1) (N := 9) hx hb hts hin0 hown hK hP 0 rfl rfl 0 (by decide) fl9 (fun _ h9 => h9) rfl dX1_fork_47 ?_
              refine lv_iload_n hx hb dX1_fork_50 rfl (lv_at hl 1 rfl) ?_
              refine tk_rdi (v := nI (pa a)) hx hb hK hP 1 0 rfl rfl (a) (by omega) (by decide) u2 dX1_fork_51 ?_
              refine lv_istore_n hx hb dX1_fork_52 rfl hl (by decide) rfl (fun ls hl => ?_)
              have hl : lv_has ls 5 [(3, .int (nI (pa a))), (4, .int (nI b)), (0, .ref o), (1, .int (nI i)), (2, .int (nI j))] := hl
              refine lv_goto (tgt := 24) hx hb dX1_fork_53 (by decide) ?_
              have hl : lv_has ls 5 [(4, .int (nI b)), (3, .int (nI (pa a))), (0, .ref o), (1, .int (nI i)), (2, .int (nI j))] := lv_sub hl [1, 0, 2, 3, 4] rfl
              exact ih (pa a) b ls (by omega) (by omega) hb0 (f2.trans hz) hl
      exact loop (i + j) i j ls (Nat.le_refl _) hi hj hzq hl
    · refine lv_bipush (v := -2) hx hb dX1_fork_16 (by decide +kernel) ?_
      subst hQ
      exact tk_iret hx hb hr hlocks (tk_fr1 hc13).symm dX1_fork_18
set_option maxHeartbeats 4000000 in
set_option maxRecDepth 100000 in
theorem c1_due (l : Launch) (dC : Nat → ClassId) (dI : Nat → Nat → Nat) (o : Nat) (q : Nat → Nat) (ca : Nat → ClassId) (aP aH aT aG : Nat → Int32) (aL : Nat → Int64) (aA aF aS : Nat → Int32) (n : Nat) (pa he : Nat → Nat) (hT : tk_I aP aH pa he n) (b : Int32) : Met l yX1_due wsX1_due ({ frames := 2, cells := 0, slots := 0, locals := 44 }) (tk_R (dC, dI) (tk_w1 o q ca aP aH aT aG aL aA aF aS n) (tk_t1 ca) [.ref o, .int b]) (vp_Si (fun r => r = tk_pb n b (tk_tb pa he aT aG))) 0 0 (fun _ => False) := by
  refine Met.ofW (cc := cX1_due) (maxL := 5) (ret := (some .int)) (by decide) rfl ?_
  intro p e s m args below meth c s₁ B hml hv
  obtain ⟨rfl, hP, hK⟩ := hv
  have hx := B.exec
  have hb := B.bytes
  have hr := B.returns
  have hts := atoms_spec (ws := wsX1_due) B.pre
  have hown : s.vm.findClass RX1 = some m.cls := findClass_of_methodNamed B.named
  have hlocks := B.notSynchronized
  have hin0 : ∀ w ∈ u_ws RX1 TX1 9, w ∈ wsX1_due := by decide +kernel
  have fl19 := hts (.fieldLink RX1 19 "WorkTreeModel" "target" "[I") (by decide +kernel)
  have fl13 := hts (.fieldLink RX1 13 "WorkTreeModel" "height" "[I") (by decide +kernel)
  have fl16 := hts (.fieldLink RX1 16 "WorkTreeModel" "time" "[I") (by decide +kernel)
  have kc64 := hts (.constant RX1 64 (65535)) (by decide +kernel)
  have hl := lv_entry ([.ref o, .int b]) (n := 5) (Nat.le_of_ble_eq_true rfl)
  rw [lg_entry_eq]
  generalize (lg_sl ([.ref o, .int b]) ++ List.replicate (5 - (lg_sl ([.ref o, .int b])).length) Slot.unset).toArray = ls at hl ⊢
  have hl : lv_has ls 5 [(0, .ref o), (1, .int b)] := hl
  refine tk_Q (fun Q hQ => ?_)
  have hn := hT.1.2
  refine lv_aload_n hx hb dX1_due_0 rfl (lv_at hl 0 rfl) ?_
  refine lv_iload_n hx hb dX1_due_1 rfl (lv_at hl 1 rfl) ?_
  refine vp_callSi (W.runV (As := [.int b]) (rest := []) ⟨hx, hb, hml, hown, hts⟩ (c1_is l dC dI o q ca aP aH aT aG aL aA aF aS n b) (cwV 1 hts gX1_due_X1_is rfl rfl rfl (by decide +kernel) ⟨Nat.le_of_ble_eq_true rfl, Nat.le_of_ble_eq_true rfl⟩) (tk_pre hK hP rfl rfl) rfl rfl hl.1 rfl (lv_room (Nat.le_of_ble_eq_true rfl)) dX1_due_2 ⟨Nat.le_of_ble_eq_true rfl, Nat.le_of_ble_eq_true rfl⟩) (fun r hr1 => ?_)
  refine tk_top (y := tk_ex n b) hr1 ?_
  refine lv_if_ne (tgt := 11) hx hb dX1_due_5 (by decide) (fun hc5 => ?_) (fun hc5 => ?_)
  · obtain ⟨j, hj, rfl⟩ := tk_ex_t hn hc5
    have hjj := (hT.2.2.2.1 j hj).2
    refine lv_aload_n hx hb dX1_due_11 rfl (lv_at hl 0 rfl) ?_
    refine va_get (D := (dC, dI)) (ci := 1) (v := .ref (q 3)) (C := RX1) (T := TX1) (N := 9) hx hb hts hin0 hown hK hP 0 rfl rfl 3 (by decide) fl19 (fun _ h9 => h9) rfl dX1_due_12 ?_
    refine lv_iload_n hx hb dX1_due_15 rfl (lv_at hl 1 rfl) ?_
    refine tk_rdi (v := aG j) hx hb hK hP 4 3 rfl rfl (j) (by omega) (by decide) rfl dX1_due_16 ?_
    refine lv_istore_n hx hb dX1_due_17 rfl hl (by decide) rfl (fun ls hl => ?_)
    have hl : lv_has ls 5 [(2, .int (aG j)), (0, .ref o), (1, .int (nI j))] := hl
    refine lv_aload_n hx hb dX1_due_18 rfl (lv_at hl 1 rfl) ?_
    refine va_get (D := (dC, dI)) (ci := 1) (v := .ref (q 1)) (C := RX1) (T := TX1) (N := 9) hx hb hts hin0 hown hK hP 0 rfl rfl 1 (by decide) fl13 (fun _ h9 => h9) rfl dX1_due_19 ?_
    refine lv_iload_n hx hb dX1_due_22 rfl (lv_at hl 2 rfl) ?_
    refine tk_rdi (v := nI (he j)) hx hb hK hP 2 1 rfl rfl (j) (by omega) (by decide) (hT.2.2.2.1 j hj).1 dX1_due_23 ?_
    refine lv_iconst (v := nI 1) hx hb dX1_due_24 (by decide +kernel) ?_
    refine lv_iadd hx hb dX1_due_25 ?_
    refine tk_top (y := nI (he j + 1)) (tk_add1 _) ?_
    refine lv_istore_n hx hb dX1_due_26 rfl hl (by decide) rfl (fun ls hl => ?_)
    have hl : lv_has ls 5 [(3, .int (nI (he j + 1))), (2, .int (aG j)), (0, .ref o), (1, .int (nI j))] := hl
    refine lv_iload_n hx hb dX1_due_27 rfl (lv_at hl 0 rfl) ?_
    refine lv_bipush (v := nI 8) hx hb dX1_due_28 (by decide +kernel) ?_
    refine lv_irem hx hb dX1_due_30 (by decide +kernel) ?_
    refine tk_top (y := nI ((he j + 1) % 8)) (pk_rem (by omega) (by decide) (by decide)) ?_
    refine lv_if_eq (tgt := 36) hx hb dX1_due_31 (by decide) (fun hc31 => ?_) (fun hc31 => ?_)
    · have e31 := (tk_eq0 (by omega)).mp hc31
      obtain ⟨an1, an2⟩ := tk_anc_in hT 7 j hj (by omega)
      refine lv_aload_n hx hb dX1_due_36 rfl (lv_at hl 2 rfl) ?_
      refine va_get (D := (dC, dI)) (ci := 1) (v := .ref (q 2)) (C := RX1) (T := TX1) (N := 9) hx hb hts hin0 hown hK hP 0 rfl rfl 2 (by decide) fl16 (fun _ h9 => h9) rfl dX1_due_37 ?_
      refine lv_iload_n hx hb dX1_due_40 rfl (lv_at hl 3 rfl) ?_
      refine tk_rdi (v := aT j) hx hb hK hP 3 2 rfl rfl (j) (by omega) (by decide) rfl dX1_due_41 ?_
      refine lv_aload_n hx hb dX1_due_42 rfl (lv_at hl 2 rfl) ?_
      refine va_get (D := (dC, dI)) (ci := 1) (v := .ref (q 2)) (C := RX1) (T := TX1) (N := 9) hx hb hts hin0 hown hK hP 0 rfl rfl 2 (by decide) fl16 (fun _ h9 => h9) rfl dX1_due_43 ?_
      refine lv_aload_n hx hb dX1_due_46 rfl (lv_at hl 2 rfl) ?_
      refine lv_iload_n hx hb dX1_due_47 rfl (lv_at hl 3 rfl) ?_
      refine lv_iload_n hx hb dX1_due_48 rfl (lv_at hl 0 rfl) ?_
      refine lv_bipush (v := nI 8) hx hb dX1_due_49 (by decide +kernel) ?_
      refine lv_isub hx hb dX1_due_51 ?_
      refine tk_top (y := nI (he j + 1 - 8)) (pk_sub (by omega)) ?_
      refine vp_callSi (W.runV (As := [.int (nI j), .int (nI (he j + 1 - 8))]) (rest := [.ref (q 2), .int (aT j)]) ⟨hx, hb, hml, hown, hts⟩ (c1_ancestor l dC dI o q ca aP aH aT aG aL aA aF aS n pa he hT (nI j) (nI (he j + 1 - 8))) (cwV 2 hts gX1_due_X1_ancestor rfl rfl rfl (by decide +kernel) ⟨Nat.le_of_ble_eq_true rfl, Nat.le_of_ble_eq_true rfl⟩) (tk_pre hK hP rfl rfl) rfl rfl hl.1 rfl (lv_room (Nat.le_of_ble_eq_true rfl)) dX1_due_52 ⟨Nat.le_of_ble_eq_true rfl, Nat.le_of_ble_eq_true rfl⟩) (fun r hr1 => ?_)
      refine tk_top (y := tk_an pa he n (nI j) (nI (he j + 1 - 8))) hr1 ?_
      refine tk_top (y := nI (tk_anc pa 7 j)) (by rw [tk_an3 hn hj (by omega) (by omega), show he j - (he j + 1 - 8) = 7 by omega]) ?_
      refine tk_rdi (v := aT (tk_anc pa 7 j)) hx hb hK hP 3 2 rfl rfl (tk_anc pa 7 j) (by omega) (by decide) rfl dX1_due_55 ?_
      refine lv_isub hx hb dX1_due_56 ?_
      refine lv_istore hx hb dX1_due_57 hl (by decide) rfl (fun ls hl => ?_)
      have hl : lv_has ls 5 [(4, .int ((aT j) - (aT (tk_anc pa 7 j)))), (3, .int (nI (he j + 1))), (2, .int (aG j)), (0, .ref o), (1, .int (nI j))] := hl
      refine lv_iload hx hb dX1_due_59 (lv_at hl 0 rfl) ?_
      refine lv_bipush (v := nI 20) hx hb dX1_due_61 (by decide +kernel) ?_
      refine lv_icmp_ge (tgt := 70) hx hb dX1_due_63 (by decide) (fun hc63 => ?_) (fun hc63 => ?_)
      · refine lv_iload hx hb dX1_due_70 (lv_at hl 0 rfl) ?_
        refine lv_sipush (v := nI 320) hx hb dX1_due_72 (by decide +kernel) ?_
        refine lv_icmp_le (tgt := 83) hx hb dX1_due_75 (by decide) (fun hc75 => ?_) (fun hc75 => ?_)
        · have hsp := tk_wi_m hc63 hc75
          refine lv_iload_n hx hb dX1_due_83 rfl (lv_at hl 2 rfl) ?_
          refine lv_iload hx hb dX1_due_84 (lv_at hl 0 rfl) ?_
          refine lv_imul hx hb dX1_due_86 ?_
          refine lv_bipush (v := nI 80) hx hb dX1_due_87 (by decide +kernel) ?_
          refine lv_idiv hx hb dX1_due_89 (by decide +kernel) ?_
          refine lv_istore_n hx hb dX1_due_90 rfl hl (by decide) rfl (fun ls hl => ?_)
          have hl : lv_has ls 5 [(2, .int (((aG j) * ((aT j) - (aT (tk_anc pa 7 j)))) / (nI 80))), (4, .int ((aT j) - (aT (tk_anc pa 7 j)))), (3, .int (nI (he j + 1))), (0, .ref o), (1, .int (nI j))] := hl
          refine lv_iload_n hx hb dX1_due_91 rfl (lv_at hl 0 rfl) ?_
          refine lv_sipush (v := nI 2048) hx hb dX1_due_92 (by decide +kernel) ?_
          refine lv_icmp_ge (tgt := 104) hx hb dX1_due_95 (by decide) (fun hc95 => ?_) (fun hc95 => ?_)
          · refine lv_iload_n hx hb dX1_due_104 rfl (lv_at hl 0 rfl) ?_
            refine lv_ldc (v := 65535) hx hb hown kc64 dX1_due_105 ?_
            refine tk_top (y := nI 65535) (by decide +kernel) ?_
            refine lv_icmp_le (tgt := 115) hx hb dX1_due_107 (by decide) (fun hc107 => ?_) (fun hc107 => ?_)
            · refine lv_iload_n hx hb dX1_due_115 rfl (lv_at hl 0 rfl) ?_
              subst hQ
              exact tk_iret hx hb hr hlocks (show ((aG j) * ((aT j) - (aT (tk_anc pa 7 j)))) / (nI 80) = tk_pb n (nI j) (tk_tb pa he aT aG) from by rw [tk_pbn hn hj]; unfold tk_tb; rw [if_pos e31, hsp, tk_wi_m hc95 hc107]) dX1_due_116
            · refine lv_ldc (v := 65535) hx hb hown kc64 dX1_due_110 ?_
              refine tk_top (y := nI 65535) (by decide +kernel) ?_
              refine lv_goto (tgt := 116) hx hb dX1_due_112 (by decide) ?_
              subst hQ
              exact tk_iret hx hb hr hlocks (show nI 65535 = tk_pb n (nI j) (tk_tb pa he aT aG) from by rw [tk_pbn hn hj]; unfold tk_tb; rw [if_pos e31, hsp, tk_wi_h (by decide +kernel) hc107]) dX1_due_116
          · refine lv_sipush (v := nI 2048) hx hb dX1_due_98 (by decide +kernel) ?_
            refine lv_goto (tgt := 116) hx hb dX1_due_101 (by decide) ?_
            subst hQ
            exact tk_iret hx hb hr hlocks (show nI 2048 = tk_pb n (nI j) (tk_tb pa he aT aG) from by rw [tk_pbn hn hj]; unfold tk_tb; rw [if_pos e31, hsp, tk_wi_l (by decide +kernel) hc95]) dX1_due_116
        · refine lv_sipush (v := nI 320) hx hb dX1_due_78 (by decide +kernel) ?_
          refine lv_istore hx hb dX1_due_81 hl (by decide) rfl (fun ls hl => ?_)
          have hl : lv_has ls 5 [(4, .int (nI 320)), (3, .int (nI (he j + 1))), (2, .int (aG j)), (0, .ref o), (1, .int (nI j))] := hl
          have hsp := tk_wi_h (lo := nI 20) (by decide +kernel) hc75
          refine lv_iload_n hx hb dX1_due_83 rfl (lv_at hl 2 rfl) ?_
          refine lv_iload hx hb dX1_due_84 (lv_at hl 0 rfl) ?_
          refine lv_imul hx hb dX1_due_86 ?_
          refine lv_bipush (v := nI 80) hx hb dX1_due_87 (by decide +kernel) ?_
          refine lv_idiv hx hb dX1_due_89 (by decide +kernel) ?_
          refine lv_istore_n hx hb dX1_due_90 rfl hl (by decide) rfl (fun ls hl => ?_)
          have hl : lv_has ls 5 [(2, .int (((aG j) * (nI 320)) / (nI 80))), (4, .int (nI 320)), (3, .int (nI (he j + 1))), (0, .ref o), (1, .int (nI j))] := hl
          refine lv_iload_n hx hb dX1_due_91 rfl (lv_at hl 0 rfl) ?_
          refine lv_sipush (v := nI 2048) hx hb dX1_due_92 (by decide +kernel) ?_
          refine lv_icmp_ge (tgt := 104) hx hb dX1_due_95 (by decide) (fun hc95 => ?_) (fun hc95 => ?_)
          · refine lv_iload_n hx hb dX1_due_104 rfl (lv_at hl 0 rfl) ?_
            refine lv_ldc (v := 65535) hx hb hown kc64 dX1_due_105 ?_
            refine tk_top (y := nI 65535) (by decide +kernel) ?_
            refine lv_icmp_le (tgt := 115) hx hb dX1_due_107 (by decide) (fun hc107 => ?_) (fun hc107 => ?_)
            · refine lv_iload_n hx hb dX1_due_115 rfl (lv_at hl 0 rfl) ?_
              subst hQ
              exact tk_iret hx hb hr hlocks (show ((aG j) * (nI 320)) / (nI 80) = tk_pb n (nI j) (tk_tb pa he aT aG) from by rw [tk_pbn hn hj]; unfold tk_tb; rw [if_pos e31, hsp, tk_wi_m hc95 hc107]) dX1_due_116
            · refine lv_ldc (v := 65535) hx hb hown kc64 dX1_due_110 ?_
              refine tk_top (y := nI 65535) (by decide +kernel) ?_
              refine lv_goto (tgt := 116) hx hb dX1_due_112 (by decide) ?_
              subst hQ
              exact tk_iret hx hb hr hlocks (show nI 65535 = tk_pb n (nI j) (tk_tb pa he aT aG) from by rw [tk_pbn hn hj]; unfold tk_tb; rw [if_pos e31, hsp, tk_wi_h (by decide +kernel) hc107]) dX1_due_116
          · refine lv_sipush (v := nI 2048) hx hb dX1_due_98 (by decide +kernel) ?_
            refine lv_goto (tgt := 116) hx hb dX1_due_101 (by decide) ?_
            subst hQ
            exact tk_iret hx hb hr hlocks (show nI 2048 = tk_pb n (nI j) (tk_tb pa he aT aG) from by rw [tk_pbn hn hj]; unfold tk_tb; rw [if_pos e31, hsp, tk_wi_l (by decide +kernel) hc95]) dX1_due_116
      · refine lv_bipush (v := nI 20) hx hb dX1_due_66 (by decide +kernel) ?_
        refine lv_istore hx hb dX1_due_68 hl (by decide) rfl (fun ls hl => ?_)
        have hl : lv_has ls 5 [(4, .int (nI 20)), (3, .int (nI (he j + 1))), (2, .int (aG j)), (0, .ref o), (1, .int (nI j))] := hl
        refine lv_iload hx hb dX1_due_70 (lv_at hl 0 rfl) ?_
        refine lv_sipush (v := nI 320) hx hb dX1_due_72 (by decide +kernel) ?_
        refine lv_icmp_le (tgt := 83) hx hb dX1_due_75 (by decide) (fun hc75 => ?_) (fun hc75 => ?_)
        · have hsp := tk_wi_l (hi := nI 320) (by decide +kernel) hc63
          refine lv_iload_n hx hb dX1_due_83 rfl (lv_at hl 2 rfl) ?_
          refine lv_iload hx hb dX1_due_84 (lv_at hl 0 rfl) ?_
          refine lv_imul hx hb dX1_due_86 ?_
          refine lv_bipush (v := nI 80) hx hb dX1_due_87 (by decide +kernel) ?_
          refine lv_idiv hx hb dX1_due_89 (by decide +kernel) ?_
          refine lv_istore_n hx hb dX1_due_90 rfl hl (by decide) rfl (fun ls hl => ?_)
          have hl : lv_has ls 5 [(2, .int (((aG j) * (nI 20)) / (nI 80))), (4, .int (nI 20)), (3, .int (nI (he j + 1))), (0, .ref o), (1, .int (nI j))] := hl
          refine lv_iload_n hx hb dX1_due_91 rfl (lv_at hl 0 rfl) ?_
          refine lv_sipush (v := nI 2048) hx hb dX1_due_92 (by decide +kernel) ?_
          refine lv_icmp_ge (tgt := 104) hx hb dX1_due_95 (by decide) (fun hc95 => ?_) (fun hc95 => ?_)
          · refine lv_iload_n hx hb dX1_due_104 rfl (lv_at hl 0 rfl) ?_
            refine lv_ldc (v := 65535) hx hb hown kc64 dX1_due_105 ?_
            refine tk_top (y := nI 65535) (by decide +kernel) ?_
            refine lv_icmp_le (tgt := 115) hx hb dX1_due_107 (by decide) (fun hc107 => ?_) (fun hc107 => ?_)
            · refine lv_iload_n hx hb dX1_due_115 rfl (lv_at hl 0 rfl) ?_
              subst hQ
              exact tk_iret hx hb hr hlocks (show ((aG j) * (nI 20)) / (nI 80) = tk_pb n (nI j) (tk_tb pa he aT aG) from by rw [tk_pbn hn hj]; unfold tk_tb; rw [if_pos e31, hsp, tk_wi_m hc95 hc107]) dX1_due_116
            · refine lv_ldc (v := 65535) hx hb hown kc64 dX1_due_110 ?_
              refine tk_top (y := nI 65535) (by decide +kernel) ?_
              refine lv_goto (tgt := 116) hx hb dX1_due_112 (by decide) ?_
              subst hQ
              exact tk_iret hx hb hr hlocks (show nI 65535 = tk_pb n (nI j) (tk_tb pa he aT aG) from by rw [tk_pbn hn hj]; unfold tk_tb; rw [if_pos e31, hsp, tk_wi_h (by decide +kernel) hc107]) dX1_due_116
          · refine lv_sipush (v := nI 2048) hx hb dX1_due_98 (by decide +kernel) ?_
            refine lv_goto (tgt := 116) hx hb dX1_due_101 (by decide) ?_
            subst hQ
            exact tk_iret hx hb hr hlocks (show nI 2048 = tk_pb n (nI j) (tk_tb pa he aT aG) from by rw [tk_pbn hn hj]; unfold tk_tb; rw [if_pos e31, hsp, tk_wi_l (by decide +kernel) hc95]) dX1_due_116
        · exact absurd (by decide +kernel) hc75
    · have e31 : ¬ (he j + 1) % 8 = 0 := fun z => hc31 ((tk_eq0 (by omega)).mpr z)
      refine lv_iload_n hx hb dX1_due_34 rfl (lv_at hl 1 rfl) ?_
      subst hQ
      exact tk_iret hx hb hr hlocks (show aG j = tk_pb n (nI j) (tk_tb pa he aT aG) from by rw [tk_pbn hn hj]; unfold tk_tb; rw [if_neg e31]) dX1_due_35
  · refine lv_bipush (v := -2) hx hb dX1_due_8 (by decide +kernel) ?_
    subst hQ
    exact tk_iret hx hb hr hlocks (tk_pb0 hc5).symm dX1_due_10
set_option maxHeartbeats 4000000 in
set_option maxRecDepth 100000 in
theorem c1_look (l : Launch) (dC : Nat → ClassId) (dI : Nat → Nat → Nat) (o : Nat) (q : Nat → Nat) (ca : Nat → ClassId) (aP aH aT aG : Nat → Int32) (aL : Nat → Int64) (aA aF aS : Nat → Int32) (n : Nat) (pa he : Nat → Nat) (hT : tk_I aP aH pa he n) (aK aZ : Nat → Int32) (hZ : tk_wI pa aF aZ n) (hL : ∀ i, i < n → aL i = (aK i).toInt64) (b w : Int32) : Met l yX1_look wsX1_look ({ frames := 1, cells := 0, slots := 0, locals := 23 }) (tk_R (dC, dI) (tk_w1 o q ca aP aH aT aG aL aA aF aS n) (tk_t1 ca) [.ref o, .int b, .int w]) (vp_Sl (fun r => r = tk_lk aH aP aT aG aK aZ n b w)) 0 0 (fun _ => False) := by
  refine Met.ofW (cc := cX1_look) (maxL := 3) (ret := (some .long)) (by decide) rfl ?_
  intro p e s m args below meth c s₁ B hml hv
  obtain ⟨rfl, hP, hK⟩ := hv
  have hx := B.exec
  have hb := B.bytes
  have hr := B.returns
  have hts := atoms_spec (ws := wsX1_look) B.pre
  have hown : s.vm.findClass RX1 = some m.cls := findClass_of_methodNamed B.named
  have hlocks := B.notSynchronized
  have hin0 : ∀ w ∈ u_ws RX1 TX1 9, w ∈ wsX1_look := by decide +kernel
  have kl65 := hts (.constantLong RX1 65 (-1)) (by decide +kernel)
  have kl67 := hts (.constantLong RX1 67 (-2)) (by decide +kernel)
  have fl13 := hts (.fieldLink RX1 13 "WorkTreeModel" "height" "[I") (by decide +kernel)
  have fl9 := hts (.fieldLink RX1 9 "WorkTreeModel" "parent" "[I") (by decide +kernel)
  have fl16 := hts (.fieldLink RX1 16 "WorkTreeModel" "time" "[I") (by decide +kernel)
  have fl19 := hts (.fieldLink RX1 19 "WorkTreeModel" "target" "[I") (by decide +kernel)
  have fl22 := hts (.fieldLink RX1 22 "WorkTreeModel" "work" "[J") (by decide +kernel)
  have hl := lv_entry ([.ref o, .int b, .int w]) (n := 3) (Nat.le_of_ble_eq_true rfl)
  rw [lg_entry_eq]
  generalize (lg_sl ([.ref o, .int b, .int w]) ++ List.replicate (3 - (lg_sl ([.ref o, .int b, .int w])).length) Slot.unset).toArray = ls at hl ⊢
  have hl : lv_has ls 3 [(0, .ref o), (1, .int b), (2, .int w)] := hl
  refine tk_Q (fun Q hQ => ?_)
  have hn := hT.1.2
  refine lv_iload_n hx hb dX1_look_0 rfl (lv_at hl 2 rfl) ?_
  refine lv_if_lt (tgt := 9) hx hb dX1_look_1 (by decide) (fun hc1 => ?_) (fun hc1 => ?_)
  · refine lv_ldc2 (v := -1) hx hb hown kl65 dX1_look_9 ?_
    subst hQ
    exact tk_lret hx hb hr hlocks (tk_lk_a hc1).symm dX1_look_12
  · refine lv_iload_n hx hb dX1_look_4 rfl (lv_at hl 2 rfl) ?_
    refine lv_iconst (v := nI 5) hx hb dX1_look_5 (by decide +kernel) ?_
    refine lv_icmp_le (tgt := 13) hx hb dX1_look_6 (by decide) (fun hc6 => ?_) (fun hc6 => ?_)
    · refine lv_aload_n hx hb dX1_look_13 rfl (lv_at hl 0 rfl) ?_
      refine lv_iload_n hx hb dX1_look_14 rfl (lv_at hl 1 rfl) ?_
      refine vp_callSi (W.runV (As := [.int b]) (rest := []) ⟨hx, hb, hml, hown, hts⟩ (c1_is l dC dI o q ca aP aH aT aG aL aA aF aS n b) (cwV 1 hts gX1_look_X1_is rfl rfl rfl (by decide +kernel) ⟨Nat.le_of_ble_eq_true rfl, Nat.le_of_ble_eq_true rfl⟩) (tk_pre hK hP rfl rfl) rfl rfl hl.1 rfl (lv_room (Nat.le_of_ble_eq_true rfl)) dX1_look_15 ⟨Nat.le_of_ble_eq_true rfl, Nat.le_of_ble_eq_true rfl⟩) (fun r hr1 => ?_)
      refine tk_top (y := tk_ex n b) hr1 ?_
      refine lv_if_ne (tgt := 25) hx hb dX1_look_18 (by decide) (fun hc18 => ?_) (fun hc18 => ?_)
      · obtain ⟨j, hj, rfl⟩ := tk_ex_t hn hc18
        obtain ⟨k, hk, rfl⟩ := nI_of hc1
        refine lv_iload_n hx hb dX1_look_25 rfl (lv_at hl 2 rfl) ?_
        have e6 : k ≤ 5 := (nI_leI (by omega) (by decide)).mp hc6
        rcases (show k = 0 ∨ k = 1 ∨ k = 2 ∨ k = 3 ∨ k = 4 ∨ k = 5 by omega) with rfl | rfl | rfl | rfl | rfl | rfl
        · refine lv_tableIn (tgt := 60) (off := 34) hx hb dX1_look_26 (by decide +kernel) (by decide +kernel) (by decide +kernel) (by decide) ?_
          refine lv_aload_n hx hb dX1_look_60 rfl (lv_at hl 0 rfl) ?_
          refine va_get (D := (dC, dI)) (ci := 1) (v := .ref (q 1)) (C := RX1) (T := TX1) (N := 9) hx hb hts hin0 hown hK hP 0 rfl rfl 1 (by decide) fl13 (fun _ h9 => h9) rfl dX1_look_61 ?_
          refine lv_iload_n hx hb dX1_look_64 rfl (lv_at hl 1 rfl) ?_
          refine tk_rdi (v := aH j) hx hb hK hP 2 1 rfl rfl (j) (by omega) (by decide) rfl dX1_look_65 ?_
          refine lv_i2l (v := (aH j).toInt64) hx hb dX1_look_66 rfl ?_
          subst hQ
          exact tk_lret hx hb hr hlocks (tk_lk_0 hn hj).symm dX1_look_67
        · refine lv_tableIn (tgt := 68) (off := 42) hx hb dX1_look_26 (by decide +kernel) (by decide +kernel) (by decide +kernel) (by decide) ?_
          refine lv_aload_n hx hb dX1_look_68 rfl (lv_at hl 0 rfl) ?_
          refine va_get (D := (dC, dI)) (ci := 1) (v := .ref (q 0)) (C := RX1) (T := TX1) (N := 9) hx hb hts hin0 hown hK hP 0 rfl rfl 0 (by decide) fl9 (fun _ h9 => h9) rfl dX1_look_69 ?_
          refine lv_iload_n hx hb dX1_look_72 rfl (lv_at hl 1 rfl) ?_
          refine tk_rdi (v := aP j) hx hb hK hP 1 0 rfl rfl (j) (by omega) (by decide) rfl dX1_look_73 ?_
          refine lv_i2l (v := (aP j).toInt64) hx hb dX1_look_74 rfl ?_
          subst hQ
          exact tk_lret hx hb hr hlocks (tk_lk_1 hn hj).symm dX1_look_75
        · refine lv_tableIn (tgt := 76) (off := 50) hx hb dX1_look_26 (by decide +kernel) (by decide +kernel) (by decide +kernel) (by decide) ?_
          refine lv_aload_n hx hb dX1_look_76 rfl (lv_at hl 0 rfl) ?_
          refine va_get (D := (dC, dI)) (ci := 1) (v := .ref (q 2)) (C := RX1) (T := TX1) (N := 9) hx hb hts hin0 hown hK hP 0 rfl rfl 2 (by decide) fl16 (fun _ h9 => h9) rfl dX1_look_77 ?_
          refine lv_iload_n hx hb dX1_look_80 rfl (lv_at hl 1 rfl) ?_
          refine tk_rdi (v := aT j) hx hb hK hP 3 2 rfl rfl (j) (by omega) (by decide) rfl dX1_look_81 ?_
          refine lv_i2l (v := (aT j).toInt64) hx hb dX1_look_82 rfl ?_
          subst hQ
          exact tk_lret hx hb hr hlocks (tk_lk_2 hn hj).symm dX1_look_83
        · refine lv_tableIn (tgt := 84) (off := 58) hx hb dX1_look_26 (by decide +kernel) (by decide +kernel) (by decide +kernel) (by decide) ?_
          refine lv_aload_n hx hb dX1_look_84 rfl (lv_at hl 0 rfl) ?_
          refine va_get (D := (dC, dI)) (ci := 1) (v := .ref (q 3)) (C := RX1) (T := TX1) (N := 9) hx hb hts hin0 hown hK hP 0 rfl rfl 3 (by decide) fl19 (fun _ h9 => h9) rfl dX1_look_85 ?_
          refine lv_iload_n hx hb dX1_look_88 rfl (lv_at hl 1 rfl) ?_
          refine tk_rdi (v := aG j) hx hb hK hP 4 3 rfl rfl (j) (by omega) (by decide) rfl dX1_look_89 ?_
          refine lv_i2l (v := (aG j).toInt64) hx hb dX1_look_90 rfl ?_
          subst hQ
          exact tk_lret hx hb hr hlocks (tk_lk_3 hn hj).symm dX1_look_91
        · refine lv_tableIn (tgt := 92) (off := 66) hx hb dX1_look_26 (by decide +kernel) (by decide +kernel) (by decide +kernel) (by decide) ?_
          refine lv_aload_n hx hb dX1_look_92 rfl (lv_at hl 0 rfl) ?_
          refine va_get (D := (dC, dI)) (ci := 1) (v := .ref (q 4)) (C := RX1) (T := TX1) (N := 9) hx hb hts hin0 hown hK hP 0 rfl rfl 4 (by decide) fl22 (fun _ h9 => h9) rfl dX1_look_93 ?_
          refine lv_iload_n hx hb dX1_look_96 rfl (lv_at hl 1 rfl) ?_
          refine tk_rdl (v := (aK j).toInt64) hx hb hK hP 5 4 rfl rfl (j) (by omega) (by decide) (hL j hj) dX1_look_97 ?_
          subst hQ
          exact tk_lret hx hb hr hlocks (tk_lk_4 hn hj).symm dX1_look_98
        · refine lv_tableOut (tgt := 99) hx hb dX1_look_26 (by decide +kernel) (by decide) ?_
          refine lv_aload_n hx hb dX1_look_99 rfl (lv_at hl 0 rfl) ?_
          refine lv_iload_n hx hb dX1_look_100 rfl (lv_at hl 1 rfl) ?_
          refine vp_callSi (W.runV (As := [.int (nI j)]) (rest := []) ⟨hx, hb, hml, hown, hts⟩ (c1_wrong l dC dI o q ca aP aH aT aG aL aA aF aS n pa he hT aZ hZ j hj) (cwV 1 hts gX1_look_X1_wrong rfl rfl rfl (by decide +kernel) ⟨Nat.le_of_ble_eq_true rfl, Nat.le_of_ble_eq_true rfl⟩) (tk_pre hK hP rfl rfl) rfl rfl hl.1 rfl (lv_room (Nat.le_of_ble_eq_true rfl)) dX1_look_101 ⟨Nat.le_of_ble_eq_true rfl, Nat.le_of_ble_eq_true rfl⟩) (fun r hr1 => ?_)
          refine tk_top (y := aZ j) hr1 ?_
          refine lv_if_eq (tgt := 111) hx hb dX1_look_104 (by decide) (fun hc104 => ?_) (fun hc104 => ?_)
          · refine lv_lconst (v := 0) hx hb dX1_look_111 (by decide +kernel) ?_
            subst hQ
            exact tk_lret hx hb hr hlocks (tk_lk_5 hn hj hc104).symm dX1_look_112
          · refine lv_lconst (v := 1) hx hb dX1_look_107 (by decide +kernel) ?_
            refine lv_goto (tgt := 112) hx hb dX1_look_108 (by decide) ?_
            subst hQ
            exact tk_lret hx hb hr hlocks (tk_lk_6 hn hj hc104).symm dX1_look_112
      · refine lv_ldc2 (v := -2) hx hb hown kl67 dX1_look_21 ?_
        subst hQ
        exact tk_lret hx hb hr hlocks (tk_lk_c hc1 hc6 hc18).symm dX1_look_24
    · refine lv_ldc2 (v := -1) hx hb hown kl65 dX1_look_9 ?_
      subst hQ
      exact tk_lret hx hb hr hlocks (tk_lk_b hc1 hc6).symm dX1_look_12
end
section
set_option maxHeartbeats 4000000 in
set_option maxRecDepth 100000 in
theorem c1_median (l : Launch) (dC : Nat → ClassId) (dI : Nat → Nat → Nat) (o : Nat) (q : Nat → Nat) (ca : Nat → ClassId) (aP aH aT aG : Nat → Int32) (aL : Nat → Int64) (aA aF aS : Nat → Int32) (n : Nat) (sz : Nat) (pa he : Nat → Nat) (hT : tk_I aP aH pa he n) (b : Int32) : Met l yX1_median wsX1_median ({ frames := 1, cells := 0, slots := 0, locals := 21 }) (tk_Wp (dC, dI) (tk_w1 o q ca aP aH aT aG aL aA aF aS n) (tk_t1 ca) sz [.ref o, .int b]) (va_Qi (fun (r : Int32) (u : va_W) => r = tk_pb n b (fun j => tk_med pa he aT j aS) ∧ u = tk_w1 o q ca aP aH aT aG aL aA aF (tk_mb pa he aT n b aS) n) (tk_E (dC, dI) (tk_t1 ca) (va_A (tk_w1 o q ca aP aH aT aG aL aA aF aS n) sz)) (va_A (tk_w1 o q ca aP aH aT aG aL aA aF aS n) sz)) 0 0 (va_A (tk_w1 o q ca aP aH aT aG aL aA aF aS n) sz) := by
  refine Met.ofW (cc := cX1_median) (maxL := 5) (ret := (some .int)) (by decide) rfl ?_
  intro p e s m args below meth c s₁ B hml hv
  obtain ⟨rfl, hsz, hP, hK, hD0⟩ := hv
  have hx := B.exec
  have hb := B.bytes
  have hr := B.returns
  have hts := atoms_spec (ws := wsX1_median) B.pre
  have hown : s.vm.findClass RX1 = some m.cls := findClass_of_methodNamed B.named
  have hlocks := B.notSynchronized
  have hin0 : ∀ w ∈ u_ws RX1 TX1 9, w ∈ wsX1_median := by decide +kernel
  have fl33 := hts (.fieldLink RX1 33 "WorkTreeModel" "times" "[I") (by decide +kernel)
  have fl16 := hts (.fieldLink RX1 16 "WorkTreeModel" "time" "[I") (by decide +kernel)
  have fl9 := hts (.fieldLink RX1 9 "WorkTreeModel" "parent" "[I") (by decide +kernel)
  subst hsz
  have hD := hD0.self (sz := s.heap.size)
  generalize hAe : va_A (tk_w1 o q ca aP aH aT aG aL aA aF aS n) s.heap.size = A at hD ⊢
  have hA : ∀ q : Nat, s.heap.size ≤ q → A q := fun q h => by rw [← hAe]; exact Or.inr h
  have hS : va_S A s.heap s.heap [] := va_S.rf
  have hl := lv_entry ([.ref o, .int b]) (n := 5) (Nat.le_of_ble_eq_true rfl)
  rw [lg_entry_eq]
  generalize (lg_sl ([.ref o, .int b]) ++ List.replicate (5 - (lg_sl ([.ref o, .int b])).length) Slot.unset).toArray = ls at hl ⊢
  have hl : lv_has ls 5 [(0, .ref o), (1, .int b)] := hl
  refine tk_Q (fun Q hQ => ?_)
  have hn := hT.1.2
  refine lv_aload_n hx hb dX1_median_0 rfl (lv_at hl 0 rfl) ?_
  refine lv_iload_n hx hb dX1_median_1 rfl (lv_at hl 1 rfl) ?_
  refine vp_callSi (W.runV (As := [.int b]) (rest := []) ⟨hx, hb, hml, hown, hts⟩ (c1_is l dC dI o q ca aP aH aT aG aL aA aF aS n b) (cwV 1 hts gX1_median_X1_is rfl rfl rfl (by decide +kernel) ⟨Nat.le_of_ble_eq_true rfl, Nat.le_of_ble_eq_true rfl⟩) (tk_pre hK hP rfl rfl) rfl rfl hl.1 rfl (lv_room (Nat.le_of_ble_eq_true rfl)) dX1_median_2 ⟨Nat.le_of_ble_eq_true rfl, Nat.le_of_ble_eq_true rfl⟩) (fun r hr1 => ?_)
  refine tk_top (y := tk_ex n b) hr1 ?_
  refine lv_if_ne (tgt := 11) hx hb dX1_median_5 (by decide) (fun hc5 => ?_) (fun hc5 => ?_)
  · obtain ⟨j, hj, rfl⟩ := tk_ex_t hn hc5
    have hjj := (hT.2.2.2.1 j hj).2
    refine lv_iconst (v := nI 0) hx hb dX1_median_11 (by decide +kernel) ?_
    refine lv_istore_n hx hb dX1_median_12 rfl hl (by decide) rfl (fun ls hl => ?_)
    have hl : lv_has ls 5 [(2, .int (nI 0)), (0, .ref o), (1, .int (nI j))] := hl
    refine lv_iload_n hx hb dX1_median_13 rfl (lv_at hl 2 rfl) ?_
    refine lv_istore_n hx hb dX1_median_14 rfl hl (by decide) rfl (fun ls hl => ?_)
    have hl : lv_has ls 5 [(3, .int (nI j)), (2, .int (nI 0)), (0, .ref o), (1, .int (nI j))] := hl
    obtain ⟨mn1, mn2⟩ := tk_mn_le (a := he j + 1) (b := 7)
    have mn3 := tk_mn_or (he j + 1) 7
    have hmed : tk_med pa he aT j aS = tk_md pa aT (tk_mn (he j + 1) 7) 0 j aS (tk_mn (he j + 1) 7 / 2) := rfl
    have hmS : tk_mS pa he aT j aS = tk_md pa aT (tk_mn (he j + 1) 7) 0 j aS := rfl
    generalize tk_mn (he j + 1) 7 = md at hmed hmS mn1 mn2 mn3
    generalize hzz : tk_md pa aT md 0 j aS = z at hmed hmS
    have loop : ∀ (c0 : Nat) (f i : Nat) (x : Int32) (S : Nat → Int32) (Hp : Heap) (locs : List Loc) (ls : Array Slot), f + c0 = md → (0 < c0 → x = nI i ∧ i < n ∧ he i + f = he j) → (c0 = 0 → x < 0 ∨ f = 7) → tk_md pa aT c0 f i S = z → va_P (dC, dI) vwCl (tk_w1 o q ca aP aH aT aG aL aA aF S n) Hp → va_D A (tk_w1 o q ca aP aH aT aG aL aA aF S n) → va_S A s.heap Hp locs → lv_has ls 5 [(3, .int x), (2, .int (nI f)), (0, .ref o), (1, .int (nI j))] → W p l e (headSpec wsX1_median ({ frames := 1, cells := 0, slots := 0, locals := 21 })).room s m ([.ref o, .int (nI j)] : List Value).toArray below meth c Hp locs 0 0 Q (F0 m 15 ls []) := by
      intro c0
      induction c0 with
      | zero =>
        intro f i x S Hp locs ls hfc hxi hx0 hz hP hD hS hl
        obtain rfl : f = md := by omega
        refine lv_iload_n hx hb dX1_median_15 rfl (lv_at hl 0 rfl) ?_
        refine lv_if_lt (tgt := 99) hx hb dX1_median_16 (by decide) (fun hc16 => ?_) (fun hc16 => ?_)
        · refine lv_aload_n hx hb dX1_median_99 rfl (lv_at hl 2 rfl) ?_
          refine va_get (D := (dC, dI)) (ci := 1) (v := .ref (q 7)) (C := RX1) (T := TX1) (N := 9) hx hb hts hin0 hown hK hP 0 rfl rfl 7 (by decide) fl33 (fun _ h9 => h9) rfl dX1_median_100 ?_
          refine lv_iload_n hx hb dX1_median_103 rfl (lv_at hl 1 rfl) ?_
          refine lv_iconst (v := nI 2) hx hb dX1_median_104 (by decide +kernel) ?_
          refine lv_idiv hx hb dX1_median_105 (by decide +kernel) ?_
          refine tk_top (y := nI (f / 2)) (pk_div (by omega) (by decide) (by decide)) ?_
          refine tk_rdi (v := S (f / 2)) hx hb hK hP 8 7 rfl rfl (f / 2) (by omega) (by decide) rfl dX1_median_106 ?_
          subst hQ
          exact W.iret hx hb hr (fun t ht hW => ⟨⟨S (f / 2), tk_w1 o q ca aP aH aT aG aL aA aF S n, rfl, ⟨(show S (f / 2) = tk_pb n (nI j) (fun j => tk_med pa he aT j aS) from ((tk_pbn (f := fun j => tk_med pa he aT j aS) hn hj).trans (hmed.trans (congrFun hz.symm (f / 2)))).symm), (congrArg (fun S9 : Nat → Int32 => tk_w1 o q ca aP aH aT aG aL aA aF S9 n) (((tk_mbn hn hj).trans hmS).trans hz.symm).symm)⟩, by rw [ht]; exact hP, va_K.moved hW.alike hK, hD⟩, hS.F ht⟩) hS.2.2 dX1_median_107
        · refine lv_iload_n hx hb dX1_median_19 rfl (lv_at hl 1 rfl) ?_
          refine lv_bipush (v := nI 7) hx hb dX1_median_20 (by decide +kernel) ?_
          refine lv_icmp_ge (tgt := 99) hx hb dX1_median_22 (by decide) (fun hc22 => ?_) (fun hc22 => ?_)
          · refine lv_aload_n hx hb dX1_median_99 rfl (lv_at hl 2 rfl) ?_
            refine va_get (D := (dC, dI)) (ci := 1) (v := .ref (q 7)) (C := RX1) (T := TX1) (N := 9) hx hb hts hin0 hown hK hP 0 rfl rfl 7 (by decide) fl33 (fun _ h9 => h9) rfl dX1_median_100 ?_
            refine lv_iload_n hx hb dX1_median_103 rfl (lv_at hl 1 rfl) ?_
            refine lv_iconst (v := nI 2) hx hb dX1_median_104 (by decide +kernel) ?_
            refine lv_idiv hx hb dX1_median_105 (by decide +kernel) ?_
            refine tk_top (y := nI (f / 2)) (pk_div (by omega) (by decide) (by decide)) ?_
            refine tk_rdi (v := S (f / 2)) hx hb hK hP 8 7 rfl rfl (f / 2) (by omega) (by decide) rfl dX1_median_106 ?_
            subst hQ
            exact W.iret hx hb hr (fun t ht hW => ⟨⟨S (f / 2), tk_w1 o q ca aP aH aT aG aL aA aF S n, rfl, ⟨(show S (f / 2) = tk_pb n (nI j) (fun j => tk_med pa he aT j aS) from ((tk_pbn (f := fun j => tk_med pa he aT j aS) hn hj).trans (hmed.trans (congrFun hz.symm (f / 2)))).symm), (congrArg (fun S9 : Nat → Int32 => tk_w1 o q ca aP aH aT aG aL aA aF S9 n) (((tk_mbn hn hj).trans hmS).trans hz.symm).symm)⟩, by rw [ht]; exact hP, va_K.moved hW.alike hK, hD⟩, hS.F ht⟩) hS.2.2 dX1_median_107
          · rcases hx0 rfl with h9 | h9
            · exact absurd h9 hc16
            · exact absurd (nI_le (by omega) (by omega)) hc22
      | succ c0 ih =>
        intro f i x S Hp locs ls hfc hxi hx0 hz hP hD hS hl
        obtain ⟨rfl, hi, hei⟩ := hxi (by omega)
        have hii := (hT.2.2.2.1 i hi).2
        refine lv_iload_n hx hb dX1_median_15 rfl (lv_at hl 0 rfl) ?_
        refine lv_if_lt (tgt := 99) hx hb dX1_median_16 (by decide) (fun hc16 => ?_) (fun hc16 => ?_)
        · exact absurd hc16 (nI_pos (by omega))
        · refine lv_iload_n hx hb dX1_median_19 rfl (lv_at hl 1 rfl) ?_
          refine lv_bipush (v := nI 7) hx hb dX1_median_20 (by decide +kernel) ?_
          refine lv_icmp_ge (tgt := 99) hx hb dX1_median_22 (by decide) (fun hc22 => ?_) (fun hc22 => ?_)
          · exact absurd hc22 (nI_ge (by omega) (by omega))
          · refine lv_iload_n hx hb dX1_median_25 rfl (lv_at hl 1 rfl) ?_
            refine lv_istore hx hb dX1_median_26 hl (by decide) rfl (fun ls hl => ?_)
            have hl : lv_has ls 5 [(4, .int (nI f)), (3, .int (nI i)), (2, .int (nI f)), (0, .ref o), (1, .int (nI j))] := hl
            have loop2 : ∀ (k : Nat) (S2 : Nat → Int32) (Hp : Heap) (locs : List Loc) (ls : Array Slot), k < 7 → tk_md pa aT c0 (f + 1) (pa i) (tk_ins (aT i) k S2) = z → va_P (dC, dI) vwCl (tk_w1 o q ca aP aH aT aG aL aA aF S2 n) Hp → va_D A (tk_w1 o q ca aP aH aT aG aL aA aF S2 n) → va_S A s.heap Hp locs → lv_has ls 5 [(4, .int (nI k)), (3, .int (nI i)), (2, .int (nI f)), (0, .ref o), (1, .int (nI j))] → W p l e (headSpec wsX1_median ({ frames := 1, cells := 0, slots := 0, locals := 21 })).room s m ([.ref o, .int (nI j)] : List Value).toArray below meth c Hp locs 0 0 Q (F0 m 28 ls []) := by
              intro k
              induction k with
              | zero =>
                intro S2 Hp locs ls hk hz2 hP hD hS hl
                refine lv_iload hx hb dX1_median_28 (lv_at hl 0 rfl) ?_
                refine lv_if_le (tgt := 73) hx hb dX1_median_30 (by decide) (fun hc30 => ?_) (fun hc30 => ?_)
                · refine lv_aload_n hx hb dX1_median_73 rfl (lv_at hl 3 rfl) ?_
                  refine va_get (D := (dC, dI)) (ci := 1) (v := .ref (q 7)) (C := RX1) (T := TX1) (N := 9) hx hb hts hin0 hown hK hP 0 rfl rfl 7 (by decide) fl33 (fun _ h9 => h9) rfl dX1_median_74 ?_
                  refine lv_iload hx hb dX1_median_77 (lv_at hl 0 rfl) ?_
                  refine lv_aload_n hx hb dX1_median_79 rfl (lv_at hl 3 rfl) ?_
                  refine va_get (D := (dC, dI)) (ci := 1) (v := .ref (q 2)) (C := RX1) (T := TX1) (N := 9) hx hb hts hin0 hown hK hP 0 rfl rfl 2 (by decide) fl16 (fun _ h9 => h9) rfl dX1_median_80 ?_
                  refine lv_iload_n hx hb dX1_median_83 rfl (lv_at hl 1 rfl) ?_
                  refine tk_rdi (v := aT i) hx hb hK hP 3 2 rfl rfl (i) (by omega) (by decide) rfl dX1_median_84 ?_
                  refine tk_sti hx hb hK hP hD hS 8 7 rfl rfl 0 (by omega) (by decide) dX1_median_85 (fun Hp locs hP hD hS => ?_)
                  have hP : va_P (dC, dI) vwCl (tk_w1 o q ca aP aH aT aG aL aA aF (upd S2 0 (aT i)) n) Hp := hP
                  have hD : va_D A (tk_w1 o q ca aP aH aT aG aL aA aF (upd S2 0 (aT i)) n) := hD
                  refine lv_iinc (k := 2) (v := nI (f + 1)) hx hb dX1_median_86 hl rfl (tk_inc f) (by decide) rfl (fun ls hl => ?_)
                  have hl : lv_has ls 5 [(2, .int (nI (f + 1))), (4, .int (nI 0)), (3, .int (nI i)), (0, .ref o), (1, .int (nI j))] := hl
                  refine lv_aload_n hx hb dX1_median_89 rfl (lv_at hl 3 rfl) ?_
                  refine va_get (D := (dC, dI)) (ci := 1) (v := .ref (q 0)) (C := RX1) (T := TX1) (N := 9) hx hb hts hin0 hown hK hP 0 rfl rfl 0 (by decide) fl9 (fun _ h9 => h9) rfl dX1_median_90 ?_
                  refine lv_iload_n hx hb dX1_median_93 rfl (lv_at hl 2 rfl) ?_
                  refine tk_rdi (v := aP i) hx hb hK hP 1 0 rfl rfl (i) (by omega) (by decide) rfl dX1_median_94 ?_
                  refine lv_istore_n hx hb dX1_median_95 rfl hl (by decide) rfl (fun ls hl => ?_)
                  have hl : lv_has ls 5 [(3, .int (aP i)), (2, .int (nI (f + 1))), (4, .int (nI 0)), (0, .ref o), (1, .int (nI j))] := hl
                  refine lv_goto (tgt := 15) hx hb dX1_median_96 (by decide) ?_
                  have hl : lv_has ls 5 [(3, .int (aP i)), (2, .int (nI (f + 1))), (0, .ref o), (1, .int (nI j))] := lv_sub hl [0, 1, 3, 4] rfl
                  exact ih (f + 1) (pa i) (aP i) _ Hp locs ls (by omega) (fun h9 => by obtain ⟨u1, u2, u3, u4⟩ := tk_up hT hi (by omega); exact ⟨u2, by omega, by omega⟩) (fun h9 => by
                    rcases mn3 with h8 | h8
                    · left; rw [tk_h0 hT hi (by omega), hT.2.1]; decide
                    · right; omega) (hz2) hP hD hS hl
                · exact absurd ((tk_le0 (by omega)).mpr rfl) hc30
              | succ k ih2 =>
                intro S2 Hp locs ls hk hz2 hP hD hS hl
                refine lv_iload hx hb dX1_median_28 (lv_at hl 0 rfl) ?_
                refine lv_if_le (tgt := 73) hx hb dX1_median_30 (by decide) (fun hc30 => ?_) (fun hc30 => ?_)
                · exact absurd ((tk_le0 (by omega)).mp hc30) (by omega)
                · refine lv_aload_n hx hb dX1_median_33 rfl (lv_at hl 3 rfl) ?_
                  refine va_get (D := (dC, dI)) (ci := 1) (v := .ref (q 7)) (C := RX1) (T := TX1) (N := 9) hx hb hts hin0 hown hK hP 0 rfl rfl 7 (by decide) fl33 (fun _ h9 => h9) rfl dX1_median_34 ?_
                  refine lv_iload hx hb dX1_median_37 (lv_at hl 0 rfl) ?_
                  refine lv_iconst (v := nI 1) hx hb dX1_median_39 (by decide +kernel) ?_
                  refine lv_isub hx hb dX1_median_40 ?_
                  refine tk_top (y := nI k) (tk_sub1 k) ?_
                  refine tk_rdi (v := S2 k) hx hb hK hP 8 7 rfl rfl (k) (by omega) (by decide) rfl dX1_median_41 ?_
                  refine lv_aload_n hx hb dX1_median_42 rfl (lv_at hl 3 rfl) ?_
                  refine va_get (D := (dC, dI)) (ci := 1) (v := .ref (q 2)) (C := RX1) (T := TX1) (N := 9) hx hb hts hin0 hown hK hP 0 rfl rfl 2 (by decide) fl16 (fun _ h9 => h9) rfl dX1_median_43 ?_
                  refine lv_iload_n hx hb dX1_median_46 rfl (lv_at hl 1 rfl) ?_
                  refine tk_rdi (v := aT i) hx hb hK hP 3 2 rfl rfl (i) (by omega) (by decide) rfl dX1_median_47 ?_
                  refine lv_icmp_le (tgt := 73) hx hb dX1_median_48 (by decide) (fun hc48 => ?_) (fun hc48 => ?_)
                  · refine lv_aload_n hx hb dX1_median_73 rfl (lv_at hl 3 rfl) ?_
                    refine va_get (D := (dC, dI)) (ci := 1) (v := .ref (q 7)) (C := RX1) (T := TX1) (N := 9) hx hb hts hin0 hown hK hP 0 rfl rfl 7 (by decide) fl33 (fun _ h9 => h9) rfl dX1_median_74 ?_
                    refine lv_iload hx hb dX1_median_77 (lv_at hl 0 rfl) ?_
                    refine lv_aload_n hx hb dX1_median_79 rfl (lv_at hl 3 rfl) ?_
                    refine va_get (D := (dC, dI)) (ci := 1) (v := .ref (q 2)) (C := RX1) (T := TX1) (N := 9) hx hb hts hin0 hown hK hP 0 rfl rfl 2 (by decide) fl16 (fun _ h9 => h9) rfl dX1_median_80 ?_
                    refine lv_iload_n hx hb dX1_median_83 rfl (lv_at hl 1 rfl) ?_
                    refine tk_rdi (v := aT i) hx hb hK hP 3 2 rfl rfl (i) (by omega) (by decide) rfl dX1_median_84 ?_
                    refine tk_sti hx hb hK hP hD hS 8 7 rfl rfl (k + 1) (by omega) (by decide) dX1_median_85 (fun Hp locs hP hD hS => ?_)
                    have hP : va_P (dC, dI) vwCl (tk_w1 o q ca aP aH aT aG aL aA aF (upd S2 (k + 1) (aT i)) n) Hp := hP
                    have hD : va_D A (tk_w1 o q ca aP aH aT aG aL aA aF (upd S2 (k + 1) (aT i)) n) := hD
                    refine lv_iinc (k := 2) (v := nI (f + 1)) hx hb dX1_median_86 hl rfl (tk_inc f) (by decide) rfl (fun ls hl => ?_)
                    have hl : lv_has ls 5 [(2, .int (nI (f + 1))), (4, .int (nI (k + 1))), (3, .int (nI i)), (0, .ref o), (1, .int (nI j))] := hl
                    refine lv_aload_n hx hb dX1_median_89 rfl (lv_at hl 3 rfl) ?_
                    refine va_get (D := (dC, dI)) (ci := 1) (v := .ref (q 0)) (C := RX1) (T := TX1) (N := 9) hx hb hts hin0 hown hK hP 0 rfl rfl 0 (by decide) fl9 (fun _ h9 => h9) rfl dX1_median_90 ?_
                    refine lv_iload_n hx hb dX1_median_93 rfl (lv_at hl 2 rfl) ?_
                    refine tk_rdi (v := aP i) hx hb hK hP 1 0 rfl rfl (i) (by omega) (by decide) rfl dX1_median_94 ?_
                    refine lv_istore_n hx hb dX1_median_95 rfl hl (by decide) rfl (fun ls hl => ?_)
                    have hl : lv_has ls 5 [(3, .int (aP i)), (2, .int (nI (f + 1))), (4, .int (nI (k + 1))), (0, .ref o), (1, .int (nI j))] := hl
                    refine lv_goto (tgt := 15) hx hb dX1_median_96 (by decide) ?_
                    have hl : lv_has ls 5 [(3, .int (aP i)), (2, .int (nI (f + 1))), (0, .ref o), (1, .int (nI j))] := lv_sub hl [0, 1, 3, 4] rfl
                    exact ih (f + 1) (pa i) (aP i) _ Hp locs ls (by omega) (fun h9 => by obtain ⟨u1, u2, u3, u4⟩ := tk_up hT hi (by omega); exact ⟨u2, by omega, by omega⟩) (fun h9 => by
                      rcases mn3 with h8 | h8
                      · left; rw [tk_h0 hT hi (by omega), hT.2.1]; decide
                      · right; omega) ((congrArg (tk_md pa aT c0 (f + 1) (pa i)) (tk_ins_f (tk_nlt hc48)).symm).trans hz2) hP hD hS hl
                  · refine lv_aload_n hx hb dX1_median_51 rfl (lv_at hl 3 rfl) ?_
                    refine va_get (D := (dC, dI)) (ci := 1) (v := .ref (q 7)) (C := RX1) (T := TX1) (N := 9) hx hb hts hin0 hown hK hP 0 rfl rfl 7 (by decide) fl33 (fun _ h9 => h9) rfl dX1_median_52 ?_
                    refine lv_iload hx hb dX1_median_55 (lv_at hl 0 rfl) ?_
                    refine lv_aload_n hx hb dX1_median_57 rfl (lv_at hl 3 rfl) ?_
                    refine va_get (D := (dC, dI)) (ci := 1) (v := .ref (q 7)) (C := RX1) (T := TX1) (N := 9) hx hb hts hin0 hown hK hP 0 rfl rfl 7 (by decide) fl33 (fun _ h9 => h9) rfl dX1_median_58 ?_
                    refine lv_iload hx hb dX1_median_61 (lv_at hl 0 rfl) ?_
                    refine lv_iconst (v := nI 1) hx hb dX1_median_63 (by decide +kernel) ?_
                    refine lv_isub hx hb dX1_median_64 ?_
                    refine tk_top (y := nI k) (tk_sub1 k) ?_
                    refine tk_rdi (v := S2 k) hx hb hK hP 8 7 rfl rfl (k) (by omega) (by decide) rfl dX1_median_65 ?_
                    refine tk_sti hx hb hK hP hD hS 8 7 rfl rfl (k + 1) (by omega) (by decide) dX1_median_66 (fun Hp locs hP hD hS => ?_)
                    have hP : va_P (dC, dI) vwCl (tk_w1 o q ca aP aH aT aG aL aA aF (upd S2 (k + 1) (S2 k)) n) Hp := hP
                    have hD : va_D A (tk_w1 o q ca aP aH aT aG aL aA aF (upd S2 (k + 1) (S2 k)) n) := hD
                    refine lv_iinc (k := 0) (v := nI k) hx hb dX1_median_67 hl rfl (tk_dec k) (by decide) rfl (fun ls hl => ?_)
                    have hl : lv_has ls 5 [(4, .int (nI k)), (3, .int (nI i)), (2, .int (nI f)), (0, .ref o), (1, .int (nI j))] := hl
                    refine lv_goto (tgt := 28) hx hb dX1_median_70 (by decide) ?_
                    exact ih2 _ Hp locs ls (by omega) ((congrArg (tk_md pa aT c0 (f + 1) (pa i)) (tk_ins_t (tk_ltn hc48)).symm).trans hz2) hP hD hS hl
            exact loop2 f S Hp locs ls (by omega) hz hP hD hS hl
    exact loop md 0 j (nI j) aS s.heap [] ls (by omega) (fun _ => ⟨rfl, hj, by omega⟩) (fun h9 => by omega) hzz hP hD hS hl
  · refine lv_bipush (v := -2) hx hb dX1_median_8 (by decide +kernel) ?_
    subst hQ
    exact W.iret hx hb hr (fun t ht hW => ⟨⟨-2, tk_w1 o q ca aP aH aT aG aL aA aF aS n, rfl, ⟨(tk_pb0 hc5).symm, congrArg (fun S9 : Nat → Int32 => tk_w1 o q ca aP aH aT aG aL aA aF S9 n) (tk_mb0 hc5).symm⟩, by rw [ht]; exact hP, va_K.moved hW.alike hK, hD⟩, hS.F ht⟩) hS.2.2 dX1_median_10
end
section
set_option maxHeartbeats 4000000 in
set_option maxRecDepth 100000 in
theorem c1_refuse (l : Launch) (dC : Nat → ClassId) (dI : Nat → Nat → Nat) (o : Nat) (q : Nat → Nat) (ca : Nat → ClassId) (aP aH aT aG : Nat → Int32) (aL : Nat → Int64) (aA aF aS : Nat → Int32) (n : Nat) (sz : Nat) (pa he : Nat → Nat) (hT : tk_I aP aH pa he n) (aZ : Nat → Int32) (hZ : tk_wI pa aF aZ n) (wk : Nat → Nat) (hL : tk_WL aL wk n) (b : Int32) : Met l yX1_refuse wsX1_refuse ({ frames := 2, cells := 0, slots := 0, locals := 45 }) (tk_Wp (dC, dI) (tk_w1 o q ca aP aH aT aG aL aA aF aS n) (tk_t1 ca) sz [.ref o, .int b]) (va_Qi (fun (r : Int32) (u : va_W) => ((tk_ex n b = 0 ∨ b = 0) ∧ r = -1 ∧ u = tk_w1 o q ca aP aH aT aG aL aA aF aS n) ∨ (∃ j, 0 < j ∧ j < n ∧ b = nI j ∧ r = nI (tk_best (tk_rf pa (n - (j + 1)) (j + 1) (upd aZ j 1)) aA wk n) ∧ u = tk_w1 o q ca aP aH aT aG aL aA (upd aF j 1) aS n)) (tk_E (dC, dI) (tk_t1 ca) (va_A (tk_w1 o q ca aP aH aT aG aL aA aF aS n) sz)) (va_A (tk_w1 o q ca aP aH aT aG aL aA aF aS n) sz)) 0 0 (va_A (tk_w1 o q ca aP aH aT aG aL aA aF aS n) sz) := by
  refine Met.ofW (cc := cX1_refuse) (maxL := 2) (ret := (some .int)) (by decide) rfl ?_
  intro p e s m args below meth c s₁ B hml hv
  obtain ⟨rfl, hsz, hP, hK, hD0⟩ := hv
  have hx := B.exec
  have hb := B.bytes
  have hr := B.returns
  have hts := atoms_spec (ws := wsX1_refuse) B.pre
  have hown : s.vm.findClass RX1 = some m.cls := findClass_of_methodNamed B.named
  have hlocks := B.notSynchronized
  have hin0 : ∀ w ∈ u_ws RX1 TX1 9, w ∈ wsX1_refuse := by decide +kernel
  have fl29 := hts (.fieldLink RX1 29 "WorkTreeModel" "refused" "[Z") (by decide +kernel)
  subst hsz
  have hD := hD0.self (sz := s.heap.size)
  generalize hAe : va_A (tk_w1 o q ca aP aH aT aG aL aA aF aS n) s.heap.size = A at hD ⊢
  have hA : ∀ q : Nat, s.heap.size ≤ q → A q := fun q h => by rw [← hAe]; exact Or.inr h
  have hS : va_S A s.heap s.heap [] := va_S.rf
  have hl := lv_entry ([.ref o, .int b]) (n := 2) (Nat.le_of_ble_eq_true rfl)
  rw [lg_entry_eq]
  generalize (lg_sl ([.ref o, .int b]) ++ List.replicate (2 - (lg_sl ([.ref o, .int b])).length) Slot.unset).toArray = ls at hl ⊢
  have hl : lv_has ls 2 [(0, .ref o), (1, .int b)] := hl
  refine tk_Q (fun Q hQ => ?_)
  have hn := hT.1.2
  refine lv_aload_n hx hb dX1_refuse_0 rfl (lv_at hl 0 rfl) ?_
  refine lv_iload_n hx hb dX1_refuse_1 rfl (lv_at hl 1 rfl) ?_
  refine vp_callSi (W.runV (As := [.int b]) (rest := []) ⟨hx, hb, hml, hown, hts⟩ (c1_is l dC dI o q ca aP aH aT aG aL aA aF aS n b) (cwV 1 hts gX1_refuse_X1_is rfl rfl rfl (by decide +kernel) ⟨Nat.le_of_ble_eq_true rfl, Nat.le_of_ble_eq_true rfl⟩) (tk_pre hK hP rfl rfl) rfl rfl hl.1 rfl (lv_room (Nat.le_of_ble_eq_true rfl)) dX1_refuse_2 ⟨Nat.le_of_ble_eq_true rfl, Nat.le_of_ble_eq_true rfl⟩) (fun r hr1 => ?_)
  refine tk_top (y := tk_ex n b) hr1 ?_
  refine lv_if_eq (tgt := 12) hx hb dX1_refuse_5 (by decide) (fun hc5 => ?_) (fun hc5 => ?_)
  · refine lv_iconst (v := -1) hx hb dX1_refuse_12 (by decide +kernel) ?_
    subst hQ
    exact W.iret hx hb hr (fun t ht hW => ⟨⟨-1, tk_w1 o q ca aP aH aT aG aL aA aF aS n, rfl, (Or.inl ⟨Or.inl hc5, rfl, rfl⟩), by rw [ht]; exact hP, va_K.moved hW.alike hK, hD⟩, hS.F ht⟩) hS.2.2 dX1_refuse_13
  · obtain ⟨j, hj, rfl⟩ := tk_ex_t hn hc5
    refine lv_iload_n hx hb dX1_refuse_8 rfl (lv_at hl 1 rfl) ?_
    refine lv_if_ne (tgt := 14) hx hb dX1_refuse_9 (by decide) (fun hc9 => ?_) (fun hc9 => ?_)
    · have hj0 : 0 < j := Nat.pos_of_ne_zero (fun z => hc9 ((tk_eq0 (by omega)).mpr z))
      have hZ2 := tk_rf_ok (fun i h1 h2 => (hT.2.2.2.2 i h1 h2).2.1) hZ hj0 hj
      refine lv_aload_n hx hb dX1_refuse_14 rfl (lv_at hl 0 rfl) ?_
      refine va_get (D := (dC, dI)) (ci := 1) (v := .ref (q 6)) (C := RX1) (T := TX1) (N := 9) hx hb hts hin0 hown hK hP 0 rfl rfl 6 (by decide) fl29 (fun _ h9 => h9) rfl dX1_refuse_15 ?_
      refine lv_iload_n hx hb dX1_refuse_18 rfl (lv_at hl 1 rfl) ?_
      refine lv_iconst (v := 1) hx hb dX1_refuse_19 (by decide +kernel) ?_
      refine tk_stz (x' := 1) hx hb hK hP hD hS 7 6 rfl rfl j (by omega) (by decide) rfl dX1_refuse_20 (fun Hp locs hP hD hS => ?_)
      have hP : va_P (dC, dI) vwCl (tk_w1 o q ca aP aH aT aG aL aA (upd aF j 1) aS n) Hp := hP
      have hD : va_D A (tk_w1 o q ca aP aH aT aG aL aA (upd aF j 1) aS n) := hD
      refine lv_aload_n hx hb dX1_refuse_21 rfl (lv_at hl 0 rfl) ?_
      refine vp_callSi (W.runV (As := []) (rest := []) ⟨hx, hb, hml, hown, hts⟩ (c1_best l dC dI o q ca aP aH aT aG aL aA (upd aF j 1) aS n pa he hT _ hZ2 wk hL) (cwV 0 hts gX1_refuse_X1_best rfl rfl rfl (by decide +kernel) ⟨Nat.le_of_ble_eq_true rfl, Nat.le_of_ble_eq_true rfl⟩) (tk_pre hK hP rfl rfl) rfl rfl hl.1 rfl (lv_room (Nat.le_of_ble_eq_true rfl)) dX1_refuse_22 ⟨Nat.le_of_ble_eq_true rfl, Nat.le_of_ble_eq_true rfl⟩) (fun r hr1 => ?_)
      refine tk_top (y := nI (tk_best (tk_rf pa (n - (j + 1)) (j + 1) (upd aZ j 1)) aA wk n)) hr1 ?_
      subst hQ
      exact W.iret hx hb hr (fun t ht hW => ⟨⟨nI (tk_best (tk_rf pa (n - (j + 1)) (j + 1) (upd aZ j 1)) aA wk n), tk_w1 o q ca aP aH aT aG aL aA (upd aF j 1) aS n, rfl, (Or.inr ⟨j, hj0, hj, rfl, rfl, rfl⟩), by rw [ht]; exact hP, va_K.moved hW.alike hK, hD⟩, hS.F ht⟩) hS.2.2 dX1_refuse_25
    · refine lv_iconst (v := -1) hx hb dX1_refuse_12 (by decide +kernel) ?_
      subst hQ
      exact W.iret hx hb hr (fun t ht hW => ⟨⟨-1, tk_w1 o q ca aP aH aT aG aL aA aF aS n, rfl, (Or.inl ⟨Or.inr hc9, rfl, rfl⟩), by rw [ht]; exact hP, va_K.moved hW.alike hK, hD⟩, hS.F ht⟩) hS.2.2 dX1_refuse_13
set_option maxHeartbeats 4000000 in
set_option maxRecDepth 100000 in
theorem c1_add (l : Launch) (dC : Nat → ClassId) (dI : Nat → Nat → Nat) (o : Nat) (q : Nat → Nat) (ca : Nat → ClassId) (aP aH aT aG : Nat → Int32) (aL : Nat → Int64) (aA aF aS : Nat → Int32) (n : Nat) (sz : Nat) (pa he : Nat → Nat) (hT : tk_I aP aH pa he n) (wk : Nat → Nat) (hL : tk_WL aL wk n) (hG : tk_G aG n) (b tm ar : Int32) : Met l yX1_add wsX1_add ({ frames := 3, cells := 0, slots := 0, locals := 68 }) (tk_Wp (dC, dI) (tk_w1 o q ca aP aH aT aG aL aA aF aS n) (tk_t1 ca) sz [.ref o, .int b, .int tm, .int ar]) (va_Qi (fun (r : Int32) (u : va_W) => (tk_ex n b = 0 ∧ r = -1 ∧ u = tk_w1 o q ca aP aH aT aG aL aA aF aS n) ∨ (∃ j, j < n ∧ b = nI j ∧ (((tm ≤ tk_med pa he aT j aS ∨ ¬ 0 ≤ ar) ∧ r = -1 ∧ u = tk_w1 o q ca aP aH aT aG aL aA aF (tk_mS pa he aT j aS) n) ∨ ((¬ tm ≤ tk_med pa he aT j aS ∧ 0 ≤ ar) ∧ ((n = 512 ∧ r = -3 ∧ u = tk_w1 o q ca aP aH aT aG aL aA aF (tk_mS pa he aT j aS) n) ∨ (n < 512 ∧ r = nI n ∧ ∃ g, 2048 ≤ g ∧ g ≤ 65535 ∧ tk_tb pa he aT aG j = nI g ∧ u = tk_w1 o q ca (upd aP n (nI j)) (upd aH n (nI (he j + 1))) (upd aT n tm) (upd aG n (nI g)) (vp_updL aL n (lN (wk j + 16777216 / g))) (upd aA n ar) aF (tk_mS pa he aT j aS) (n + 1))))))) (tk_E (dC, dI) (tk_t1 ca) (va_A (tk_w1 o q ca aP aH aT aG aL aA aF aS n) sz)) (va_A (tk_w1 o q ca aP aH aT aG aL aA aF aS n) sz)) 0 0 (va_A (tk_w1 o q ca aP aH aT aG aL aA aF aS n) sz) := by
  refine Met.ofW (cc := cX1_add) (maxL := 5) (ret := (some .int)) (by decide) rfl ?_
  intro p e s m args below meth c s₁ B hml hv
  obtain ⟨rfl, hsz, hP, hK, hD0⟩ := hv
  have hx := B.exec
  have hb := B.bytes
  have hr := B.returns
  have hts := atoms_spec (ws := wsX1_add) B.pre
  have hown : s.vm.findClass RX1 = some m.cls := findClass_of_methodNamed B.named
  have hlocks := B.notSynchronized
  have hin0 : ∀ w ∈ u_ws RX1 TX1 9, w ∈ wsX1_add := by decide +kernel
  have fl36 := hts (.fieldLink RX1 36 "WorkTreeModel" "count" "I") (by decide +kernel)
  have fl9 := hts (.fieldLink RX1 9 "WorkTreeModel" "parent" "[I") (by decide +kernel)
  have fl16 := hts (.fieldLink RX1 16 "WorkTreeModel" "time" "[I") (by decide +kernel)
  have fl26 := hts (.fieldLink RX1 26 "WorkTreeModel" "arrival" "[I") (by decide +kernel)
  have fl13 := hts (.fieldLink RX1 13 "WorkTreeModel" "height" "[I") (by decide +kernel)
  have fl19 := hts (.fieldLink RX1 19 "WorkTreeModel" "target" "[I") (by decide +kernel)
  have fl22 := hts (.fieldLink RX1 22 "WorkTreeModel" "work" "[J") (by decide +kernel)
  have kc52 := hts (.constant RX1 52 (16777216)) (by decide +kernel)
  subst hsz
  have hD := hD0.self (sz := s.heap.size)
  generalize hAe : va_A (tk_w1 o q ca aP aH aT aG aL aA aF aS n) s.heap.size = A at hD ⊢
  have hA : ∀ q : Nat, s.heap.size ≤ q → A q := fun q h => by rw [← hAe]; exact Or.inr h
  have hS : va_S A s.heap s.heap [] := va_S.rf
  have hl := lv_entry ([.ref o, .int b, .int tm, .int ar]) (n := 5) (Nat.le_of_ble_eq_true rfl)
  rw [lg_entry_eq]
  generalize (lg_sl ([.ref o, .int b, .int tm, .int ar]) ++ List.replicate (5 - (lg_sl ([.ref o, .int b, .int tm, .int ar])).length) Slot.unset).toArray = ls at hl ⊢
  have hl : lv_has ls 5 [(0, .ref o), (1, .int b), (2, .int tm), (3, .int ar)] := hl
  refine tk_Q (fun Q hQ => ?_)
  have hn := hT.1.2
  refine lv_aload_n hx hb dX1_add_0 rfl (lv_at hl 0 rfl) ?_
  refine lv_iload_n hx hb dX1_add_1 rfl (lv_at hl 1 rfl) ?_
  refine vp_callSi (W.runV (As := [.int b]) (rest := []) ⟨hx, hb, hml, hown, hts⟩ (c1_is l dC dI o q ca aP aH aT aG aL aA aF aS n b) (cwV 1 hts gX1_add_X1_is rfl rfl rfl (by decide +kernel) ⟨Nat.le_of_ble_eq_true rfl, Nat.le_of_ble_eq_true rfl⟩) (tk_pre hK hP rfl rfl) rfl rfl hl.1 rfl (lv_room (Nat.le_of_ble_eq_true rfl)) dX1_add_2 ⟨Nat.le_of_ble_eq_true rfl, Nat.le_of_ble_eq_true rfl⟩) (fun r hr1 => ?_)
  refine tk_top (y := tk_ex n b) hr1 ?_
  refine lv_if_eq (tgt := 21) hx hb dX1_add_5 (by decide) (fun hc5 => ?_) (fun hc5 => ?_)
  · refine lv_iconst (v := -1) hx hb dX1_add_21 (by decide +kernel) ?_
    subst hQ
    exact W.iret hx hb hr (fun t ht hW => ⟨⟨-1, tk_w1 o q ca aP aH aT aG aL aA aF aS n, rfl, (Or.inl ⟨hc5, rfl, rfl⟩), by rw [ht]; exact hP, va_K.moved hW.alike hK, hD⟩, hS.F ht⟩) hS.2.2 dX1_add_22
  · obtain ⟨j, hj, rfl⟩ := tk_ex_t hn hc5
    have hjj := (hT.2.2.2.1 j hj).2
    have hwj := (hL j hj).2
    obtain ⟨g, hg1, hg2, hg⟩ := tk_tb_in (pa := pa) (he := he) (aT := aT) hG hj
    refine lv_iload_n hx hb dX1_add_8 rfl (lv_at hl 2 rfl) ?_
    refine lv_aload_n hx hb dX1_add_9 rfl (lv_at hl 0 rfl) ?_
    refine lv_iload_n hx hb dX1_add_10 rfl (lv_at hl 1 rfl) ?_
    have hFc := va_free (wc := tk_w1 o q ca aP aH aT aG aL aA aF aS n) hD hS hA [0, 1, 2, 3, 4, 5, 6, 7, 8] rfl
    refine va_calli (va_runV (As := [.int (nI j)]) (rest := [.int tm]) ⟨hx, hb, hml, hown, hts⟩ (c1_median l dC dI o q ca aP aH aT aG aL aA aF aS n _ pa he hT (nI j)) (cwV 1 hts gX1_add_X1_median rfl rfl rfl (by decide +kernel) ⟨Nat.le_of_ble_eq_true rfl, Nat.le_of_ble_eq_true rfl⟩) (tk_preW hK hP hD rfl rfl) rfl rfl hl.1 rfl (lv_room (Nat.le_of_ble_eq_true rfl)) dX1_add_11 ⟨Nat.le_of_ble_eq_true rfl, Nat.le_of_ble_eq_true rfl⟩) hS (fun q _ h => hFc q h) hFc (fun r u t Hp locs ht hvm hw hB hz1 hk1 hS => ?_)
    obtain ⟨hr1, hw⟩ := hw
    subst hw
    obtain ⟨hP, hK1, hD1⟩ := hB
    rw [ht] at hP
    have hD : va_D A (tk_w1 o q ca aP aH aT aG aL aA aF (tk_mb pa he aT n (nI j) aS) n) := hD1.weaken (fun _ _ _ h => hFc _ h)
    refine tk_top (y := tk_pb n (nI j) (fun j => tk_med pa he aT j aS)) hr1 ?_
    rw [tk_mbn hn hj] at hP hD
    refine tk_top (y := tk_med pa he aT j aS) (tk_pbn (f := fun j => tk_med pa he aT j aS) hn hj) ?_
    refine lv_icmp_le (tgt := 21) hx hb dX1_add_14 (by decide) (fun hc14 => ?_) (fun hc14 => ?_)
    · refine lv_iconst (v := -1) hx hb dX1_add_21 (by decide +kernel) ?_
      subst hQ
      exact W.iret hx hb hr (fun t ht hW => ⟨⟨-1, tk_w1 o q ca aP aH aT aG aL aA aF (tk_mS pa he aT j aS) n, rfl, (Or.inr ⟨j, hj, rfl, Or.inl ⟨Or.inl hc14, rfl, rfl⟩⟩), by rw [ht]; exact hP, va_K.moved hW.alike hK, hD⟩, hS.F ht⟩) hS.2.2 dX1_add_22
    · refine lv_iload_n hx hb dX1_add_17 rfl (lv_at hl 3 rfl) ?_
      refine lv_if_ge (tgt := 23) hx hb dX1_add_18 (by decide) (fun hc18 => ?_) (fun hc18 => ?_)
      · refine lv_aload_n hx hb dX1_add_23 rfl (lv_at hl 0 rfl) ?_
        refine va_get (D := (dC, dI)) (ci := 1) (v := .int (nI n)) (C := RX1) (T := TX1) (N := 9) hx hb hts hin0 hown hK hP 0 rfl rfl 8 (by decide) fl36 (fun _ h9 => h9) rfl dX1_add_24 ?_
        refine lv_sipush (v := nI 512) hx hb dX1_add_27 (by decide +kernel) ?_
        refine lv_icmp_ne (tgt := 36) hx hb dX1_add_30 (by decide) (fun hc30 => ?_) (fun hc30 => ?_)
        · have e30 : ¬ n = 512 := fun z => hc30 (congrArg nI z)
          refine lv_aload_n hx hb dX1_add_36 rfl (lv_at hl 0 rfl) ?_
          refine va_get (D := (dC, dI)) (ci := 1) (v := .int (nI n)) (C := RX1) (T := TX1) (N := 9) hx hb hts hin0 hown hK hP 0 rfl rfl 8 (by decide) fl36 (fun _ h9 => h9) rfl dX1_add_37 ?_
          refine lv_istore hx hb dX1_add_40 hl (by decide) rfl (fun ls hl => ?_)
          have hl : lv_has ls 5 [(4, .int (nI n)), (0, .ref o), (1, .int (nI j)), (2, .int tm), (3, .int ar)] := hl
          refine lv_aload_n hx hb dX1_add_42 rfl (lv_at hl 1 rfl) ?_
          refine va_get (D := (dC, dI)) (ci := 1) (v := .ref (q 0)) (C := RX1) (T := TX1) (N := 9) hx hb hts hin0 hown hK hP 0 rfl rfl 0 (by decide) fl9 (fun _ h9 => h9) rfl dX1_add_43 ?_
          refine lv_iload hx hb dX1_add_46 (lv_at hl 0 rfl) ?_
          refine lv_iload_n hx hb dX1_add_48 rfl (lv_at hl 2 rfl) ?_
          refine tk_sti hx hb hK hP hD hS 1 0 rfl rfl n (by omega) (by decide) dX1_add_49 (fun Hp locs hP hD hS => ?_)
          have hP : va_P (dC, dI) vwCl (tk_w1 o q ca (upd aP n (nI j)) aH aT aG aL aA aF (tk_mS pa he aT j aS) n) Hp := hP
          have hD : va_D A (tk_w1 o q ca (upd aP n (nI j)) aH aT aG aL aA aF (tk_mS pa he aT j aS) n) := hD
          refine lv_aload_n hx hb dX1_add_50 rfl (lv_at hl 1 rfl) ?_
          refine va_get (D := (dC, dI)) (ci := 1) (v := .ref (q 2)) (C := RX1) (T := TX1) (N := 9) hx hb hts hin0 hown hK hP 0 rfl rfl 2 (by decide) fl16 (fun _ h9 => h9) rfl dX1_add_51 ?_
          refine lv_iload hx hb dX1_add_54 (lv_at hl 0 rfl) ?_
          refine lv_iload_n hx hb dX1_add_56 rfl (lv_at hl 3 rfl) ?_
          refine tk_sti hx hb hK hP hD hS 3 2 rfl rfl n (by omega) (by decide) dX1_add_57 (fun Hp locs hP hD hS => ?_)
          have hP : va_P (dC, dI) vwCl (tk_w1 o q ca (upd aP n (nI j)) aH (upd aT n tm) aG aL aA aF (tk_mS pa he aT j aS) n) Hp := hP
          have hD : va_D A (tk_w1 o q ca (upd aP n (nI j)) aH (upd aT n tm) aG aL aA aF (tk_mS pa he aT j aS) n) := hD
          refine lv_aload_n hx hb dX1_add_58 rfl (lv_at hl 1 rfl) ?_
          refine va_get (D := (dC, dI)) (ci := 1) (v := .ref (q 5)) (C := RX1) (T := TX1) (N := 9) hx hb hts hin0 hown hK hP 0 rfl rfl 5 (by decide) fl26 (fun _ h9 => h9) rfl dX1_add_59 ?_
          refine lv_iload hx hb dX1_add_62 (lv_at hl 0 rfl) ?_
          refine lv_iload_n hx hb dX1_add_64 rfl (lv_at hl 4 rfl) ?_
          refine tk_sti hx hb hK hP hD hS 6 5 rfl rfl n (by omega) (by decide) dX1_add_65 (fun Hp locs hP hD hS => ?_)
          have hP : va_P (dC, dI) vwCl (tk_w1 o q ca (upd aP n (nI j)) aH (upd aT n tm) aG aL (upd aA n ar) aF (tk_mS pa he aT j aS) n) Hp := hP
          have hD : va_D A (tk_w1 o q ca (upd aP n (nI j)) aH (upd aT n tm) aG aL (upd aA n ar) aF (tk_mS pa he aT j aS) n) := hD
          refine lv_aload_n hx hb dX1_add_66 rfl (lv_at hl 1 rfl) ?_
          refine va_get (D := (dC, dI)) (ci := 1) (v := .ref (q 1)) (C := RX1) (T := TX1) (N := 9) hx hb hts hin0 hown hK hP 0 rfl rfl 1 (by decide) fl13 (fun _ h9 => h9) rfl dX1_add_67 ?_
          refine lv_iload hx hb dX1_add_70 (lv_at hl 0 rfl) ?_
          refine lv_aload_n hx hb dX1_add_72 rfl (lv_at hl 1 rfl) ?_
          refine va_get (D := (dC, dI)) (ci := 1) (v := .ref (q 1)) (C := RX1) (T := TX1) (N := 9) hx hb hts hin0 hown hK hP 0 rfl rfl 1 (by decide) fl13 (fun _ h9 => h9) rfl dX1_add_73 ?_
          refine lv_iload_n hx hb dX1_add_76 rfl (lv_at hl 2 rfl) ?_
          refine tk_rdi (v := nI (he j)) hx hb hK hP 2 1 rfl rfl (j) (by omega) (by decide) (hT.2.2.2.1 j hj).1 dX1_add_77 ?_
          refine lv_iconst (v := nI 1) hx hb dX1_add_78 (by decide +kernel) ?_
          refine lv_iadd hx hb dX1_add_79 ?_
          refine tk_top (y := nI (he j + 1)) (tk_add1 _) ?_
          refine tk_sti hx hb hK hP hD hS 2 1 rfl rfl n (by omega) (by decide) dX1_add_80 (fun Hp locs hP hD hS => ?_)
          have hP : va_P (dC, dI) vwCl (tk_w1 o q ca (upd aP n (nI j)) (upd aH n (nI (he j + 1))) (upd aT n tm) aG aL (upd aA n ar) aF (tk_mS pa he aT j aS) n) Hp := hP
          have hD : va_D A (tk_w1 o q ca (upd aP n (nI j)) (upd aH n (nI (he j + 1))) (upd aT n tm) aG aL (upd aA n ar) aF (tk_mS pa he aT j aS) n) := hD
          refine lv_aload_n hx hb dX1_add_81 rfl (lv_at hl 1 rfl) ?_
          refine va_get (D := (dC, dI)) (ci := 1) (v := .ref (q 3)) (C := RX1) (T := TX1) (N := 9) hx hb hts hin0 hown hK hP 0 rfl rfl 3 (by decide) fl19 (fun _ h9 => h9) rfl dX1_add_82 ?_
          refine lv_iload hx hb dX1_add_85 (lv_at hl 0 rfl) ?_
          refine lv_aload_n hx hb dX1_add_87 rfl (lv_at hl 1 rfl) ?_
          refine lv_iload_n hx hb dX1_add_88 rfl (lv_at hl 2 rfl) ?_
          have hT2 : tk_I (upd aP n (nI j)) (upd aH n (nI (he j + 1))) pa he n := tk_I_ext hT (fun i hi => pk_un (by omega)) (fun i hi => pk_un (by omega))
          refine vp_callSi (W.runV (As := [.int (nI j)]) (rest := [.int (nI n), .ref (q 3)]) ⟨hx, hb, hml, hown, hts⟩ (c1_due l dC dI o q ca (upd aP n (nI j)) (upd aH n (nI (he j + 1))) (upd aT n tm) aG aL (upd aA n ar) aF (tk_mS pa he aT j aS) n pa he hT2 (nI j)) (cwV 1 hts gX1_add_X1_due rfl rfl rfl (by decide +kernel) ⟨Nat.le_of_ble_eq_true rfl, Nat.le_of_ble_eq_true rfl⟩) (tk_pre hK hP rfl rfl) rfl rfl hl.1 rfl (lv_room (Nat.le_of_ble_eq_true rfl)) dX1_add_89 ⟨Nat.le_of_ble_eq_true rfl, Nat.le_of_ble_eq_true rfl⟩) (fun r hr1 => ?_)
          refine tk_top (y := tk_pb n (nI j) (tk_tb pa he (upd aT n tm) aG)) hr1 ?_
          refine tk_top (y := nI g) ((tk_pbn hn hj).trans ((tk_tb_ext hT hj (fun i hi => pk_un (by omega))).trans hg)) ?_
          refine tk_sti hx hb hK hP hD hS 4 3 rfl rfl n (by omega) (by decide) dX1_add_92 (fun Hp locs hP hD hS => ?_)
          have hP : va_P (dC, dI) vwCl (tk_w1 o q ca (upd aP n (nI j)) (upd aH n (nI (he j + 1))) (upd aT n tm) (upd aG n (nI g)) aL (upd aA n ar) aF (tk_mS pa he aT j aS) n) Hp := hP
          have hD : va_D A (tk_w1 o q ca (upd aP n (nI j)) (upd aH n (nI (he j + 1))) (upd aT n tm) (upd aG n (nI g)) aL (upd aA n ar) aF (tk_mS pa he aT j aS) n) := hD
          refine lv_aload_n hx hb dX1_add_93 rfl (lv_at hl 1 rfl) ?_
          refine va_get (D := (dC, dI)) (ci := 1) (v := .ref (q 4)) (C := RX1) (T := TX1) (N := 9) hx hb hts hin0 hown hK hP 0 rfl rfl 4 (by decide) fl22 (fun _ h9 => h9) rfl dX1_add_94 ?_
          refine lv_iload hx hb dX1_add_97 (lv_at hl 0 rfl) ?_
          refine lv_aload_n hx hb dX1_add_99 rfl (lv_at hl 1 rfl) ?_
          refine va_get (D := (dC, dI)) (ci := 1) (v := .ref (q 4)) (C := RX1) (T := TX1) (N := 9) hx hb hts hin0 hown hK hP 0 rfl rfl 4 (by decide) fl22 (fun _ h9 => h9) rfl dX1_add_100 ?_
          refine lv_iload_n hx hb dX1_add_103 rfl (lv_at hl 2 rfl) ?_
          refine tk_rdl (v := lN (wk j)) hx hb hK hP 5 4 rfl rfl (j) (by omega) (by decide) (hL j hj).1 dX1_add_104 ?_
          refine lv_ldc (v := 16777216) hx hb hown kc52 dX1_add_105 ?_
          refine tk_top (y := nI 16777216) (by decide +kernel) ?_
          refine lv_aload_n hx hb dX1_add_107 rfl (lv_at hl 1 rfl) ?_
          refine va_get (D := (dC, dI)) (ci := 1) (v := .ref (q 3)) (C := RX1) (T := TX1) (N := 9) hx hb hts hin0 hown hK hP 0 rfl rfl 3 (by decide) fl19 (fun _ h9 => h9) rfl dX1_add_108 ?_
          refine lv_iload hx hb dX1_add_111 (lv_at hl 0 rfl) ?_
          refine tk_rdi (v := nI g) hx hb hK hP 4 3 rfl rfl (n) (by omega) (by decide) pk_us dX1_add_113 ?_
          refine lv_idiv hx hb dX1_add_114 (fun z => absurd ((tk_eq0 (by omega)).mp z) (by omega)) ?_
          refine tk_top (y := nI (16777216 / g)) (pk_div (by decide) (by omega) (by omega)) ?_
          refine lv_i2l (v := lN (16777216 / g)) hx hb dX1_add_115 (nI_l (Nat.lt_of_le_of_lt (Nat.div_le_self _ _) (by decide))) ?_
          refine lv_ladd hx hb dX1_add_116 ?_
          refine tk_topl (y := lN (wk j + 16777216 / g)) (lN_add _ _) ?_
          refine tk_stl hx hb hK hP hD hS 5 4 rfl rfl n (by omega) (by decide) dX1_add_117 (fun Hp locs hP hD hS => ?_)
          have hP : va_P (dC, dI) vwCl (tk_w1 o q ca (upd aP n (nI j)) (upd aH n (nI (he j + 1))) (upd aT n tm) (upd aG n (nI g)) (vp_updL aL n (lN (wk j + 16777216 / g))) (upd aA n ar) aF (tk_mS pa he aT j aS) n) Hp := hP
          have hD : va_D A (tk_w1 o q ca (upd aP n (nI j)) (upd aH n (nI (he j + 1))) (upd aT n tm) (upd aG n (nI g)) (vp_updL aL n (lN (wk j + 16777216 / g))) (upd aA n ar) aF (tk_mS pa he aT j aS) n) := hD
          refine lv_aload_n hx hb dX1_add_118 rfl (lv_at hl 1 rfl) ?_
          refine lv_dup hx hb dX1_add_119 rfl ?_
          refine va_get (D := (dC, dI)) (ci := 1) (v := .int (nI n)) (C := RX1) (T := TX1) (N := 9) hx hb hts hin0 hown hK hP 0 rfl rfl 8 (by decide) fl36 (fun _ h9 => h9) rfl dX1_add_120 ?_
          refine lv_iconst (v := nI 1) hx hb dX1_add_123 (by decide +kernel) ?_
          refine lv_iadd hx hb dX1_add_124 ?_
          refine tk_top (y := nI (n + 1)) (tk_add1 n) ?_
          refine va_put (D := (dC, dI)) (ci := 1) (v := .int (nI (n + 1))) (ty := .int) (C := RX1) (T := TX1) (N := 9) hx hb hts hin0 tyX1 tyX1_ok nmX1 hown hK hP hD hS 0 rfl rfl 8 (by decide) fl36 (fun _ h9 => h9) rfl (by decide +kernel) rfl rfl (Nat.le_of_ble_eq_true rfl) dX1_add_125 (fun Hp locs hP hD hS => ?_)
          have hP : va_P (dC, dI) vwCl (tk_w1 o q ca (upd aP n (nI j)) (upd aH n (nI (he j + 1))) (upd aT n tm) (upd aG n (nI g)) (vp_updL aL n (lN (wk j + 16777216 / g))) (upd aA n ar) aF (tk_mS pa he aT j aS) (n + 1)) Hp := hP
          have hD : va_D A (tk_w1 o q ca (upd aP n (nI j)) (upd aH n (nI (he j + 1))) (upd aT n tm) (upd aG n (nI g)) (vp_updL aL n (lN (wk j + 16777216 / g))) (upd aA n ar) aF (tk_mS pa he aT j aS) (n + 1)) := hD
          refine lv_iload hx hb dX1_add_128 (lv_at hl 0 rfl) ?_
          subst hQ
          exact W.iret hx hb hr (fun t ht hW => ⟨⟨nI n, tk_w1 o q ca (upd aP n (nI j)) (upd aH n (nI (he j + 1))) (upd aT n tm) (upd aG n (nI g)) (vp_updL aL n (lN (wk j + 16777216 / g))) (upd aA n ar) aF (tk_mS pa he aT j aS) (n + 1), rfl, (Or.inr ⟨j, hj, rfl, Or.inr ⟨⟨hc14, hc18⟩, Or.inr ⟨by omega, rfl, g, hg1, hg2, hg, rfl⟩⟩⟩), by rw [ht]; exact hP, va_K.moved hW.alike hK, hD⟩, hS.F ht⟩) hS.2.2 dX1_add_130
        · have e30 := (nI_eq (by omega) (by decide)).mp hc30
          refine lv_bipush (v := -3) hx hb dX1_add_33 (by decide +kernel) ?_
          subst hQ
          exact W.iret hx hb hr (fun t ht hW => ⟨⟨-3, tk_w1 o q ca aP aH aT aG aL aA aF (tk_mS pa he aT j aS) n, rfl, (Or.inr ⟨j, hj, rfl, Or.inr ⟨⟨hc14, hc18⟩, Or.inl ⟨e30, rfl, rfl⟩⟩⟩), by rw [ht]; exact hP, va_K.moved hW.alike hK, hD⟩, hS.F ht⟩) hS.2.2 dX1_add_35
      · refine lv_iconst (v := -1) hx hb dX1_add_21 (by decide +kernel) ?_
        subst hQ
        exact W.iret hx hb hr (fun t ht hW => ⟨⟨-1, tk_w1 o q ca aP aH aT aG aL aA aF (tk_mS pa he aT j aS) n, rfl, (Or.inr ⟨j, hj, rfl, Or.inl ⟨Or.inr hc18, rfl, rfl⟩⟩), by rw [ht]; exact hP, va_K.moved hW.alike hK, hD⟩, hS.F ht⟩) hS.2.2 dX1_add_22
end
section
theorem tk_arI (n : Nat) : ∀ cA : ClassId, vp_cell cA (n, .inl (fun _ => 0)) = arrV cA n (fun _ => defaultValue .int) := fun _ => rfl
theorem tk_arZ (n : Nat) : ∀ cA : ClassId, vp_cell cA (n, .inl (fun _ => 0)) = arrV cA n (fun _ => defaultValue .boolean) := fun _ => rfl
theorem tk_arL (n : Nat) : ∀ cA : ClassId, vp_cell cA (n, .inr (.inl (fun _ => 0))) = arrV cA n (fun _ => defaultValue .long) := fun _ => rfl
abbrev tk_0 : Nat → Int32 := fun _ => 0
abbrev tk_P0 : Nat → Int32 := upd (fun _ => 0) 0 (-2)
abbrev tk_G0 : Nat → Int32 := upd (fun _ => 0) 0 (nI 32768)
def tk_pk {α : Type} (a0 a1 a2 a3 a4 a5 a6 a7 : α) : Nat → α := fun k => match k with
  | 0 => a0
  | 1 => a1
  | 2 => a2
  | 3 => a3
  | 4 => a4
  | 5 => a5
  | 6 => a6
  | _ => a7
set_option maxHeartbeats 4000000 in
set_option maxRecDepth 100000 in
theorem c0_init (l : Launch) (dC : Nat → ClassId) (dI : Nat → Nat → Nat) (o sz : Nat) : Met l yX0_init wsX0_init ({ frames := 1, cells := 8, slots := 3591, locals := 12 }) (tk_Wp (dC, dI) [(o, .inr (0, [.null, .null, .null, .null, .null, .null, .null, .null, .int 0]))] [] sz [.ref o]) (va_Qv (fun _ : (Nat → Nat) × (Nat → ClassId) => True) (fun u t => tk_E (dC, dI) (tk_t0 u.2) (va_A [(o, .inr (0, [.null, .null, .null, .null, .null, .null, .null, .null, .int 0]))] sz) (tk_w0 o u.1 u.2 tk_P0 tk_0 tk_0 tk_0 tk_G0 tk_0 tk_0 tk_0 1) t) (va_A [(o, .inr (0, [.null, .null, .null, .null, .null, .null, .null, .null, .int 0]))] sz)) 8 3591 (va_A [(o, .inr (0, [.null, .null, .null, .null, .null, .null, .null, .null, .int 0]))] sz) := by
  refine Met.ofW (cc := cX0_init) (maxL := 1) (ret := none) (by decide) rfl ?_
  intro p e s m args below meth c s₁ B hml hv
  obtain ⟨rfl, hsz, hP, hK, hD0⟩ := hv
  have hx := B.exec
  have hb := B.bytes
  have hr := B.returns
  have hts := atoms_spec (ws := wsX0_init) B.pre
  have hown : s.vm.findClass RX0 = some m.cls := findClass_of_methodNamed B.named
  have hlocks := B.notSynchronized
  have hin : meth.name = "<init>" := (name_of_methodNamed B.named B.method).1
  have hin0 : ∀ w ∈ u_ws RX0 TX0 9, w ∈ wsX0_init := by decide +kernel
  have fl9 := hts (.fieldLink RX0 9 "WorkTree" "parents" "[I") (by decide +kernel)
  have fl13 := hts (.fieldLink RX0 13 "WorkTree" "heights" "[I") (by decide +kernel)
  have fl16 := hts (.fieldLink RX0 16 "WorkTree" "times" "[I") (by decide +kernel)
  have fl19 := hts (.fieldLink RX0 19 "WorkTree" "arrivals" "[I") (by decide +kernel)
  have fl22 := hts (.fieldLink RX0 22 "WorkTree" "targets" "[I") (by decide +kernel)
  have fl25 := hts (.fieldLink RX0 25 "WorkTree" "works" "[I") (by decide +kernel)
  have fl28 := hts (.fieldLink RX0 28 "WorkTree" "wrong" "[Z") (by decide +kernel)
  have fl32 := hts (.fieldLink RX0 32 "WorkTree" "sortedTimes" "[I") (by decide +kernel)
  have kc35 := hts (.constant RX0 35 (32768)) (by decide +kernel)
  have fl36 := hts (.fieldLink RX0 36 "WorkTree" "count" "I") (by decide +kernel)
  subst hsz
  have hD := hD0.self (sz := s.heap.size)
  generalize hAe : va_A [(o, .inr (0, [.null, .null, .null, .null, .null, .null, .null, .null, .int 0]))] s.heap.size = A at hD ⊢
  have hA : ∀ q : Nat, s.heap.size ≤ q → A q := fun q h => by rw [← hAe]; exact Or.inr h
  have hS : va_S A s.heap s.heap [] := va_S.rf
  have hl := lv_entry ([.ref o]) (n := 1) (Nat.le_of_ble_eq_true rfl)
  rw [lg_entry_eq]
  generalize (lg_sl ([.ref o]) ++ List.replicate (1 - (lg_sl ([.ref o])).length) Slot.unset).toArray = ls at hl ⊢
  have hl : lv_has ls 1 [(0, .ref o)] := hl
  refine lv_aload_n hx hb dX0_init_0 rfl (lv_at hl 0 rfl) ?_
  refine W.objInit hx hb hown (hts (.methodLink RX0 1 objectInit) (by decide +kernel)) (hts (.instanceMethod objectInit) (by decide +kernel)) (hts (.code objectInit ⟨#[0xb1]⟩ 1 none) (by decide +kernel)) rfl (by rw [hml]; exact hl.1) rfl dX0_init_1 (Nat.le_of_ble_eq_true rfl) (Nat.le_of_ble_eq_true rfl) ?_
  refine W.eq (g2 := F0 m 4 ls []) rfl ?_
  refine lv_aload_n hx hb dX0_init_4 rfl (lv_at hl 0 rfl) ?_
  refine lv_sipush (v := nI 512) hx hb dX0_init_5 (by decide +kernel) ?_
  refine va_newa (atype := .int) (ty := .int) (N' := 512) (a0 := (512, .inl (fun _ => 0))) hx hb (hts (.arrayClass .int) (by decide +kernel)) rfl hK hP hD hS hA (tk_arI 512) (by decide +kernel) (by decide +kernel) (by decide +kernel) (by decide +kernel) (by decide +kernel) dX0_init_8 (fun q0 c0 Hp hK hP hD hS => ?_)
  have hP : va_P (dC, dI) vwCl [(o, .inr (0, [.null, .null, .null, .null, .null, .null, .null, .null, .int 0])), (q0, .inl (c0, 512, .inl (fun _ => 0)))] Hp := hP
  have hD : va_D A [(o, .inr (0, [.null, .null, .null, .null, .null, .null, .null, .null, .int 0])), (q0, .inl (c0, 512, .inl (fun _ => 0)))] := hD
  have hK : va_K (dC, dI) vwCl [(c0, .int)] s := hK
  refine W.widen (k := 1) (n := 512) (by omega) (by omega) ?_
  refine va_putF (D := (dC, dI)) (ci := 0) (v := .ref q0) (ty := .array .int) (C := RX0) (T := TX0) (N := 9) hx hb hts hin0 tyX0 tyX0_ok nmX0 hown hK hP hD hS 0 rfl rfl 0 (by decide) fl9 (fun _ h9 => h9) rfl hin rfl (by decide +kernel) rfl rfl (Nat.le_of_ble_eq_true rfl) dX0_init_10 (fun Hp locs hP hD hS => ?_)
  have hP : va_P (dC, dI) vwCl [(o, .inr (0, [.ref q0, .null, .null, .null, .null, .null, .null, .null, .int 0])), (q0, .inl (c0, 512, .inl (fun _ => 0)))] Hp := hP
  have hD : va_D A [(o, .inr (0, [.ref q0, .null, .null, .null, .null, .null, .null, .null, .int 0])), (q0, .inl (c0, 512, .inl (fun _ => 0)))] := hD
  refine lv_aload_n hx hb dX0_init_13 rfl (lv_at hl 0 rfl) ?_
  refine lv_sipush (v := nI 512) hx hb dX0_init_14 (by decide +kernel) ?_
  refine va_newa (atype := .int) (ty := .int) (N' := 512) (a0 := (512, .inl (fun _ => 0))) hx hb (hts (.arrayClass .int) (by decide +kernel)) rfl hK hP hD hS hA (tk_arI 512) (by decide +kernel) (by decide +kernel) (by decide +kernel) (by decide +kernel) (by decide +kernel) dX0_init_17 (fun q1 c1 Hp hK hP hD hS => ?_)
  have hP : va_P (dC, dI) vwCl [(o, .inr (0, [.ref q0, .null, .null, .null, .null, .null, .null, .null, .int 0])), (q0, .inl (c0, 512, .inl (fun _ => 0))), (q1, .inl (c1, 512, .inl (fun _ => 0)))] Hp := hP
  have hD : va_D A [(o, .inr (0, [.ref q0, .null, .null, .null, .null, .null, .null, .null, .int 0])), (q0, .inl (c0, 512, .inl (fun _ => 0))), (q1, .inl (c1, 512, .inl (fun _ => 0)))] := hD
  have hK : va_K (dC, dI) vwCl [(c0, .int), (c1, .int)] s := hK
  refine W.widen (k := 2) (n := 1024) (by omega) (by omega) ?_
  refine va_putF (D := (dC, dI)) (ci := 0) (v := .ref q1) (ty := .array .int) (C := RX0) (T := TX0) (N := 9) hx hb hts hin0 tyX0 tyX0_ok nmX0 hown hK hP hD hS 0 rfl rfl 1 (by decide) fl13 (fun _ h9 => h9) rfl hin rfl (by decide +kernel) rfl rfl (Nat.le_of_ble_eq_true rfl) dX0_init_19 (fun Hp locs hP hD hS => ?_)
  have hP : va_P (dC, dI) vwCl [(o, .inr (0, [.ref q0, .ref q1, .null, .null, .null, .null, .null, .null, .int 0])), (q0, .inl (c0, 512, .inl (fun _ => 0))), (q1, .inl (c1, 512, .inl (fun _ => 0)))] Hp := hP
  have hD : va_D A [(o, .inr (0, [.ref q0, .ref q1, .null, .null, .null, .null, .null, .null, .int 0])), (q0, .inl (c0, 512, .inl (fun _ => 0))), (q1, .inl (c1, 512, .inl (fun _ => 0)))] := hD
  refine lv_aload_n hx hb dX0_init_22 rfl (lv_at hl 0 rfl) ?_
  refine lv_sipush (v := nI 512) hx hb dX0_init_23 (by decide +kernel) ?_
  refine va_newa (atype := .int) (ty := .int) (N' := 512) (a0 := (512, .inl (fun _ => 0))) hx hb (hts (.arrayClass .int) (by decide +kernel)) rfl hK hP hD hS hA (tk_arI 512) (by decide +kernel) (by decide +kernel) (by decide +kernel) (by decide +kernel) (by decide +kernel) dX0_init_26 (fun q2 c2 Hp hK hP hD hS => ?_)
  have hP : va_P (dC, dI) vwCl [(o, .inr (0, [.ref q0, .ref q1, .null, .null, .null, .null, .null, .null, .int 0])), (q0, .inl (c0, 512, .inl (fun _ => 0))), (q1, .inl (c1, 512, .inl (fun _ => 0))), (q2, .inl (c2, 512, .inl (fun _ => 0)))] Hp := hP
  have hD : va_D A [(o, .inr (0, [.ref q0, .ref q1, .null, .null, .null, .null, .null, .null, .int 0])), (q0, .inl (c0, 512, .inl (fun _ => 0))), (q1, .inl (c1, 512, .inl (fun _ => 0))), (q2, .inl (c2, 512, .inl (fun _ => 0)))] := hD
  have hK : va_K (dC, dI) vwCl [(c0, .int), (c1, .int), (c2, .int)] s := hK
  refine W.widen (k := 3) (n := 1536) (by omega) (by omega) ?_
  refine va_putF (D := (dC, dI)) (ci := 0) (v := .ref q2) (ty := .array .int) (C := RX0) (T := TX0) (N := 9) hx hb hts hin0 tyX0 tyX0_ok nmX0 hown hK hP hD hS 0 rfl rfl 2 (by decide) fl16 (fun _ h9 => h9) rfl hin rfl (by decide +kernel) rfl rfl (Nat.le_of_ble_eq_true rfl) dX0_init_28 (fun Hp locs hP hD hS => ?_)
  have hP : va_P (dC, dI) vwCl [(o, .inr (0, [.ref q0, .ref q1, .ref q2, .null, .null, .null, .null, .null, .int 0])), (q0, .inl (c0, 512, .inl (fun _ => 0))), (q1, .inl (c1, 512, .inl (fun _ => 0))), (q2, .inl (c2, 512, .inl (fun _ => 0)))] Hp := hP
  have hD : va_D A [(o, .inr (0, [.ref q0, .ref q1, .ref q2, .null, .null, .null, .null, .null, .int 0])), (q0, .inl (c0, 512, .inl (fun _ => 0))), (q1, .inl (c1, 512, .inl (fun _ => 0))), (q2, .inl (c2, 512, .inl (fun _ => 0)))] := hD
  refine lv_aload_n hx hb dX0_init_31 rfl (lv_at hl 0 rfl) ?_
  refine lv_sipush (v := nI 512) hx hb dX0_init_32 (by decide +kernel) ?_
  refine va_newa (atype := .int) (ty := .int) (N' := 512) (a0 := (512, .inl (fun _ => 0))) hx hb (hts (.arrayClass .int) (by decide +kernel)) rfl hK hP hD hS hA (tk_arI 512) (by decide +kernel) (by decide +kernel) (by decide +kernel) (by decide +kernel) (by decide +kernel) dX0_init_35 (fun q3 c3 Hp hK hP hD hS => ?_)
  have hP : va_P (dC, dI) vwCl [(o, .inr (0, [.ref q0, .ref q1, .ref q2, .null, .null, .null, .null, .null, .int 0])), (q0, .inl (c0, 512, .inl (fun _ => 0))), (q1, .inl (c1, 512, .inl (fun _ => 0))), (q2, .inl (c2, 512, .inl (fun _ => 0))), (q3, .inl (c3, 512, .inl (fun _ => 0)))] Hp := hP
  have hD : va_D A [(o, .inr (0, [.ref q0, .ref q1, .ref q2, .null, .null, .null, .null, .null, .int 0])), (q0, .inl (c0, 512, .inl (fun _ => 0))), (q1, .inl (c1, 512, .inl (fun _ => 0))), (q2, .inl (c2, 512, .inl (fun _ => 0))), (q3, .inl (c3, 512, .inl (fun _ => 0)))] := hD
  have hK : va_K (dC, dI) vwCl [(c0, .int), (c1, .int), (c2, .int), (c3, .int)] s := hK
  refine W.widen (k := 4) (n := 2048) (by omega) (by omega) ?_
  refine va_putF (D := (dC, dI)) (ci := 0) (v := .ref q3) (ty := .array .int) (C := RX0) (T := TX0) (N := 9) hx hb hts hin0 tyX0 tyX0_ok nmX0 hown hK hP hD hS 0 rfl rfl 3 (by decide) fl19 (fun _ h9 => h9) rfl hin rfl (by decide +kernel) rfl rfl (Nat.le_of_ble_eq_true rfl) dX0_init_37 (fun Hp locs hP hD hS => ?_)
  have hP : va_P (dC, dI) vwCl [(o, .inr (0, [.ref q0, .ref q1, .ref q2, .ref q3, .null, .null, .null, .null, .int 0])), (q0, .inl (c0, 512, .inl (fun _ => 0))), (q1, .inl (c1, 512, .inl (fun _ => 0))), (q2, .inl (c2, 512, .inl (fun _ => 0))), (q3, .inl (c3, 512, .inl (fun _ => 0)))] Hp := hP
  have hD : va_D A [(o, .inr (0, [.ref q0, .ref q1, .ref q2, .ref q3, .null, .null, .null, .null, .int 0])), (q0, .inl (c0, 512, .inl (fun _ => 0))), (q1, .inl (c1, 512, .inl (fun _ => 0))), (q2, .inl (c2, 512, .inl (fun _ => 0))), (q3, .inl (c3, 512, .inl (fun _ => 0)))] := hD
  refine lv_aload_n hx hb dX0_init_40 rfl (lv_at hl 0 rfl) ?_
  refine lv_sipush (v := nI 512) hx hb dX0_init_41 (by decide +kernel) ?_
  refine va_newa (atype := .int) (ty := .int) (N' := 512) (a0 := (512, .inl (fun _ => 0))) hx hb (hts (.arrayClass .int) (by decide +kernel)) rfl hK hP hD hS hA (tk_arI 512) (by decide +kernel) (by decide +kernel) (by decide +kernel) (by decide +kernel) (by decide +kernel) dX0_init_44 (fun q4 c4 Hp hK hP hD hS => ?_)
  have hP : va_P (dC, dI) vwCl [(o, .inr (0, [.ref q0, .ref q1, .ref q2, .ref q3, .null, .null, .null, .null, .int 0])), (q0, .inl (c0, 512, .inl (fun _ => 0))), (q1, .inl (c1, 512, .inl (fun _ => 0))), (q2, .inl (c2, 512, .inl (fun _ => 0))), (q3, .inl (c3, 512, .inl (fun _ => 0))), (q4, .inl (c4, 512, .inl (fun _ => 0)))] Hp := hP
  have hD : va_D A [(o, .inr (0, [.ref q0, .ref q1, .ref q2, .ref q3, .null, .null, .null, .null, .int 0])), (q0, .inl (c0, 512, .inl (fun _ => 0))), (q1, .inl (c1, 512, .inl (fun _ => 0))), (q2, .inl (c2, 512, .inl (fun _ => 0))), (q3, .inl (c3, 512, .inl (fun _ => 0))), (q4, .inl (c4, 512, .inl (fun _ => 0)))] := hD
  have hK : va_K (dC, dI) vwCl [(c0, .int), (c1, .int), (c2, .int), (c3, .int), (c4, .int)] s := hK
  refine W.widen (k := 5) (n := 2560) (by omega) (by omega) ?_
  refine va_putF (D := (dC, dI)) (ci := 0) (v := .ref q4) (ty := .array .int) (C := RX0) (T := TX0) (N := 9) hx hb hts hin0 tyX0 tyX0_ok nmX0 hown hK hP hD hS 0 rfl rfl 4 (by decide) fl22 (fun _ h9 => h9) rfl hin rfl (by decide +kernel) rfl rfl (Nat.le_of_ble_eq_true rfl) dX0_init_46 (fun Hp locs hP hD hS => ?_)
  have hP : va_P (dC, dI) vwCl [(o, .inr (0, [.ref q0, .ref q1, .ref q2, .ref q3, .ref q4, .null, .null, .null, .int 0])), (q0, .inl (c0, 512, .inl (fun _ => 0))), (q1, .inl (c1, 512, .inl (fun _ => 0))), (q2, .inl (c2, 512, .inl (fun _ => 0))), (q3, .inl (c3, 512, .inl (fun _ => 0))), (q4, .inl (c4, 512, .inl (fun _ => 0)))] Hp := hP
  have hD : va_D A [(o, .inr (0, [.ref q0, .ref q1, .ref q2, .ref q3, .ref q4, .null, .null, .null, .int 0])), (q0, .inl (c0, 512, .inl (fun _ => 0))), (q1, .inl (c1, 512, .inl (fun _ => 0))), (q2, .inl (c2, 512, .inl (fun _ => 0))), (q3, .inl (c3, 512, .inl (fun _ => 0))), (q4, .inl (c4, 512, .inl (fun _ => 0)))] := hD
  refine lv_aload_n hx hb dX0_init_49 rfl (lv_at hl 0 rfl) ?_
  refine lv_sipush (v := nI 512) hx hb dX0_init_50 (by decide +kernel) ?_
  refine va_newa (atype := .int) (ty := .int) (N' := 512) (a0 := (512, .inl (fun _ => 0))) hx hb (hts (.arrayClass .int) (by decide +kernel)) rfl hK hP hD hS hA (tk_arI 512) (by decide +kernel) (by decide +kernel) (by decide +kernel) (by decide +kernel) (by decide +kernel) dX0_init_53 (fun q5 c5 Hp hK hP hD hS => ?_)
  have hP : va_P (dC, dI) vwCl [(o, .inr (0, [.ref q0, .ref q1, .ref q2, .ref q3, .ref q4, .null, .null, .null, .int 0])), (q0, .inl (c0, 512, .inl (fun _ => 0))), (q1, .inl (c1, 512, .inl (fun _ => 0))), (q2, .inl (c2, 512, .inl (fun _ => 0))), (q3, .inl (c3, 512, .inl (fun _ => 0))), (q4, .inl (c4, 512, .inl (fun _ => 0))), (q5, .inl (c5, 512, .inl (fun _ => 0)))] Hp := hP
  have hD : va_D A [(o, .inr (0, [.ref q0, .ref q1, .ref q2, .ref q3, .ref q4, .null, .null, .null, .int 0])), (q0, .inl (c0, 512, .inl (fun _ => 0))), (q1, .inl (c1, 512, .inl (fun _ => 0))), (q2, .inl (c2, 512, .inl (fun _ => 0))), (q3, .inl (c3, 512, .inl (fun _ => 0))), (q4, .inl (c4, 512, .inl (fun _ => 0))), (q5, .inl (c5, 512, .inl (fun _ => 0)))] := hD
  have hK : va_K (dC, dI) vwCl [(c0, .int), (c1, .int), (c2, .int), (c3, .int), (c4, .int), (c5, .int)] s := hK
  refine W.widen (k := 6) (n := 3072) (by omega) (by omega) ?_
  refine va_putF (D := (dC, dI)) (ci := 0) (v := .ref q5) (ty := .array .int) (C := RX0) (T := TX0) (N := 9) hx hb hts hin0 tyX0 tyX0_ok nmX0 hown hK hP hD hS 0 rfl rfl 5 (by decide) fl25 (fun _ h9 => h9) rfl hin rfl (by decide +kernel) rfl rfl (Nat.le_of_ble_eq_true rfl) dX0_init_55 (fun Hp locs hP hD hS => ?_)
  have hP : va_P (dC, dI) vwCl [(o, .inr (0, [.ref q0, .ref q1, .ref q2, .ref q3, .ref q4, .ref q5, .null, .null, .int 0])), (q0, .inl (c0, 512, .inl (fun _ => 0))), (q1, .inl (c1, 512, .inl (fun _ => 0))), (q2, .inl (c2, 512, .inl (fun _ => 0))), (q3, .inl (c3, 512, .inl (fun _ => 0))), (q4, .inl (c4, 512, .inl (fun _ => 0))), (q5, .inl (c5, 512, .inl (fun _ => 0)))] Hp := hP
  have hD : va_D A [(o, .inr (0, [.ref q0, .ref q1, .ref q2, .ref q3, .ref q4, .ref q5, .null, .null, .int 0])), (q0, .inl (c0, 512, .inl (fun _ => 0))), (q1, .inl (c1, 512, .inl (fun _ => 0))), (q2, .inl (c2, 512, .inl (fun _ => 0))), (q3, .inl (c3, 512, .inl (fun _ => 0))), (q4, .inl (c4, 512, .inl (fun _ => 0))), (q5, .inl (c5, 512, .inl (fun _ => 0)))] := hD
  refine lv_aload_n hx hb dX0_init_58 rfl (lv_at hl 0 rfl) ?_
  refine lv_sipush (v := nI 512) hx hb dX0_init_59 (by decide +kernel) ?_
  refine va_newa (atype := .boolean) (ty := .boolean) (N' := 512) (a0 := (512, .inl (fun _ => 0))) hx hb (hts (.arrayClass .boolean) (by decide +kernel)) rfl hK hP hD hS hA (tk_arZ 512) (by decide +kernel) (by decide +kernel) (by decide +kernel) (by decide +kernel) (by decide +kernel) dX0_init_62 (fun q6 c6 Hp hK hP hD hS => ?_)
  have hP : va_P (dC, dI) vwCl [(o, .inr (0, [.ref q0, .ref q1, .ref q2, .ref q3, .ref q4, .ref q5, .null, .null, .int 0])), (q0, .inl (c0, 512, .inl (fun _ => 0))), (q1, .inl (c1, 512, .inl (fun _ => 0))), (q2, .inl (c2, 512, .inl (fun _ => 0))), (q3, .inl (c3, 512, .inl (fun _ => 0))), (q4, .inl (c4, 512, .inl (fun _ => 0))), (q5, .inl (c5, 512, .inl (fun _ => 0))), (q6, .inl (c6, 512, .inl (fun _ => 0)))] Hp := hP
  have hD : va_D A [(o, .inr (0, [.ref q0, .ref q1, .ref q2, .ref q3, .ref q4, .ref q5, .null, .null, .int 0])), (q0, .inl (c0, 512, .inl (fun _ => 0))), (q1, .inl (c1, 512, .inl (fun _ => 0))), (q2, .inl (c2, 512, .inl (fun _ => 0))), (q3, .inl (c3, 512, .inl (fun _ => 0))), (q4, .inl (c4, 512, .inl (fun _ => 0))), (q5, .inl (c5, 512, .inl (fun _ => 0))), (q6, .inl (c6, 512, .inl (fun _ => 0)))] := hD
  have hK : va_K (dC, dI) vwCl [(c0, .int), (c1, .int), (c2, .int), (c3, .int), (c4, .int), (c5, .int), (c6, .boolean)] s := hK
  refine W.widen (k := 7) (n := 3584) (by omega) (by omega) ?_
  refine va_putF (D := (dC, dI)) (ci := 0) (v := .ref q6) (ty := .array .boolean) (C := RX0) (T := TX0) (N := 9) hx hb hts hin0 tyX0 tyX0_ok nmX0 hown hK hP hD hS 0 rfl rfl 6 (by decide) fl28 (fun _ h9 => h9) rfl hin rfl (by decide +kernel) rfl rfl (Nat.le_of_ble_eq_true rfl) dX0_init_64 (fun Hp locs hP hD hS => ?_)
  have hP : va_P (dC, dI) vwCl [(o, .inr (0, [.ref q0, .ref q1, .ref q2, .ref q3, .ref q4, .ref q5, .ref q6, .null, .int 0])), (q0, .inl (c0, 512, .inl (fun _ => 0))), (q1, .inl (c1, 512, .inl (fun _ => 0))), (q2, .inl (c2, 512, .inl (fun _ => 0))), (q3, .inl (c3, 512, .inl (fun _ => 0))), (q4, .inl (c4, 512, .inl (fun _ => 0))), (q5, .inl (c5, 512, .inl (fun _ => 0))), (q6, .inl (c6, 512, .inl (fun _ => 0)))] Hp := hP
  have hD : va_D A [(o, .inr (0, [.ref q0, .ref q1, .ref q2, .ref q3, .ref q4, .ref q5, .ref q6, .null, .int 0])), (q0, .inl (c0, 512, .inl (fun _ => 0))), (q1, .inl (c1, 512, .inl (fun _ => 0))), (q2, .inl (c2, 512, .inl (fun _ => 0))), (q3, .inl (c3, 512, .inl (fun _ => 0))), (q4, .inl (c4, 512, .inl (fun _ => 0))), (q5, .inl (c5, 512, .inl (fun _ => 0))), (q6, .inl (c6, 512, .inl (fun _ => 0)))] := hD
  refine lv_aload_n hx hb dX0_init_67 rfl (lv_at hl 0 rfl) ?_
  refine lv_bipush (v := nI 7) hx hb dX0_init_68 (by decide +kernel) ?_
  refine va_newa (atype := .int) (ty := .int) (N' := 7) (a0 := (7, .inl (fun _ => 0))) hx hb (hts (.arrayClass .int) (by decide +kernel)) rfl hK hP hD hS hA (tk_arI 7) (by decide +kernel) (by decide +kernel) (by decide +kernel) (by decide +kernel) (by decide +kernel) dX0_init_70 (fun q7 c7 Hp hK hP hD hS => ?_)
  have hP : va_P (dC, dI) vwCl [(o, .inr (0, [.ref q0, .ref q1, .ref q2, .ref q3, .ref q4, .ref q5, .ref q6, .null, .int 0])), (q0, .inl (c0, 512, .inl (fun _ => 0))), (q1, .inl (c1, 512, .inl (fun _ => 0))), (q2, .inl (c2, 512, .inl (fun _ => 0))), (q3, .inl (c3, 512, .inl (fun _ => 0))), (q4, .inl (c4, 512, .inl (fun _ => 0))), (q5, .inl (c5, 512, .inl (fun _ => 0))), (q6, .inl (c6, 512, .inl (fun _ => 0))), (q7, .inl (c7, 7, .inl (fun _ => 0)))] Hp := hP
  have hD : va_D A [(o, .inr (0, [.ref q0, .ref q1, .ref q2, .ref q3, .ref q4, .ref q5, .ref q6, .null, .int 0])), (q0, .inl (c0, 512, .inl (fun _ => 0))), (q1, .inl (c1, 512, .inl (fun _ => 0))), (q2, .inl (c2, 512, .inl (fun _ => 0))), (q3, .inl (c3, 512, .inl (fun _ => 0))), (q4, .inl (c4, 512, .inl (fun _ => 0))), (q5, .inl (c5, 512, .inl (fun _ => 0))), (q6, .inl (c6, 512, .inl (fun _ => 0))), (q7, .inl (c7, 7, .inl (fun _ => 0)))] := hD
  have hK : va_K (dC, dI) vwCl [(c0, .int), (c1, .int), (c2, .int), (c3, .int), (c4, .int), (c5, .int), (c6, .boolean), (c7, .int)] s := hK
  refine W.widen (k := 8) (n := 3591) (by omega) (by omega) ?_
  refine va_putF (D := (dC, dI)) (ci := 0) (v := .ref q7) (ty := .array .int) (C := RX0) (T := TX0) (N := 9) hx hb hts hin0 tyX0 tyX0_ok nmX0 hown hK hP hD hS 0 rfl rfl 7 (by decide) fl32 (fun _ h9 => h9) rfl hin rfl (by decide +kernel) rfl rfl (Nat.le_of_ble_eq_true rfl) dX0_init_72 (fun Hp locs hP hD hS => ?_)
  have hP : va_P (dC, dI) vwCl [(o, .inr (0, [.ref q0, .ref q1, .ref q2, .ref q3, .ref q4, .ref q5, .ref q6, .ref q7, .int 0])), (q0, .inl (c0, 512, .inl (fun _ => 0))), (q1, .inl (c1, 512, .inl (fun _ => 0))), (q2, .inl (c2, 512, .inl (fun _ => 0))), (q3, .inl (c3, 512, .inl (fun _ => 0))), (q4, .inl (c4, 512, .inl (fun _ => 0))), (q5, .inl (c5, 512, .inl (fun _ => 0))), (q6, .inl (c6, 512, .inl (fun _ => 0))), (q7, .inl (c7, 7, .inl (fun _ => 0)))] Hp := hP
  have hD : va_D A [(o, .inr (0, [.ref q0, .ref q1, .ref q2, .ref q3, .ref q4, .ref q5, .ref q6, .ref q7, .int 0])), (q0, .inl (c0, 512, .inl (fun _ => 0))), (q1, .inl (c1, 512, .inl (fun _ => 0))), (q2, .inl (c2, 512, .inl (fun _ => 0))), (q3, .inl (c3, 512, .inl (fun _ => 0))), (q4, .inl (c4, 512, .inl (fun _ => 0))), (q5, .inl (c5, 512, .inl (fun _ => 0))), (q6, .inl (c6, 512, .inl (fun _ => 0))), (q7, .inl (c7, 7, .inl (fun _ => 0)))] := hD
  refine lv_aload_n hx hb dX0_init_75 rfl (lv_at hl 0 rfl) ?_
  refine va_get (D := (dC, dI)) (ci := 0) (v := .ref q0) (C := RX0) (T := TX0) (N := 9) hx hb hts hin0 hown hK hP 0 rfl rfl 0 (by decide) fl9 (fun _ h9 => h9) rfl dX0_init_76 ?_
  refine lv_iconst (v := nI 0) hx hb dX0_init_79 (by decide +kernel) ?_
  refine lv_bipush (v := -2) hx hb dX0_init_80 (by decide +kernel) ?_
  refine tk_sti hx hb hK hP hD hS 1 0 rfl rfl 0 (by decide) (by decide) dX0_init_82 (fun Hp locs hP hD hS => ?_)
  have hP : va_P (dC, dI) vwCl [(o, .inr (0, [.ref q0, .ref q1, .ref q2, .ref q3, .ref q4, .ref q5, .ref q6, .ref q7, .int 0])), (q0, .inl (c0, 512, .inl (upd (fun _ => 0) 0 (-2)))), (q1, .inl (c1, 512, .inl (fun _ => 0))), (q2, .inl (c2, 512, .inl (fun _ => 0))), (q3, .inl (c3, 512, .inl (fun _ => 0))), (q4, .inl (c4, 512, .inl (fun _ => 0))), (q5, .inl (c5, 512, .inl (fun _ => 0))), (q6, .inl (c6, 512, .inl (fun _ => 0))), (q7, .inl (c7, 7, .inl (fun _ => 0)))] Hp := hP
  have hD : va_D A [(o, .inr (0, [.ref q0, .ref q1, .ref q2, .ref q3, .ref q4, .ref q5, .ref q6, .ref q7, .int 0])), (q0, .inl (c0, 512, .inl (upd (fun _ => 0) 0 (-2)))), (q1, .inl (c1, 512, .inl (fun _ => 0))), (q2, .inl (c2, 512, .inl (fun _ => 0))), (q3, .inl (c3, 512, .inl (fun _ => 0))), (q4, .inl (c4, 512, .inl (fun _ => 0))), (q5, .inl (c5, 512, .inl (fun _ => 0))), (q6, .inl (c6, 512, .inl (fun _ => 0))), (q7, .inl (c7, 7, .inl (fun _ => 0)))] := hD
  refine lv_aload_n hx hb dX0_init_83 rfl (lv_at hl 0 rfl) ?_
  refine va_get (D := (dC, dI)) (ci := 0) (v := .ref q4) (C := RX0) (T := TX0) (N := 9) hx hb hts hin0 hown hK hP 0 rfl rfl 4 (by decide) fl22 (fun _ h9 => h9) rfl dX0_init_84 ?_
  refine lv_iconst (v := nI 0) hx hb dX0_init_87 (by decide +kernel) ?_
  refine lv_ldc (v := 32768) hx hb hown kc35 dX0_init_88 ?_
  refine tk_top (y := nI 32768) (by decide +kernel) ?_
  refine tk_sti hx hb hK hP hD hS 5 4 rfl rfl 0 (by decide) (by decide) dX0_init_90 (fun Hp locs hP hD hS => ?_)
  have hP : va_P (dC, dI) vwCl [(o, .inr (0, [.ref q0, .ref q1, .ref q2, .ref q3, .ref q4, .ref q5, .ref q6, .ref q7, .int 0])), (q0, .inl (c0, 512, .inl (upd (fun _ => 0) 0 (-2)))), (q1, .inl (c1, 512, .inl (fun _ => 0))), (q2, .inl (c2, 512, .inl (fun _ => 0))), (q3, .inl (c3, 512, .inl (fun _ => 0))), (q4, .inl (c4, 512, .inl (upd (fun _ => 0) 0 (nI 32768)))), (q5, .inl (c5, 512, .inl (fun _ => 0))), (q6, .inl (c6, 512, .inl (fun _ => 0))), (q7, .inl (c7, 7, .inl (fun _ => 0)))] Hp := hP
  have hD : va_D A [(o, .inr (0, [.ref q0, .ref q1, .ref q2, .ref q3, .ref q4, .ref q5, .ref q6, .ref q7, .int 0])), (q0, .inl (c0, 512, .inl (upd (fun _ => 0) 0 (-2)))), (q1, .inl (c1, 512, .inl (fun _ => 0))), (q2, .inl (c2, 512, .inl (fun _ => 0))), (q3, .inl (c3, 512, .inl (fun _ => 0))), (q4, .inl (c4, 512, .inl (upd (fun _ => 0) 0 (nI 32768)))), (q5, .inl (c5, 512, .inl (fun _ => 0))), (q6, .inl (c6, 512, .inl (fun _ => 0))), (q7, .inl (c7, 7, .inl (fun _ => 0)))] := hD
  refine lv_aload_n hx hb dX0_init_91 rfl (lv_at hl 0 rfl) ?_
  refine lv_iconst (v := nI 1) hx hb dX0_init_92 (by decide +kernel) ?_
  refine va_put (D := (dC, dI)) (ci := 0) (v := .int (nI 1)) (ty := .int) (C := RX0) (T := TX0) (N := 9) hx hb hts hin0 tyX0 tyX0_ok nmX0 hown hK hP hD hS 0 rfl rfl 8 (by decide) fl36 (fun _ h9 => h9) rfl (by decide +kernel) rfl rfl (Nat.le_of_ble_eq_true rfl) dX0_init_93 (fun Hp locs hP hD hS => ?_)
  have hP : va_P (dC, dI) vwCl [(o, .inr (0, [.ref q0, .ref q1, .ref q2, .ref q3, .ref q4, .ref q5, .ref q6, .ref q7, .int (nI 1)])), (q0, .inl (c0, 512, .inl (upd (fun _ => 0) 0 (-2)))), (q1, .inl (c1, 512, .inl (fun _ => 0))), (q2, .inl (c2, 512, .inl (fun _ => 0))), (q3, .inl (c3, 512, .inl (fun _ => 0))), (q4, .inl (c4, 512, .inl (upd (fun _ => 0) 0 (nI 32768)))), (q5, .inl (c5, 512, .inl (fun _ => 0))), (q6, .inl (c6, 512, .inl (fun _ => 0))), (q7, .inl (c7, 7, .inl (fun _ => 0)))] Hp := hP
  have hD : va_D A [(o, .inr (0, [.ref q0, .ref q1, .ref q2, .ref q3, .ref q4, .ref q5, .ref q6, .ref q7, .int (nI 1)])), (q0, .inl (c0, 512, .inl (upd (fun _ => 0) 0 (-2)))), (q1, .inl (c1, 512, .inl (fun _ => 0))), (q2, .inl (c2, 512, .inl (fun _ => 0))), (q3, .inl (c3, 512, .inl (fun _ => 0))), (q4, .inl (c4, 512, .inl (upd (fun _ => 0) 0 (nI 32768)))), (q5, .inl (c5, 512, .inl (fun _ => 0))), (q6, .inl (c6, 512, .inl (fun _ => 0))), (q7, .inl (c7, 7, .inl (fun _ => 0)))] := hD
  exact W.vret hx hb hr (fun t ht hW => ⟨⟨(tk_pk q0 q1 q2 q3 q4 q5 q6 q7, tk_pk c0 c1 c2 c3 c4 c5 c6 c7), rfl, trivial, by rw [ht]; exact hP, va_K.moved hW.alike hK, hD⟩, hS.F ht⟩) hS.2.2 dX0_init_96
set_option maxHeartbeats 4000000 in
set_option maxRecDepth 100000 in
theorem c1_init (l : Launch) (dC : Nat → ClassId) (dI : Nat → Nat → Nat) (o sz : Nat) : Met l yX1_init wsX1_init ({ frames := 1, cells := 8, slots := 3591, locals := 12 }) (tk_Wp (dC, dI) [(o, .inr (1, [.null, .null, .null, .null, .null, .null, .null, .null, .int 0]))] [] sz [.ref o]) (va_Qv (fun _ : (Nat → Nat) × (Nat → ClassId) => True) (fun u t => tk_E (dC, dI) (tk_t1 u.2) (va_A [(o, .inr (1, [.null, .null, .null, .null, .null, .null, .null, .null, .int 0]))] sz) (tk_w1 o u.1 u.2 tk_P0 tk_0 tk_0 tk_G0 (fun _ => 0) tk_0 tk_0 tk_0 1) t) (va_A [(o, .inr (1, [.null, .null, .null, .null, .null, .null, .null, .null, .int 0]))] sz)) 8 3591 (va_A [(o, .inr (1, [.null, .null, .null, .null, .null, .null, .null, .null, .int 0]))] sz) := by
  refine Met.ofW (cc := cX1_init) (maxL := 1) (ret := none) (by decide) rfl ?_
  intro p e s m args below meth c s₁ B hml hv
  obtain ⟨rfl, hsz, hP, hK, hD0⟩ := hv
  have hx := B.exec
  have hb := B.bytes
  have hr := B.returns
  have hts := atoms_spec (ws := wsX1_init) B.pre
  have hown : s.vm.findClass RX1 = some m.cls := findClass_of_methodNamed B.named
  have hlocks := B.notSynchronized
  have hin : meth.name = "<init>" := (name_of_methodNamed B.named B.method).1
  have hin0 : ∀ w ∈ u_ws RX1 TX1 9, w ∈ wsX1_init := by decide +kernel
  have fl9 := hts (.fieldLink RX1 9 "WorkTreeModel" "parent" "[I") (by decide +kernel)
  have fl13 := hts (.fieldLink RX1 13 "WorkTreeModel" "height" "[I") (by decide +kernel)
  have fl16 := hts (.fieldLink RX1 16 "WorkTreeModel" "time" "[I") (by decide +kernel)
  have fl19 := hts (.fieldLink RX1 19 "WorkTreeModel" "target" "[I") (by decide +kernel)
  have fl22 := hts (.fieldLink RX1 22 "WorkTreeModel" "work" "[J") (by decide +kernel)
  have fl26 := hts (.fieldLink RX1 26 "WorkTreeModel" "arrival" "[I") (by decide +kernel)
  have fl29 := hts (.fieldLink RX1 29 "WorkTreeModel" "refused" "[Z") (by decide +kernel)
  have fl33 := hts (.fieldLink RX1 33 "WorkTreeModel" "times" "[I") (by decide +kernel)
  have fl36 := hts (.fieldLink RX1 36 "WorkTreeModel" "count" "I") (by decide +kernel)
  have kc40 := hts (.constant RX1 40 (32768)) (by decide +kernel)
  subst hsz
  have hD := hD0.self (sz := s.heap.size)
  generalize hAe : va_A [(o, .inr (1, [.null, .null, .null, .null, .null, .null, .null, .null, .int 0]))] s.heap.size = A at hD ⊢
  have hA : ∀ q : Nat, s.heap.size ≤ q → A q := fun q h => by rw [← hAe]; exact Or.inr h
  have hS : va_S A s.heap s.heap [] := va_S.rf
  have hl := lv_entry ([.ref o]) (n := 1) (Nat.le_of_ble_eq_true rfl)
  rw [lg_entry_eq]
  generalize (lg_sl ([.ref o]) ++ List.replicate (1 - (lg_sl ([.ref o])).length) Slot.unset).toArray = ls at hl ⊢
  have hl : lv_has ls 1 [(0, .ref o)] := hl
  refine lv_aload_n hx hb dX1_init_0 rfl (lv_at hl 0 rfl) ?_
  refine W.objInit hx hb hown (hts (.methodLink RX1 1 objectInit) (by decide +kernel)) (hts (.instanceMethod objectInit) (by decide +kernel)) (hts (.code objectInit ⟨#[0xb1]⟩ 1 none) (by decide +kernel)) rfl (by rw [hml]; exact hl.1) rfl dX1_init_1 (Nat.le_of_ble_eq_true rfl) (Nat.le_of_ble_eq_true rfl) ?_
  refine W.eq (g2 := F0 m 4 ls []) rfl ?_
  refine lv_aload_n hx hb dX1_init_4 rfl (lv_at hl 0 rfl) ?_
  refine lv_sipush (v := nI 512) hx hb dX1_init_5 (by decide +kernel) ?_
  refine va_newa (atype := .int) (ty := .int) (N' := 512) (a0 := (512, .inl (fun _ => 0))) hx hb (hts (.arrayClass .int) (by decide +kernel)) rfl hK hP hD hS hA (tk_arI 512) (by decide +kernel) (by decide +kernel) (by decide +kernel) (by decide +kernel) (by decide +kernel) dX1_init_8 (fun q0 c0 Hp hK hP hD hS => ?_)
  have hP : va_P (dC, dI) vwCl [(o, .inr (1, [.null, .null, .null, .null, .null, .null, .null, .null, .int 0])), (q0, .inl (c0, 512, .inl (fun _ => 0)))] Hp := hP
  have hD : va_D A [(o, .inr (1, [.null, .null, .null, .null, .null, .null, .null, .null, .int 0])), (q0, .inl (c0, 512, .inl (fun _ => 0)))] := hD
  have hK : va_K (dC, dI) vwCl [(c0, .int)] s := hK
  refine W.widen (k := 1) (n := 512) (by omega) (by omega) ?_
  refine va_putF (D := (dC, dI)) (ci := 1) (v := .ref q0) (ty := .array .int) (C := RX1) (T := TX1) (N := 9) hx hb hts hin0 tyX1 tyX1_ok nmX1 hown hK hP hD hS 0 rfl rfl 0 (by decide) fl9 (fun _ h9 => h9) rfl hin rfl (by decide +kernel) rfl rfl (Nat.le_of_ble_eq_true rfl) dX1_init_10 (fun Hp locs hP hD hS => ?_)
  have hP : va_P (dC, dI) vwCl [(o, .inr (1, [.ref q0, .null, .null, .null, .null, .null, .null, .null, .int 0])), (q0, .inl (c0, 512, .inl (fun _ => 0)))] Hp := hP
  have hD : va_D A [(o, .inr (1, [.ref q0, .null, .null, .null, .null, .null, .null, .null, .int 0])), (q0, .inl (c0, 512, .inl (fun _ => 0)))] := hD
  refine lv_aload_n hx hb dX1_init_13 rfl (lv_at hl 0 rfl) ?_
  refine lv_sipush (v := nI 512) hx hb dX1_init_14 (by decide +kernel) ?_
  refine va_newa (atype := .int) (ty := .int) (N' := 512) (a0 := (512, .inl (fun _ => 0))) hx hb (hts (.arrayClass .int) (by decide +kernel)) rfl hK hP hD hS hA (tk_arI 512) (by decide +kernel) (by decide +kernel) (by decide +kernel) (by decide +kernel) (by decide +kernel) dX1_init_17 (fun q1 c1 Hp hK hP hD hS => ?_)
  have hP : va_P (dC, dI) vwCl [(o, .inr (1, [.ref q0, .null, .null, .null, .null, .null, .null, .null, .int 0])), (q0, .inl (c0, 512, .inl (fun _ => 0))), (q1, .inl (c1, 512, .inl (fun _ => 0)))] Hp := hP
  have hD : va_D A [(o, .inr (1, [.ref q0, .null, .null, .null, .null, .null, .null, .null, .int 0])), (q0, .inl (c0, 512, .inl (fun _ => 0))), (q1, .inl (c1, 512, .inl (fun _ => 0)))] := hD
  have hK : va_K (dC, dI) vwCl [(c0, .int), (c1, .int)] s := hK
  refine W.widen (k := 2) (n := 1024) (by omega) (by omega) ?_
  refine va_putF (D := (dC, dI)) (ci := 1) (v := .ref q1) (ty := .array .int) (C := RX1) (T := TX1) (N := 9) hx hb hts hin0 tyX1 tyX1_ok nmX1 hown hK hP hD hS 0 rfl rfl 1 (by decide) fl13 (fun _ h9 => h9) rfl hin rfl (by decide +kernel) rfl rfl (Nat.le_of_ble_eq_true rfl) dX1_init_19 (fun Hp locs hP hD hS => ?_)
  have hP : va_P (dC, dI) vwCl [(o, .inr (1, [.ref q0, .ref q1, .null, .null, .null, .null, .null, .null, .int 0])), (q0, .inl (c0, 512, .inl (fun _ => 0))), (q1, .inl (c1, 512, .inl (fun _ => 0)))] Hp := hP
  have hD : va_D A [(o, .inr (1, [.ref q0, .ref q1, .null, .null, .null, .null, .null, .null, .int 0])), (q0, .inl (c0, 512, .inl (fun _ => 0))), (q1, .inl (c1, 512, .inl (fun _ => 0)))] := hD
  refine lv_aload_n hx hb dX1_init_22 rfl (lv_at hl 0 rfl) ?_
  refine lv_sipush (v := nI 512) hx hb dX1_init_23 (by decide +kernel) ?_
  refine va_newa (atype := .int) (ty := .int) (N' := 512) (a0 := (512, .inl (fun _ => 0))) hx hb (hts (.arrayClass .int) (by decide +kernel)) rfl hK hP hD hS hA (tk_arI 512) (by decide +kernel) (by decide +kernel) (by decide +kernel) (by decide +kernel) (by decide +kernel) dX1_init_26 (fun q2 c2 Hp hK hP hD hS => ?_)
  have hP : va_P (dC, dI) vwCl [(o, .inr (1, [.ref q0, .ref q1, .null, .null, .null, .null, .null, .null, .int 0])), (q0, .inl (c0, 512, .inl (fun _ => 0))), (q1, .inl (c1, 512, .inl (fun _ => 0))), (q2, .inl (c2, 512, .inl (fun _ => 0)))] Hp := hP
  have hD : va_D A [(o, .inr (1, [.ref q0, .ref q1, .null, .null, .null, .null, .null, .null, .int 0])), (q0, .inl (c0, 512, .inl (fun _ => 0))), (q1, .inl (c1, 512, .inl (fun _ => 0))), (q2, .inl (c2, 512, .inl (fun _ => 0)))] := hD
  have hK : va_K (dC, dI) vwCl [(c0, .int), (c1, .int), (c2, .int)] s := hK
  refine W.widen (k := 3) (n := 1536) (by omega) (by omega) ?_
  refine va_putF (D := (dC, dI)) (ci := 1) (v := .ref q2) (ty := .array .int) (C := RX1) (T := TX1) (N := 9) hx hb hts hin0 tyX1 tyX1_ok nmX1 hown hK hP hD hS 0 rfl rfl 2 (by decide) fl16 (fun _ h9 => h9) rfl hin rfl (by decide +kernel) rfl rfl (Nat.le_of_ble_eq_true rfl) dX1_init_28 (fun Hp locs hP hD hS => ?_)
  have hP : va_P (dC, dI) vwCl [(o, .inr (1, [.ref q0, .ref q1, .ref q2, .null, .null, .null, .null, .null, .int 0])), (q0, .inl (c0, 512, .inl (fun _ => 0))), (q1, .inl (c1, 512, .inl (fun _ => 0))), (q2, .inl (c2, 512, .inl (fun _ => 0)))] Hp := hP
  have hD : va_D A [(o, .inr (1, [.ref q0, .ref q1, .ref q2, .null, .null, .null, .null, .null, .int 0])), (q0, .inl (c0, 512, .inl (fun _ => 0))), (q1, .inl (c1, 512, .inl (fun _ => 0))), (q2, .inl (c2, 512, .inl (fun _ => 0)))] := hD
  refine lv_aload_n hx hb dX1_init_31 rfl (lv_at hl 0 rfl) ?_
  refine lv_sipush (v := nI 512) hx hb dX1_init_32 (by decide +kernel) ?_
  refine va_newa (atype := .int) (ty := .int) (N' := 512) (a0 := (512, .inl (fun _ => 0))) hx hb (hts (.arrayClass .int) (by decide +kernel)) rfl hK hP hD hS hA (tk_arI 512) (by decide +kernel) (by decide +kernel) (by decide +kernel) (by decide +kernel) (by decide +kernel) dX1_init_35 (fun q3 c3 Hp hK hP hD hS => ?_)
  have hP : va_P (dC, dI) vwCl [(o, .inr (1, [.ref q0, .ref q1, .ref q2, .null, .null, .null, .null, .null, .int 0])), (q0, .inl (c0, 512, .inl (fun _ => 0))), (q1, .inl (c1, 512, .inl (fun _ => 0))), (q2, .inl (c2, 512, .inl (fun _ => 0))), (q3, .inl (c3, 512, .inl (fun _ => 0)))] Hp := hP
  have hD : va_D A [(o, .inr (1, [.ref q0, .ref q1, .ref q2, .null, .null, .null, .null, .null, .int 0])), (q0, .inl (c0, 512, .inl (fun _ => 0))), (q1, .inl (c1, 512, .inl (fun _ => 0))), (q2, .inl (c2, 512, .inl (fun _ => 0))), (q3, .inl (c3, 512, .inl (fun _ => 0)))] := hD
  have hK : va_K (dC, dI) vwCl [(c0, .int), (c1, .int), (c2, .int), (c3, .int)] s := hK
  refine W.widen (k := 4) (n := 2048) (by omega) (by omega) ?_
  refine va_putF (D := (dC, dI)) (ci := 1) (v := .ref q3) (ty := .array .int) (C := RX1) (T := TX1) (N := 9) hx hb hts hin0 tyX1 tyX1_ok nmX1 hown hK hP hD hS 0 rfl rfl 3 (by decide) fl19 (fun _ h9 => h9) rfl hin rfl (by decide +kernel) rfl rfl (Nat.le_of_ble_eq_true rfl) dX1_init_37 (fun Hp locs hP hD hS => ?_)
  have hP : va_P (dC, dI) vwCl [(o, .inr (1, [.ref q0, .ref q1, .ref q2, .ref q3, .null, .null, .null, .null, .int 0])), (q0, .inl (c0, 512, .inl (fun _ => 0))), (q1, .inl (c1, 512, .inl (fun _ => 0))), (q2, .inl (c2, 512, .inl (fun _ => 0))), (q3, .inl (c3, 512, .inl (fun _ => 0)))] Hp := hP
  have hD : va_D A [(o, .inr (1, [.ref q0, .ref q1, .ref q2, .ref q3, .null, .null, .null, .null, .int 0])), (q0, .inl (c0, 512, .inl (fun _ => 0))), (q1, .inl (c1, 512, .inl (fun _ => 0))), (q2, .inl (c2, 512, .inl (fun _ => 0))), (q3, .inl (c3, 512, .inl (fun _ => 0)))] := hD
  refine lv_aload_n hx hb dX1_init_40 rfl (lv_at hl 0 rfl) ?_
  refine lv_sipush (v := nI 512) hx hb dX1_init_41 (by decide +kernel) ?_
  refine va_newa (atype := .long) (ty := .long) (N' := 512) (a0 := (512, .inr (.inl (fun _ => 0)))) hx hb (hts (.arrayClass .long) (by decide +kernel)) rfl hK hP hD hS hA (tk_arL 512) (by decide +kernel) (by decide +kernel) (by decide +kernel) (by decide +kernel) (by decide +kernel) dX1_init_44 (fun q4 c4 Hp hK hP hD hS => ?_)
  have hP : va_P (dC, dI) vwCl [(o, .inr (1, [.ref q0, .ref q1, .ref q2, .ref q3, .null, .null, .null, .null, .int 0])), (q0, .inl (c0, 512, .inl (fun _ => 0))), (q1, .inl (c1, 512, .inl (fun _ => 0))), (q2, .inl (c2, 512, .inl (fun _ => 0))), (q3, .inl (c3, 512, .inl (fun _ => 0))), (q4, .inl (c4, 512, .inr (.inl (fun _ => 0))))] Hp := hP
  have hD : va_D A [(o, .inr (1, [.ref q0, .ref q1, .ref q2, .ref q3, .null, .null, .null, .null, .int 0])), (q0, .inl (c0, 512, .inl (fun _ => 0))), (q1, .inl (c1, 512, .inl (fun _ => 0))), (q2, .inl (c2, 512, .inl (fun _ => 0))), (q3, .inl (c3, 512, .inl (fun _ => 0))), (q4, .inl (c4, 512, .inr (.inl (fun _ => 0))))] := hD
  have hK : va_K (dC, dI) vwCl [(c0, .int), (c1, .int), (c2, .int), (c3, .int), (c4, .long)] s := hK
  refine W.widen (k := 5) (n := 2560) (by omega) (by omega) ?_
  refine va_putF (D := (dC, dI)) (ci := 1) (v := .ref q4) (ty := .array .long) (C := RX1) (T := TX1) (N := 9) hx hb hts hin0 tyX1 tyX1_ok nmX1 hown hK hP hD hS 0 rfl rfl 4 (by decide) fl22 (fun _ h9 => h9) rfl hin rfl (by decide +kernel) rfl rfl (Nat.le_of_ble_eq_true rfl) dX1_init_46 (fun Hp locs hP hD hS => ?_)
  have hP : va_P (dC, dI) vwCl [(o, .inr (1, [.ref q0, .ref q1, .ref q2, .ref q3, .ref q4, .null, .null, .null, .int 0])), (q0, .inl (c0, 512, .inl (fun _ => 0))), (q1, .inl (c1, 512, .inl (fun _ => 0))), (q2, .inl (c2, 512, .inl (fun _ => 0))), (q3, .inl (c3, 512, .inl (fun _ => 0))), (q4, .inl (c4, 512, .inr (.inl (fun _ => 0))))] Hp := hP
  have hD : va_D A [(o, .inr (1, [.ref q0, .ref q1, .ref q2, .ref q3, .ref q4, .null, .null, .null, .int 0])), (q0, .inl (c0, 512, .inl (fun _ => 0))), (q1, .inl (c1, 512, .inl (fun _ => 0))), (q2, .inl (c2, 512, .inl (fun _ => 0))), (q3, .inl (c3, 512, .inl (fun _ => 0))), (q4, .inl (c4, 512, .inr (.inl (fun _ => 0))))] := hD
  refine lv_aload_n hx hb dX1_init_49 rfl (lv_at hl 0 rfl) ?_
  refine lv_sipush (v := nI 512) hx hb dX1_init_50 (by decide +kernel) ?_
  refine va_newa (atype := .int) (ty := .int) (N' := 512) (a0 := (512, .inl (fun _ => 0))) hx hb (hts (.arrayClass .int) (by decide +kernel)) rfl hK hP hD hS hA (tk_arI 512) (by decide +kernel) (by decide +kernel) (by decide +kernel) (by decide +kernel) (by decide +kernel) dX1_init_53 (fun q5 c5 Hp hK hP hD hS => ?_)
  have hP : va_P (dC, dI) vwCl [(o, .inr (1, [.ref q0, .ref q1, .ref q2, .ref q3, .ref q4, .null, .null, .null, .int 0])), (q0, .inl (c0, 512, .inl (fun _ => 0))), (q1, .inl (c1, 512, .inl (fun _ => 0))), (q2, .inl (c2, 512, .inl (fun _ => 0))), (q3, .inl (c3, 512, .inl (fun _ => 0))), (q4, .inl (c4, 512, .inr (.inl (fun _ => 0)))), (q5, .inl (c5, 512, .inl (fun _ => 0)))] Hp := hP
  have hD : va_D A [(o, .inr (1, [.ref q0, .ref q1, .ref q2, .ref q3, .ref q4, .null, .null, .null, .int 0])), (q0, .inl (c0, 512, .inl (fun _ => 0))), (q1, .inl (c1, 512, .inl (fun _ => 0))), (q2, .inl (c2, 512, .inl (fun _ => 0))), (q3, .inl (c3, 512, .inl (fun _ => 0))), (q4, .inl (c4, 512, .inr (.inl (fun _ => 0)))), (q5, .inl (c5, 512, .inl (fun _ => 0)))] := hD
  have hK : va_K (dC, dI) vwCl [(c0, .int), (c1, .int), (c2, .int), (c3, .int), (c4, .long), (c5, .int)] s := hK
  refine W.widen (k := 6) (n := 3072) (by omega) (by omega) ?_
  refine va_putF (D := (dC, dI)) (ci := 1) (v := .ref q5) (ty := .array .int) (C := RX1) (T := TX1) (N := 9) hx hb hts hin0 tyX1 tyX1_ok nmX1 hown hK hP hD hS 0 rfl rfl 5 (by decide) fl26 (fun _ h9 => h9) rfl hin rfl (by decide +kernel) rfl rfl (Nat.le_of_ble_eq_true rfl) dX1_init_55 (fun Hp locs hP hD hS => ?_)
  have hP : va_P (dC, dI) vwCl [(o, .inr (1, [.ref q0, .ref q1, .ref q2, .ref q3, .ref q4, .ref q5, .null, .null, .int 0])), (q0, .inl (c0, 512, .inl (fun _ => 0))), (q1, .inl (c1, 512, .inl (fun _ => 0))), (q2, .inl (c2, 512, .inl (fun _ => 0))), (q3, .inl (c3, 512, .inl (fun _ => 0))), (q4, .inl (c4, 512, .inr (.inl (fun _ => 0)))), (q5, .inl (c5, 512, .inl (fun _ => 0)))] Hp := hP
  have hD : va_D A [(o, .inr (1, [.ref q0, .ref q1, .ref q2, .ref q3, .ref q4, .ref q5, .null, .null, .int 0])), (q0, .inl (c0, 512, .inl (fun _ => 0))), (q1, .inl (c1, 512, .inl (fun _ => 0))), (q2, .inl (c2, 512, .inl (fun _ => 0))), (q3, .inl (c3, 512, .inl (fun _ => 0))), (q4, .inl (c4, 512, .inr (.inl (fun _ => 0)))), (q5, .inl (c5, 512, .inl (fun _ => 0)))] := hD
  refine lv_aload_n hx hb dX1_init_58 rfl (lv_at hl 0 rfl) ?_
  refine lv_sipush (v := nI 512) hx hb dX1_init_59 (by decide +kernel) ?_
  refine va_newa (atype := .boolean) (ty := .boolean) (N' := 512) (a0 := (512, .inl (fun _ => 0))) hx hb (hts (.arrayClass .boolean) (by decide +kernel)) rfl hK hP hD hS hA (tk_arZ 512) (by decide +kernel) (by decide +kernel) (by decide +kernel) (by decide +kernel) (by decide +kernel) dX1_init_62 (fun q6 c6 Hp hK hP hD hS => ?_)
  have hP : va_P (dC, dI) vwCl [(o, .inr (1, [.ref q0, .ref q1, .ref q2, .ref q3, .ref q4, .ref q5, .null, .null, .int 0])), (q0, .inl (c0, 512, .inl (fun _ => 0))), (q1, .inl (c1, 512, .inl (fun _ => 0))), (q2, .inl (c2, 512, .inl (fun _ => 0))), (q3, .inl (c3, 512, .inl (fun _ => 0))), (q4, .inl (c4, 512, .inr (.inl (fun _ => 0)))), (q5, .inl (c5, 512, .inl (fun _ => 0))), (q6, .inl (c6, 512, .inl (fun _ => 0)))] Hp := hP
  have hD : va_D A [(o, .inr (1, [.ref q0, .ref q1, .ref q2, .ref q3, .ref q4, .ref q5, .null, .null, .int 0])), (q0, .inl (c0, 512, .inl (fun _ => 0))), (q1, .inl (c1, 512, .inl (fun _ => 0))), (q2, .inl (c2, 512, .inl (fun _ => 0))), (q3, .inl (c3, 512, .inl (fun _ => 0))), (q4, .inl (c4, 512, .inr (.inl (fun _ => 0)))), (q5, .inl (c5, 512, .inl (fun _ => 0))), (q6, .inl (c6, 512, .inl (fun _ => 0)))] := hD
  have hK : va_K (dC, dI) vwCl [(c0, .int), (c1, .int), (c2, .int), (c3, .int), (c4, .long), (c5, .int), (c6, .boolean)] s := hK
  refine W.widen (k := 7) (n := 3584) (by omega) (by omega) ?_
  refine va_putF (D := (dC, dI)) (ci := 1) (v := .ref q6) (ty := .array .boolean) (C := RX1) (T := TX1) (N := 9) hx hb hts hin0 tyX1 tyX1_ok nmX1 hown hK hP hD hS 0 rfl rfl 6 (by decide) fl29 (fun _ h9 => h9) rfl hin rfl (by decide +kernel) rfl rfl (Nat.le_of_ble_eq_true rfl) dX1_init_64 (fun Hp locs hP hD hS => ?_)
  have hP : va_P (dC, dI) vwCl [(o, .inr (1, [.ref q0, .ref q1, .ref q2, .ref q3, .ref q4, .ref q5, .ref q6, .null, .int 0])), (q0, .inl (c0, 512, .inl (fun _ => 0))), (q1, .inl (c1, 512, .inl (fun _ => 0))), (q2, .inl (c2, 512, .inl (fun _ => 0))), (q3, .inl (c3, 512, .inl (fun _ => 0))), (q4, .inl (c4, 512, .inr (.inl (fun _ => 0)))), (q5, .inl (c5, 512, .inl (fun _ => 0))), (q6, .inl (c6, 512, .inl (fun _ => 0)))] Hp := hP
  have hD : va_D A [(o, .inr (1, [.ref q0, .ref q1, .ref q2, .ref q3, .ref q4, .ref q5, .ref q6, .null, .int 0])), (q0, .inl (c0, 512, .inl (fun _ => 0))), (q1, .inl (c1, 512, .inl (fun _ => 0))), (q2, .inl (c2, 512, .inl (fun _ => 0))), (q3, .inl (c3, 512, .inl (fun _ => 0))), (q4, .inl (c4, 512, .inr (.inl (fun _ => 0)))), (q5, .inl (c5, 512, .inl (fun _ => 0))), (q6, .inl (c6, 512, .inl (fun _ => 0)))] := hD
  refine lv_aload_n hx hb dX1_init_67 rfl (lv_at hl 0 rfl) ?_
  refine lv_bipush (v := nI 7) hx hb dX1_init_68 (by decide +kernel) ?_
  refine va_newa (atype := .int) (ty := .int) (N' := 7) (a0 := (7, .inl (fun _ => 0))) hx hb (hts (.arrayClass .int) (by decide +kernel)) rfl hK hP hD hS hA (tk_arI 7) (by decide +kernel) (by decide +kernel) (by decide +kernel) (by decide +kernel) (by decide +kernel) dX1_init_70 (fun q7 c7 Hp hK hP hD hS => ?_)
  have hP : va_P (dC, dI) vwCl [(o, .inr (1, [.ref q0, .ref q1, .ref q2, .ref q3, .ref q4, .ref q5, .ref q6, .null, .int 0])), (q0, .inl (c0, 512, .inl (fun _ => 0))), (q1, .inl (c1, 512, .inl (fun _ => 0))), (q2, .inl (c2, 512, .inl (fun _ => 0))), (q3, .inl (c3, 512, .inl (fun _ => 0))), (q4, .inl (c4, 512, .inr (.inl (fun _ => 0)))), (q5, .inl (c5, 512, .inl (fun _ => 0))), (q6, .inl (c6, 512, .inl (fun _ => 0))), (q7, .inl (c7, 7, .inl (fun _ => 0)))] Hp := hP
  have hD : va_D A [(o, .inr (1, [.ref q0, .ref q1, .ref q2, .ref q3, .ref q4, .ref q5, .ref q6, .null, .int 0])), (q0, .inl (c0, 512, .inl (fun _ => 0))), (q1, .inl (c1, 512, .inl (fun _ => 0))), (q2, .inl (c2, 512, .inl (fun _ => 0))), (q3, .inl (c3, 512, .inl (fun _ => 0))), (q4, .inl (c4, 512, .inr (.inl (fun _ => 0)))), (q5, .inl (c5, 512, .inl (fun _ => 0))), (q6, .inl (c6, 512, .inl (fun _ => 0))), (q7, .inl (c7, 7, .inl (fun _ => 0)))] := hD
  have hK : va_K (dC, dI) vwCl [(c0, .int), (c1, .int), (c2, .int), (c3, .int), (c4, .long), (c5, .int), (c6, .boolean), (c7, .int)] s := hK
  refine W.widen (k := 8) (n := 3591) (by omega) (by omega) ?_
  refine va_putF (D := (dC, dI)) (ci := 1) (v := .ref q7) (ty := .array .int) (C := RX1) (T := TX1) (N := 9) hx hb hts hin0 tyX1 tyX1_ok nmX1 hown hK hP hD hS 0 rfl rfl 7 (by decide) fl33 (fun _ h9 => h9) rfl hin rfl (by decide +kernel) rfl rfl (Nat.le_of_ble_eq_true rfl) dX1_init_72 (fun Hp locs hP hD hS => ?_)
  have hP : va_P (dC, dI) vwCl [(o, .inr (1, [.ref q0, .ref q1, .ref q2, .ref q3, .ref q4, .ref q5, .ref q6, .ref q7, .int 0])), (q0, .inl (c0, 512, .inl (fun _ => 0))), (q1, .inl (c1, 512, .inl (fun _ => 0))), (q2, .inl (c2, 512, .inl (fun _ => 0))), (q3, .inl (c3, 512, .inl (fun _ => 0))), (q4, .inl (c4, 512, .inr (.inl (fun _ => 0)))), (q5, .inl (c5, 512, .inl (fun _ => 0))), (q6, .inl (c6, 512, .inl (fun _ => 0))), (q7, .inl (c7, 7, .inl (fun _ => 0)))] Hp := hP
  have hD : va_D A [(o, .inr (1, [.ref q0, .ref q1, .ref q2, .ref q3, .ref q4, .ref q5, .ref q6, .ref q7, .int 0])), (q0, .inl (c0, 512, .inl (fun _ => 0))), (q1, .inl (c1, 512, .inl (fun _ => 0))), (q2, .inl (c2, 512, .inl (fun _ => 0))), (q3, .inl (c3, 512, .inl (fun _ => 0))), (q4, .inl (c4, 512, .inr (.inl (fun _ => 0)))), (q5, .inl (c5, 512, .inl (fun _ => 0))), (q6, .inl (c6, 512, .inl (fun _ => 0))), (q7, .inl (c7, 7, .inl (fun _ => 0)))] := hD
  refine lv_aload_n hx hb dX1_init_75 rfl (lv_at hl 0 rfl) ?_
  refine lv_iconst (v := nI 1) hx hb dX1_init_76 (by decide +kernel) ?_
  refine va_put (D := (dC, dI)) (ci := 1) (v := .int (nI 1)) (ty := .int) (C := RX1) (T := TX1) (N := 9) hx hb hts hin0 tyX1 tyX1_ok nmX1 hown hK hP hD hS 0 rfl rfl 8 (by decide) fl36 (fun _ h9 => h9) rfl (by decide +kernel) rfl rfl (Nat.le_of_ble_eq_true rfl) dX1_init_77 (fun Hp locs hP hD hS => ?_)
  have hP : va_P (dC, dI) vwCl [(o, .inr (1, [.ref q0, .ref q1, .ref q2, .ref q3, .ref q4, .ref q5, .ref q6, .ref q7, .int (nI 1)])), (q0, .inl (c0, 512, .inl (fun _ => 0))), (q1, .inl (c1, 512, .inl (fun _ => 0))), (q2, .inl (c2, 512, .inl (fun _ => 0))), (q3, .inl (c3, 512, .inl (fun _ => 0))), (q4, .inl (c4, 512, .inr (.inl (fun _ => 0)))), (q5, .inl (c5, 512, .inl (fun _ => 0))), (q6, .inl (c6, 512, .inl (fun _ => 0))), (q7, .inl (c7, 7, .inl (fun _ => 0)))] Hp := hP
  have hD : va_D A [(o, .inr (1, [.ref q0, .ref q1, .ref q2, .ref q3, .ref q4, .ref q5, .ref q6, .ref q7, .int (nI 1)])), (q0, .inl (c0, 512, .inl (fun _ => 0))), (q1, .inl (c1, 512, .inl (fun _ => 0))), (q2, .inl (c2, 512, .inl (fun _ => 0))), (q3, .inl (c3, 512, .inl (fun _ => 0))), (q4, .inl (c4, 512, .inr (.inl (fun _ => 0)))), (q5, .inl (c5, 512, .inl (fun _ => 0))), (q6, .inl (c6, 512, .inl (fun _ => 0))), (q7, .inl (c7, 7, .inl (fun _ => 0)))] := hD
  refine lv_aload_n hx hb dX1_init_80 rfl (lv_at hl 0 rfl) ?_
  refine va_get (D := (dC, dI)) (ci := 1) (v := .ref q0) (C := RX1) (T := TX1) (N := 9) hx hb hts hin0 hown hK hP 0 rfl rfl 0 (by decide) fl9 (fun _ h9 => h9) rfl dX1_init_81 ?_
  refine lv_iconst (v := nI 0) hx hb dX1_init_84 (by decide +kernel) ?_
  refine lv_bipush (v := -2) hx hb dX1_init_85 (by decide +kernel) ?_
  refine tk_sti hx hb hK hP hD hS 1 0 rfl rfl 0 (by decide) (by decide) dX1_init_87 (fun Hp locs hP hD hS => ?_)
  have hP : va_P (dC, dI) vwCl [(o, .inr (1, [.ref q0, .ref q1, .ref q2, .ref q3, .ref q4, .ref q5, .ref q6, .ref q7, .int (nI 1)])), (q0, .inl (c0, 512, .inl (upd (fun _ => 0) 0 (-2)))), (q1, .inl (c1, 512, .inl (fun _ => 0))), (q2, .inl (c2, 512, .inl (fun _ => 0))), (q3, .inl (c3, 512, .inl (fun _ => 0))), (q4, .inl (c4, 512, .inr (.inl (fun _ => 0)))), (q5, .inl (c5, 512, .inl (fun _ => 0))), (q6, .inl (c6, 512, .inl (fun _ => 0))), (q7, .inl (c7, 7, .inl (fun _ => 0)))] Hp := hP
  have hD : va_D A [(o, .inr (1, [.ref q0, .ref q1, .ref q2, .ref q3, .ref q4, .ref q5, .ref q6, .ref q7, .int (nI 1)])), (q0, .inl (c0, 512, .inl (upd (fun _ => 0) 0 (-2)))), (q1, .inl (c1, 512, .inl (fun _ => 0))), (q2, .inl (c2, 512, .inl (fun _ => 0))), (q3, .inl (c3, 512, .inl (fun _ => 0))), (q4, .inl (c4, 512, .inr (.inl (fun _ => 0)))), (q5, .inl (c5, 512, .inl (fun _ => 0))), (q6, .inl (c6, 512, .inl (fun _ => 0))), (q7, .inl (c7, 7, .inl (fun _ => 0)))] := hD
  refine lv_aload_n hx hb dX1_init_88 rfl (lv_at hl 0 rfl) ?_
  refine va_get (D := (dC, dI)) (ci := 1) (v := .ref q3) (C := RX1) (T := TX1) (N := 9) hx hb hts hin0 hown hK hP 0 rfl rfl 3 (by decide) fl19 (fun _ h9 => h9) rfl dX1_init_89 ?_
  refine lv_iconst (v := nI 0) hx hb dX1_init_92 (by decide +kernel) ?_
  refine lv_ldc (v := 32768) hx hb hown kc40 dX1_init_93 ?_
  refine tk_top (y := nI 32768) (by decide +kernel) ?_
  refine tk_sti hx hb hK hP hD hS 4 3 rfl rfl 0 (by decide) (by decide) dX1_init_95 (fun Hp locs hP hD hS => ?_)
  have hP : va_P (dC, dI) vwCl [(o, .inr (1, [.ref q0, .ref q1, .ref q2, .ref q3, .ref q4, .ref q5, .ref q6, .ref q7, .int (nI 1)])), (q0, .inl (c0, 512, .inl (upd (fun _ => 0) 0 (-2)))), (q1, .inl (c1, 512, .inl (fun _ => 0))), (q2, .inl (c2, 512, .inl (fun _ => 0))), (q3, .inl (c3, 512, .inl (upd (fun _ => 0) 0 (nI 32768)))), (q4, .inl (c4, 512, .inr (.inl (fun _ => 0)))), (q5, .inl (c5, 512, .inl (fun _ => 0))), (q6, .inl (c6, 512, .inl (fun _ => 0))), (q7, .inl (c7, 7, .inl (fun _ => 0)))] Hp := hP
  have hD : va_D A [(o, .inr (1, [.ref q0, .ref q1, .ref q2, .ref q3, .ref q4, .ref q5, .ref q6, .ref q7, .int (nI 1)])), (q0, .inl (c0, 512, .inl (upd (fun _ => 0) 0 (-2)))), (q1, .inl (c1, 512, .inl (fun _ => 0))), (q2, .inl (c2, 512, .inl (fun _ => 0))), (q3, .inl (c3, 512, .inl (upd (fun _ => 0) 0 (nI 32768)))), (q4, .inl (c4, 512, .inr (.inl (fun _ => 0)))), (q5, .inl (c5, 512, .inl (fun _ => 0))), (q6, .inl (c6, 512, .inl (fun _ => 0))), (q7, .inl (c7, 7, .inl (fun _ => 0)))] := hD
  exact W.vret hx hb hr (fun t ht hW => ⟨⟨(tk_pk q0 q1 q2 q3 q4 q5 q6 q7, tk_pk c0 c1 c2 c3 c4 c5 c6 c7), rfl, trivial, by rw [ht]; exact hP, va_K.moved hW.alike hK, hD⟩, hS.F ht⟩) hS.2.2 dX1_init_96
end
section
/-! what ties the class to the reference between two calls -/
def tk_inv (aP aH aT aA aG aK aZ : Nat → Int32) (aL : Nat → Int64) (aF : Nat → Int32) (pa he wk : Nat → Nat) (n : Nat) : Prop := tk_I aP aH pa he n ∧ tk_Wk aK wk n ∧ tk_WL aL wk n ∧ tk_G aG n ∧ tk_wI pa aF aZ n ∧ ∀ i, n ≤ i → aF i = 0
theorem tk_inv0 : tk_inv tk_P0 tk_0 tk_0 tk_0 tk_G0 tk_0 tk_0 (fun _ => 0) tk_0 (fun _ => 0) (fun _ => 0) (fun _ => 0) 1 := by
  refine ⟨⟨⟨by decide, by decide⟩, pk_us, rfl, ?_, ?_⟩, ?_, ?_, ?_, ⟨rfl, fun i _ => Or.inl rfl, ?_⟩, fun i _ => rfl⟩
  · intro i hi
    exact ⟨nI_0.symm, Nat.zero_le _⟩
  · intro i h0 hi; omega
  · intro i hi
    exact ⟨nI_0.symm, Nat.zero_le _⟩
  · intro i hi
    exact ⟨(by decide +kernel : (0 : Int64) = lN 0), Nat.zero_le _⟩
  · intro i hi
    obtain rfl : i = 0 := by omega
    exact ⟨32768, by decide, by decide, pk_us⟩
  · intro i h0 hi; omega
theorem tk_upn {f : Nat → Int32} {n i : Nat} {x : Int32} (h : i < n) : upd f n x i = f i := pk_un (by omega)
theorem tk_upLn {f : Nat → Int64} {n i : Nat} {x : Int64} (h : i < n) : vp_updL f n x i = f i := pk_uLn (by omega)
theorem tk_inv_add {aP aH aT aA aG aK aZ : Nat → Int32} {aL : Nat → Int64} {aF : Nat → Int32} {pa he wk : Nat → Nat} {n j g : Nat} {tm ar : Int32} (h : tk_inv aP aH aT aA aG aK aZ aL aF pa he wk n) (hj : j < n) (hn : n < 512) (hg1 : 2048 ≤ g) (hg2 : g ≤ 65535) :
    tk_inv (upd aP n (nI j)) (upd aH n (nI (he j + 1))) (upd aT n tm) (upd aA n ar) (upd aG n (nI g)) (upd aK n (nI (wk j + 16777216 / g))) (upd aZ n (aZ j)) (vp_updL aL n (lN (wk j + 16777216 / g))) aF (fun i => if i = n then j else pa i) (fun i => if i = n then he j + 1 else he i) (fun i => if i = n then wk j + 16777216 / g else wk i) (n + 1) := by
  obtain ⟨hT, hW, hL, hG, hZ, hF⟩ := h
  have hwj := (hW j hj).2
  have hhj := (hT.2.2.2.1 j hj).2
  have h1n := hT.1.1
  have hdiv : 16777216 / g ≤ 8192 := by
    have h1 : 16777216 / g ≤ 16777216 / 2048 := Nat.div_le_div_left hg1 (by decide)
    exact Nat.le_trans h1 (by decide)
  refine ⟨⟨⟨by omega, by omega⟩, ?_, ?_, ?_, ?_⟩, ?_, ?_, ?_, ⟨?_, ?_, ?_⟩, ?_⟩
  · rw [tk_upn (by omega)]; exact hT.2.1
  · show (if 0 = n then he j + 1 else he 0) = 0
    rw [if_neg (by omega)]; exact hT.2.2.1
  · intro i hi
    by_cases e : i = n
    · subst e
      refine ⟨?_, ?_⟩
      · rw [pk_us]; show nI (he j + 1) = nI (if i = i then he j + 1 else he i); rw [if_pos rfl]
      · show (if i = i then he j + 1 else he i) ≤ i; rw [if_pos rfl]; omega
    · refine ⟨?_, ?_⟩
      · rw [tk_upn (by omega)]; show aH i = nI (if i = n then he j + 1 else he i); rw [if_neg e]; exact (hT.2.2.2.1 i (by omega)).1
      · show (if i = n then he j + 1 else he i) ≤ i; rw [if_neg e]; exact (hT.2.2.2.1 i (by omega)).2
  · intro i h0 hi
    by_cases e : i = n
    · subst e
      refine ⟨?_, ?_, ?_⟩
      · rw [pk_us]; show nI j = nI (if i = i then j else pa i); rw [if_pos rfl]
      · show (if i = i then j else pa i) < i; rw [if_pos rfl]; exact hj
      · show (if i = i then he j + 1 else he i) = (if (if i = i then j else pa i) = i then he j + 1 else he (if i = i then j else pa i)) + 1
        rw [if_pos rfl, if_pos rfl, if_neg (by omega)]
    · obtain ⟨u2, u3, u4⟩ := hT.2.2.2.2 i h0 (by omega)
      refine ⟨?_, ?_, ?_⟩
      · rw [tk_upn (by omega)]; show aP i = nI (if i = n then j else pa i); rw [if_neg e]; exact u2
      · show (if i = n then j else pa i) < i; rw [if_neg e]; exact u3
      · show (if i = n then he j + 1 else he i) = (if (if i = n then j else pa i) = n then he j + 1 else he (if i = n then j else pa i)) + 1
        rw [if_neg e, if_neg e, if_neg (by omega)]; exact u4
  · intro i hi
    by_cases e : i = n
    · subst e
      refine ⟨?_, ?_⟩
      · rw [pk_us]; show nI (wk j + 16777216 / g) = nI (if i = i then wk j + 16777216 / g else wk i); rw [if_pos rfl]
      · show (if i = i then wk j + 16777216 / g else wk i) ≤ 8192 * i; rw [if_pos rfl]; omega
    · refine ⟨?_, ?_⟩
      · rw [tk_upn (by omega)]; show aK i = nI (if i = n then wk j + 16777216 / g else wk i); rw [if_neg e]; exact (hW i (by omega)).1
      · show (if i = n then wk j + 16777216 / g else wk i) ≤ 8192 * i; rw [if_neg e]; exact (hW i (by omega)).2
  · intro i hi
    by_cases e : i = n
    · subst e
      refine ⟨?_, ?_⟩
      · rw [pk_uLs]; show lN (wk j + 16777216 / g) = lN (if i = i then wk j + 16777216 / g else wk i); rw [if_pos rfl]
      · show (if i = i then wk j + 16777216 / g else wk i) ≤ 8192 * i; rw [if_pos rfl]; omega
    · refine ⟨?_, ?_⟩
      · rw [tk_upLn (by omega)]; show aL i = lN (if i = n then wk j + 16777216 / g else wk i); rw [if_neg e]; exact (hL i (by omega)).1
      · show (if i = n then wk j + 16777216 / g else wk i) ≤ 8192 * i; rw [if_neg e]; exact (hL i (by omega)).2
  · intro i hi
    by_cases e : i = n
    · subst e; exact ⟨g, hg1, hg2, pk_us⟩
    · rw [tk_upn (by omega)]; exact hG i (by omega)
  · rw [tk_upn (by omega)]; exact hZ.1
  · intro i hi
    by_cases e : i = n
    · subst e; rw [pk_us]; exact hZ.2.1 j hj
    · rw [tk_upn (by omega)]; exact hZ.2.1 i (by omega)
  · intro i h0 hi
    by_cases e : i = n
    · subst e
      show upd aZ i (aZ j) i = if aF i = 0 then upd aZ i (aZ j) (if i = i then j else pa i) else 1
      rw [pk_us, if_pos (hF i (Nat.le_refl _)), if_pos rfl, tk_upn hj]
    · obtain ⟨u2, u3, u4⟩ := hT.2.2.2.2 i h0 (by omega)
      show upd aZ n (aZ j) i = if aF i = 0 then upd aZ n (aZ j) (if i = n then j else pa i) else 1
      rw [if_neg e, tk_upn (by omega), tk_upn (by omega)]; exact hZ.2.2 i h0 (by omega)
  · intro i hi; exact hF i (by omega)
theorem tk_inv_rf {aP aH aT aA aG aK aZ : Nat → Int32} {aL : Nat → Int64} {aF : Nat → Int32} {pa he wk : Nat → Nat} {n j : Nat} (h : tk_inv aP aH aT aA aG aK aZ aL aF pa he wk n) (hj0 : 0 < j) (hj : j < n) :
    tk_inv aP aH aT aA aG aK (tk_rf pa (n - (j + 1)) (j + 1) (upd aZ j 1)) aL (upd aF j 1) pa he wk n := by
  obtain ⟨hT, hW, hL, hG, hZ, hF⟩ := h
  exact ⟨hT, hW, hL, hG, tk_rf_ok (fun i h1 h2 => (hT.2.2.2.2 i h1 h2).2.1) hZ hj0 hj, fun i hi => by rw [pk_un (by omega)]; exact hF i hi⟩
theorem tk_sld {p : Program} {l : Launch} {e : Env} {R : Room} {s : State} {m : MethodId} {args : Array Value} {below : List Frame} {meth : Method} {c : Code} {H : Heap} {locs : List Loc} {cells slots : Nat} {Q : State → Prop} {cc : ByteArray} {pc : Nat} {ls : Array Slot} {rest : List Value} {A : Nat → Prop} {H0 : Heap} {b L : Nat} {xs : Nat → Int32} (hx : p.tables.exec = Jvm.exec) (hb : c.code = cc) (hX : va_X b L xs s H0) (hbl : b < H0.size) (hbA : ¬ A b) (hS : va_S A H0 H locs) (k : Nat) (hk : k < L) (hL : L < 2 ^ 31) (hdg : decode cc pc = .ok (.iaload, 1))
    (kk : W p l e R s m args below meth c H locs cells slots Q (F0 m (pc + 1) ls (.int (xs k) :: rest))) : W p l e R s m args below meth c H locs cells slots Q (F0 m pc ls (.int (nI k) :: .ref b :: rest)) := by
  refine va_sld hx hb hX hbl hbA hS (vp_in_nI hk hL) hdg ?_
  rw [nI_clamp (Nat.lt_trans hk hL)]; exact kk
theorem tk_inc4 (n : Nat) : nI n + Int32.ofInt 4 = nI (n + 4) := by
  rw [show Int32.ofInt 4 = nI 4 from by decide +kernel]; exact nI_add n 4
theorem tk_cmp_same {x y : Int64} (h : x = y) : lg_cmp x y = 0 := by
  subst h; simp [lg_cmp]
end
section
def tk_step (o : Nat) (q : Nat → Nat) (ca : Nat → ClassId) (o1 : Nat) (q1 : Nat → Nat) (cb : Nat → ClassId) (r0 r1 : Int32) (u0 u1 : va_W) : Prop := r0 = r1 ∧ ∃ (aP aH aT aA aG aK aZ aS : Nat → Int32) (aL : Nat → Int64) (aF : Nat → Int32) (n : Nat) (pa he wk : Nat → Nat), tk_inv aP aH aT aA aG aK aZ aL aF pa he wk n ∧ u0 = tk_w0 o q ca aP aH aT aA aG aK aZ aS n ∧ u1 = tk_w1 o1 q1 cb aP aH aT aG aL aA aF aS n
theorem tk_st_md {o o1 : Nat} {q q1 : Nat → Nat} {ca cb : Nat → ClassId} {aP aH aT aA aG aK aZ aS : Nat → Int32} {aL : Nat → Int64} {aF : Nat → Int32} {n : Nat} {pa he wk : Nat → Nat} {r0 r1 : Int32} {u0 u1 : va_W} {b : Int32} (h : tk_inv aP aH aT aA aG aK aZ aL aF pa he wk n) (h0 : (fun (r : Int32) (u : va_W) => r = tk_pb n b (fun j => tk_med pa he aT j aS) ∧ u = tk_w0 o q ca aP aH aT aA aG aK aZ (tk_mb pa he aT n b aS) n) r0 u0) (h1 : (fun (r : Int32) (u : va_W) => r = tk_pb n b (fun j => tk_med pa he aT j aS) ∧ u = tk_w1 o1 q1 cb aP aH aT aG aL aA aF (tk_mb pa he aT n b aS) n) r1 u1) : tk_step o q ca o1 q1 cb r0 r1 u0 u1 := by
  obtain ⟨e0, w0⟩ := h0
  obtain ⟨e1, w1⟩ := h1
  exact ⟨e0.trans e1.symm, aP, aH, aT, aA, aG, aK, aZ, _, aL, aF, n, pa, he, wk, h, w0, w1⟩
theorem tk_st_rf {o o1 : Nat} {q q1 : Nat → Nat} {ca cb : Nat → ClassId} {aP aH aT aA aG aK aZ aS : Nat → Int32} {aL : Nat → Int64} {aF : Nat → Int32} {n : Nat} {pa he wk : Nat → Nat} {r0 r1 : Int32} {u0 u1 : va_W} {b : Int32} (h : tk_inv aP aH aT aA aG aK aZ aL aF pa he wk n) (h0 : (fun (r : Int32) (u : va_W) => ((tk_ex n b = 0 ∨ b = 0) ∧ r = -1 ∧ u = tk_w0 o q ca aP aH aT aA aG aK aZ aS n) ∨ (∃ j, 0 < j ∧ j < n ∧ b = nI j ∧ r = nI (tk_best (tk_rf pa (n - (j + 1)) (j + 1) (upd aZ j 1)) aA wk n) ∧ u = tk_w0 o q ca aP aH aT aA aG aK (tk_rf pa (n - (j + 1)) (j + 1) (upd aZ j 1)) aS n)) r0 u0) (h1 : (fun (r : Int32) (u : va_W) => ((tk_ex n b = 0 ∨ b = 0) ∧ r = -1 ∧ u = tk_w1 o1 q1 cb aP aH aT aG aL aA aF aS n) ∨ (∃ j, 0 < j ∧ j < n ∧ b = nI j ∧ r = nI (tk_best (tk_rf pa (n - (j + 1)) (j + 1) (upd aZ j 1)) aA wk n) ∧ u = tk_w1 o1 q1 cb aP aH aT aG aL aA (upd aF j 1) aS n)) r1 u1) : tk_step o q ca o1 q1 cb r0 r1 u0 u1 := by
  have hn := h.1.1.2
  rcases h0 with ⟨x0, e0, w0⟩ | ⟨j, hj0, hj, ej, e0, w0⟩
  · rcases h1 with ⟨x1, e1, w1⟩ | ⟨k, hk0, hk, ek, e1, w1⟩
    · exact ⟨e0.trans e1.symm, aP, aH, aT, aA, aG, aK, aZ, aS, aL, aF, n, pa, he, wk, h, w0, w1⟩
    · exfalso
      subst ek
      rcases x0 with x0 | x0
      · exact tk_exn hn hk x0
      · have := (tk_eq0 (by omega)).mp x0; omega
  · rcases h1 with ⟨x1, e1, w1⟩ | ⟨k, hk0, hk, ek, e1, w1⟩
    · exfalso
      subst ej
      rcases x1 with x1 | x1
      · exact tk_exn hn hj x1
      · have := (tk_eq0 (by omega)).mp x1; omega
    · have hjk : j = k := (nI_eq (by omega) (by omega)).mp (ej.symm.trans ek)
      subst hjk
      exact ⟨e0.trans e1.symm, aP, aH, aT, aA, aG, aK, _, aS, aL, _, n, pa, he, wk, tk_inv_rf h hj0 hj, w0, w1⟩
theorem tk_st_add {o o1 : Nat} {q q1 : Nat → Nat} {ca cb : Nat → ClassId} {aP aH aT aA aG aK aZ aS : Nat → Int32} {aL : Nat → Int64} {aF : Nat → Int32} {n : Nat} {pa he wk : Nat → Nat} {r0 r1 : Int32} {u0 u1 : va_W} {b tm ar : Int32} (h : tk_inv aP aH aT aA aG aK aZ aL aF pa he wk n) (h0 : (fun (r : Int32) (u : va_W) => (tk_ex n b = 0 ∧ r = -1 ∧ u = tk_w0 o q ca aP aH aT aA aG aK aZ aS n) ∨ (∃ j, j < n ∧ b = nI j ∧ (((tm ≤ tk_med pa he aT j aS ∨ ¬ 0 ≤ ar) ∧ r = -1 ∧ u = tk_w0 o q ca aP aH aT aA aG aK aZ (tk_mS pa he aT j aS) n) ∨ ((¬ tm ≤ tk_med pa he aT j aS ∧ 0 ≤ ar) ∧ ((n = 512 ∧ r = -3 ∧ u = tk_w0 o q ca aP aH aT aA aG aK aZ (tk_mS pa he aT j aS) n) ∨ (n < 512 ∧ r = nI n ∧ ∃ g, 2048 ≤ g ∧ g ≤ 65535 ∧ tk_tb pa he aT aG j = nI g ∧ u = tk_w0 o q ca (upd aP n (nI j)) (upd aH n (nI (he j + 1))) (upd aT n tm) (upd aA n ar) (upd aG n (nI g)) (upd aK n (nI (wk j + 16777216 / g))) (upd aZ n (aZ j)) (tk_mS pa he aT j aS) (n + 1))))))) r0 u0) (h1 : (fun (r : Int32) (u : va_W) => (tk_ex n b = 0 ∧ r = -1 ∧ u = tk_w1 o1 q1 cb aP aH aT aG aL aA aF aS n) ∨ (∃ j, j < n ∧ b = nI j ∧ (((tm ≤ tk_med pa he aT j aS ∨ ¬ 0 ≤ ar) ∧ r = -1 ∧ u = tk_w1 o1 q1 cb aP aH aT aG aL aA aF (tk_mS pa he aT j aS) n) ∨ ((¬ tm ≤ tk_med pa he aT j aS ∧ 0 ≤ ar) ∧ ((n = 512 ∧ r = -3 ∧ u = tk_w1 o1 q1 cb aP aH aT aG aL aA aF (tk_mS pa he aT j aS) n) ∨ (n < 512 ∧ r = nI n ∧ ∃ g, 2048 ≤ g ∧ g ≤ 65535 ∧ tk_tb pa he aT aG j = nI g ∧ u = tk_w1 o1 q1 cb (upd aP n (nI j)) (upd aH n (nI (he j + 1))) (upd aT n tm) (upd aG n (nI g)) (vp_updL aL n (lN (wk j + 16777216 / g))) (upd aA n ar) aF (tk_mS pa he aT j aS) (n + 1))))))) r1 u1) : tk_step o q ca o1 q1 cb r0 r1 u0 u1 := by
  have hn := h.1.1.2
  rcases h0 with ⟨x0, e0, w0⟩ | ⟨j, hj, ej, h0⟩
  · rcases h1 with ⟨x1, e1, w1⟩ | ⟨k, hk, ek, h1⟩
    · exact ⟨e0.trans e1.symm, aP, aH, aT, aA, aG, aK, aZ, aS, aL, aF, n, pa, he, wk, h, w0, w1⟩
    · exfalso
      subst ek
      exact tk_exn hn hk x0
  · rcases h1 with ⟨x1, e1, w1⟩ | ⟨k, hk, ek, h1⟩
    · exfalso
      subst ej
      exact tk_exn hn hj x1
    · have hjk : j = k := (nI_eq (by omega) (by omega)).mp (ej.symm.trans ek)
      subst hjk
      rcases h0 with ⟨c0, e0, w0⟩ | ⟨⟨c0, d0⟩, h0⟩
      · rcases h1 with ⟨c1, e1, w1⟩ | ⟨⟨c1, d1⟩, h1⟩
        · exact ⟨e0.trans e1.symm, aP, aH, aT, aA, aG, aK, aZ, _, aL, aF, n, pa, he, wk, h, w0, w1⟩
        · exfalso
          rcases c0 with c0 | c0
          · exact c1 c0
          · exact c0 d1
      · rcases h1 with ⟨c1, e1, w1⟩ | ⟨⟨c1, d1⟩, h1⟩
        · exfalso
          rcases c1 with c1 | c1
          · exact c0 c1
          · exact c1 d0
        · rcases h0 with ⟨n0, e0, w0⟩ | ⟨n0, e0, g, g1, g2, g3, w0⟩
          · rcases h1 with ⟨n1, e1, w1⟩ | ⟨n1, e1, k, k1, k2, k3, w1⟩
            · exact ⟨e0.trans e1.symm, aP, aH, aT, aA, aG, aK, aZ, _, aL, aF, n, pa, he, wk, h, w0, w1⟩
            · omega
          · rcases h1 with ⟨n1, e1, w1⟩ | ⟨n1, e1, k, k1, k2, k3, w1⟩
            · omega
            · have hgk : g = k := (nI_eq (by omega) (by omega)).mp (g3.symm.trans k3)
              subst hgk
              exact ⟨e0.trans e1.symm, _, _, _, _, _, _, _, _, _, _, _, _, _, _, tk_inv_add h hj n0 g1 g2, w0, w1⟩
end
section
/-! THE CLAIM OUT OF ONE WALK OF THE LAW'S BODY. Your part is whole_start (and what it stands on); all else here is the same for every law, but numbers. -/
def R_law : String := "WorkTreeLaw"
def lw_P (b : Addr) (xs : List Int32) (args : Array Value) (s : State) : Prop := args = #[.ref b] ∧ s.IntsAt b xs ∧ xs.length ≤ 2048 ∧ (Jvm.Cond.and given_1 narrow_1).before args s = true
def lw_Q (_ : Array Value) (s : State) (o : Outcome) (t : State) : Prop := o = .returned (some (.int 1)) ∧ Framed s o t [] 18 7200
def lw_Z (below : List Frame) (a : Array Value) (s : State) : State → Prop := fun t => ∃ o, t.status = .running ∧ Ended t below o ∧ lw_Q a s o t
/-- the law's own end, with 1 on the stack, nothing written that was there before, its room as the claim has it -/
theorem lw_ret {p : Program} {l : Launch} {e : Env} {s : State} {m : MethodId} {below : List Frame} {meth : Method} {c : Code} {b : Nat} (hx : p.tables.exec = Jvm.exec) (hb : c.code = code) (hr : meth.sig.returnType = ret) (hlocks : meth.locks = false) {pc : Nat} {H : Heap} {ls : Array Slot} (hdg : decode code pc = .ok (.ireturn, 1)) : W p l e room_1 s m #[Value.ref b] below meth c H [] 18 7200 (lw_Z below #[Value.ref b] s) (F0 m pc ls [.int 1]) := by
  intro T hT X
  obtain ⟨fs, hret, hrun, hended, hW, hframe⟩ := X.leave (v := some (.int 1)) (hlocks := hlocks) (fun h => by rw [hr] at h; cases h)
  have hmeth' : T.vm.method? m = some meth := X.method'
  refine ⟨T.setFrames fs, ?_, .returned (some (.int 1)), hrun, hended, rfl, ⟨_, rfl⟩, hW, hframe⟩
  jvm_step X.here [X.here.top, hx, hb, hdg, hmeth', hr, ret, narrow_b1]
  (try refine ⟨rfl, ?_⟩); (try refine ⟨rfl, ?_⟩)
  first | (intro acts; rw [hret _ acts rfl rfl rfl]) | rw [hret _ _ rfl rfl rfl]
  exact Steps.refl _
/-- what holds at the law's entry: the machine, the code, the tables' words (any of lw_tbl by 'hts w (by decide +kernel)'), the script of L ints xs at the cell b, what the Statement gives of the start (any of its parts by flat_of_before) -/
def lw_At (p : Program) (s : State) (m : MethodId) (meth : Method) (c : Code) (b L : Nat) (xs : Nat → Int32) : Prop :=
  p.tables.exec = Jvm.exec ∧ c.code = code ∧ meth.sig.returnType = ret ∧ c.maxLocals = 4 ∧ s.vm.findClass R_law = some m.cls ∧ (∀ w ∈ lw_tbl, w.before #[Value.ref b] s = true) ∧ va_X b L xs s s.heap ∧ b < s.heap.size ∧ meth.locks = false ∧ (Jvm.Cond.and given_1 narrow_1).before #[Value.ref b] s = true
end
section
set_option maxHeartbeats 4000000 in
set_option maxRecDepth 100000 in
theorem tk_law_add {p : Program} {e : Env} {s : State} {m : MethodId} {below : List Frame} {meth : Method} {c : Code} (l : Launch) {b L : Nat} {xs : Nat → Int32} (hL : L ≤ 2048) (C0 : lw_At p s m meth c b L xs) (dC : Nat → ClassId) (dI : Nat → Nat → Nat) (o0 : Nat) (q : Nat → Nat) (ca : Nat → ClassId) (o1 : Nat) (q1 : Nat → Nat) (cb : Nat → ClassId) (hK : va_K (dC, dI) vwCl (tk_t0 ca ++ tk_t1 cb) s) (A : Nat → Prop) (hA : ∀ x, s.heap.size ≤ x → A x) (hA2 : ∀ x, A x → s.heap.size ≤ x) (i k : Nat) (ih : ∀ (i : Nat) (aP aH aT aA aG aK aZ aS : Nat → Int32) (aL : Nat → Int64) (aF : Nat → Int32) (n : Nat) (pa he wk : Nat → Nat) (Hp : Heap) (locs : List Loc) (ls : Array Slot), L ≤ i + k → i ≤ 2060 → tk_inv aP aH aT aA aG aK aZ aL aF pa he wk n → va_P (dC, dI) vwCl (tk_w0 o0 q ca aP aH aT aA aG aK aZ aS n ++ tk_w1 o1 q1 cb aP aH aT aG aL aA aF aS n) Hp → va_D A (tk_w0 o0 q ca aP aH aT aA aG aK aZ aS n ++ tk_w1 o1 q1 cb aP aH aT aG aL aA aF aS n) → va_S A s.heap Hp locs → lv_has ls 4 [(3, .int (nI i)), (2, .ref o1), (1, .ref o0), (0, .ref b)] → W p l e room_1 s m #[Value.ref b] below meth c Hp locs 18 7200 (lw_Z below #[Value.ref b] s) (F0 m 18 ls [])) (aP aH aT aA aG aK aZ aS : Nat → Int32) (aL : Nat → Int64) (aF : Nat → Int32) (n : Nat) (pa he wk : Nat → Nat) (Hp : Heap) (locs : List Loc) (ls : Array Slot) (hk : L ≤ i + (k + 1)) (hi : i + 4 ≤ L) (hinv : tk_inv aP aH aT aA aG aK aZ aL aF pa he wk n) (hP : va_P (dC, dI) vwCl (tk_w0 o0 q ca aP aH aT aA aG aK aZ aS n ++ tk_w1 o1 q1 cb aP aH aT aG aL aA aF aS n) Hp) (hD : va_D A (tk_w0 o0 q ca aP aH aT aA aG aK aZ aS n ++ tk_w1 o1 q1 cb aP aH aT aG aL aA aF aS n)) (hS : va_S A s.heap Hp locs) (hl : lv_has ls 4 [(3, .int (nI i)), (2, .ref o1), (1, .ref o0), (0, .ref b)]) : W p l e room_1 s m #[Value.ref b] below meth c Hp locs 18 7200 (lw_Z below #[Value.ref b] s) (F0 m 84 ls []) := by
  obtain ⟨hx, hb, hr, hml, hown, hts0, hX, hbl, hlocks, hgv⟩ := C0
  have hts := fun w h => hts0 w (wsL_law_in w h)
  have hown : s.vm.findClass RL = some m.cls := hown
  have hbA : ¬ A b := fun h => absurd hbl (Nat.not_lt.mpr (hA2 _ h))
  have hK0 := hK.sub (tys' := tk_t0 ca) [0, 1, 2, 3, 4, 5, 6, 7] rfl
  have hK1 := hK.sub (tys' := tk_t1 cb) [8, 9, 10, 11, 12, 13, 14, 15] rfl
  have hinv0 := hinv
  obtain ⟨hT, hW, hL0, hG, hZ, hF⟩ := hinv0
  have hn := hT.1.2
  have hn1 := hT.1.1
  have hP0 : va_P (dC, dI) vwCl (tk_w0 o0 q ca aP aH aT aA aG aK aZ aS n) Hp := hP.sub [0, 1, 2, 3, 4, 5, 6, 7, 8] rfl
  have hP1 : va_P (dC, dI) vwCl (tk_w1 o1 q1 cb aP aH aT aG aL aA aF aS n) Hp := hP.sub [9, 10, 11, 12, 13, 14, 15, 16, 17] rfl
  refine lv_aload_n hx hb dL_law_84 rfl (lv_at hl 2 rfl) ?_
  refine lv_aload_n hx hb dL_law_85 rfl (lv_at hl 3 rfl) ?_
  refine lv_iload_n hx hb dL_law_86 rfl (lv_at hl 0 rfl) ?_
  refine lv_iconst (v := nI 1) hx hb dL_law_87 (by decide +kernel) ?_
  refine lv_iadd hx hb dL_law_88 ?_
  refine tk_top (y := nI (i + 1)) (nI_add i 1) ?_
  refine tk_sld hx hb hX hbl hbA hS (i + 1) (by omega) (by omega) dL_law_89 ?_
  refine lv_aload_n hx hb dL_law_90 rfl (lv_at hl 3 rfl) ?_
  refine lv_iload_n hx hb dL_law_91 rfl (lv_at hl 0 rfl) ?_
  refine lv_iconst (v := nI 2) hx hb dL_law_92 (by decide +kernel) ?_
  refine lv_iadd hx hb dL_law_93 ?_
  refine tk_top (y := nI (i + 2)) (nI_add i 2) ?_
  refine tk_sld hx hb hX hbl hbA hS (i + 2) (by omega) (by omega) dL_law_94 ?_
  refine lv_aload_n hx hb dL_law_95 rfl (lv_at hl 3 rfl) ?_
  refine lv_iload_n hx hb dL_law_96 rfl (lv_at hl 0 rfl) ?_
  refine lv_iconst (v := nI 3) hx hb dL_law_97 (by decide +kernel) ?_
  refine lv_iadd hx hb dL_law_98 ?_
  refine tk_top (y := nI (i + 3)) (nI_add i 3) ?_
  refine tk_sld hx hb hX hbl hbA hS (i + 3) (by omega) (by omega) dL_law_99 ?_
  have hFc := va_free (wc := tk_w0 o0 q ca aP aH aT aA aG aK aZ aS n) hD hS hA [0, 1, 2, 3, 4, 5, 6, 7, 8] rfl
  refine va_calli (va_runV (As := [.int (xs (i + 1)), .int (xs (i + 2)), .int (xs (i + 3))]) (rest := []) ⟨hx, hb, hml, hown, hts⟩ (c0_add l dC dI o0 q ca aP aH aT aA aG aK aZ aS n _ pa he hT wk hW hG hZ.2.1 (xs (i + 1)) (xs (i + 2)) (xs (i + 3))) (cwV 3 hts gL_law_X0_add rfl rfl rfl (by decide +kernel) ⟨Nat.le_of_ble_eq_true rfl, Nat.le_of_ble_eq_true rfl⟩) (tk_preW hK0 hP0 (hD.sub (ws' := tk_w0 o0 q ca aP aH aT aA aG aK aZ aS n) [0, 1, 2, 3, 4, 5, 6, 7, 8] (by decide) rfl) rfl rfl) rfl rfl hl.1 rfl (lv_room (Nat.le_of_ble_eq_true rfl)) dL_law_100 ⟨Nat.le_of_ble_eq_true rfl, Nat.le_of_ble_eq_true rfl⟩) hS (fun q9 _ h9 => hFc q9 h9) hFc (fun r0 u0 t0 Hp2 locs ht0 hvm0 hr0 hB0 hz0 hk0 hS => ?_)
  obtain ⟨hP9, hK9, hD9⟩ := hB0
  rw [ht0] at hP9
  obtain ⟨hP2, hD2⟩ := va_join (wr := tk_w1 o1 q1 cb aP aH aT aG aL aA aF aS n) (w1 := u0) hP hD [0, 1, 2, 3, 4, 5, 6, 7, 8] [9, 10, 11, 12, 13, 14, 15, 16, 17] rfl rfl (by decide) (by decide) hk0 hFc hP9 hD9
  have hP1 : va_P (dC, dI) vwCl (tk_w1 o1 q1 cb aP aH aT aG aL aA aF aS n) Hp2 := hP2.sub [0, 1, 2, 3, 4, 5, 6, 7, 8] rfl
  refine lv_aload_n hx hb dL_law_103 rfl (lv_at hl 1 rfl) ?_
  refine lv_aload_n hx hb dL_law_104 rfl (lv_at hl 3 rfl) ?_
  refine lv_iload_n hx hb dL_law_105 rfl (lv_at hl 0 rfl) ?_
  refine lv_iconst (v := nI 1) hx hb dL_law_106 (by decide +kernel) ?_
  refine lv_iadd hx hb dL_law_107 ?_
  refine tk_top (y := nI (i + 1)) (nI_add i 1) ?_
  refine tk_sld hx hb hX hbl hbA hS (i + 1) (by omega) (by omega) dL_law_108 ?_
  refine lv_aload_n hx hb dL_law_109 rfl (lv_at hl 3 rfl) ?_
  refine lv_iload_n hx hb dL_law_110 rfl (lv_at hl 0 rfl) ?_
  refine lv_iconst (v := nI 2) hx hb dL_law_111 (by decide +kernel) ?_
  refine lv_iadd hx hb dL_law_112 ?_
  refine tk_top (y := nI (i + 2)) (nI_add i 2) ?_
  refine tk_sld hx hb hX hbl hbA hS (i + 2) (by omega) (by omega) dL_law_113 ?_
  refine lv_aload_n hx hb dL_law_114 rfl (lv_at hl 3 rfl) ?_
  refine lv_iload_n hx hb dL_law_115 rfl (lv_at hl 0 rfl) ?_
  refine lv_iconst (v := nI 3) hx hb dL_law_116 (by decide +kernel) ?_
  refine lv_iadd hx hb dL_law_117 ?_
  refine tk_top (y := nI (i + 3)) (nI_add i 3) ?_
  refine tk_sld hx hb hX hbl hbA hS (i + 3) (by omega) (by omega) dL_law_118 ?_
  have hFc1 := va_free (wc := tk_w1 o1 q1 cb aP aH aT aG aL aA aF aS n) hD2 hS hA [0, 1, 2, 3, 4, 5, 6, 7, 8] rfl
  refine va_calli (va_runV (As := [.int (xs (i + 1)), .int (xs (i + 2)), .int (xs (i + 3))]) (rest := [.int r0]) ⟨hx, hb, hml, hown, hts⟩ (c1_add l dC dI o1 q1 cb aP aH aT aG aL aA aF aS n _ pa he hT wk hL0 hG (xs (i + 1)) (xs (i + 2)) (xs (i + 3))) (cwV 3 hts gL_law_X1_add rfl rfl rfl (by decide +kernel) ⟨Nat.le_of_ble_eq_true rfl, Nat.le_of_ble_eq_true rfl⟩) (tk_preW hK1 hP1 (hD2.sub (ws' := tk_w1 o1 q1 cb aP aH aT aG aL aA aF aS n) [0, 1, 2, 3, 4, 5, 6, 7, 8] (by decide) rfl) rfl rfl) rfl rfl hl.1 rfl (lv_room (Nat.le_of_ble_eq_true rfl)) dL_law_119 ⟨Nat.le_of_ble_eq_true rfl, Nat.le_of_ble_eq_true rfl⟩) hS (fun q9 _ h9 => hFc1 q9 h9) hFc1 (fun r1 u1 t1 Hp3 locs ht1 hvm1 hr1 hB1 hz1 hk1 hS => ?_)
  obtain ⟨hP8, hK8, hD8⟩ := hB1
  rw [ht1] at hP8
  obtain ⟨hrr, aP2, aH2, aT2, aA2, aG2, aK2, aZ2, aS2, aL2, aF2, n2, pa2, he2, wk2, hinv2, rfl, rfl⟩ := tk_st_add hinv hr0 hr1
  obtain ⟨hP3, hD3⟩ := va_join (wr := tk_w0 o0 q ca aP2 aH2 aT2 aA2 aG2 aK2 aZ2 aS2 n2) (w1 := tk_w1 o1 q1 cb aP2 aH2 aT2 aG2 aL2 aA2 aF2 aS2 n2) hP2 hD2 [0, 1, 2, 3, 4, 5, 6, 7, 8] [9, 10, 11, 12, 13, 14, 15, 16, 17] rfl rfl (by decide) (by decide) hk1 hFc1 hP8 hD8
  refine lv_icmp_eq (tgt := 322) hx hb dL_law_122 (by decide) (fun hc122 => ?_) (fun hc122 => ?_)
  · refine lv_iinc (k := 0) (v := nI (i + 4)) hx hb dL_law_322 hl rfl (tk_inc4 i) (by decide) rfl (fun ls hl => ?_)
    have hl : lv_has ls 4 [(3, .int (nI (i + 4))), (2, .ref o1), (1, .ref o0), (0, .ref b)] := hl
    refine lv_goto (tgt := 18) hx hb dL_law_325 (by decide) ?_
    exact ih (i + 4) aP2 aH2 aT2 aA2 aG2 aK2 aZ2 aS2 aL2 aF2 n2 pa2 he2 wk2 Hp3 locs ls (by omega) (by omega) hinv2 hP3 hD3 hS hl
  · exact absurd hrr hc122
set_option maxHeartbeats 4000000 in
set_option maxRecDepth 100000 in
theorem tk_law_refuse {p : Program} {e : Env} {s : State} {m : MethodId} {below : List Frame} {meth : Method} {c : Code} (l : Launch) {b L : Nat} {xs : Nat → Int32} (hL : L ≤ 2048) (C0 : lw_At p s m meth c b L xs) (dC : Nat → ClassId) (dI : Nat → Nat → Nat) (o0 : Nat) (q : Nat → Nat) (ca : Nat → ClassId) (o1 : Nat) (q1 : Nat → Nat) (cb : Nat → ClassId) (hK : va_K (dC, dI) vwCl (tk_t0 ca ++ tk_t1 cb) s) (A : Nat → Prop) (hA : ∀ x, s.heap.size ≤ x → A x) (hA2 : ∀ x, A x → s.heap.size ≤ x) (i k : Nat) (ih : ∀ (i : Nat) (aP aH aT aA aG aK aZ aS : Nat → Int32) (aL : Nat → Int64) (aF : Nat → Int32) (n : Nat) (pa he wk : Nat → Nat) (Hp : Heap) (locs : List Loc) (ls : Array Slot), L ≤ i + k → i ≤ 2060 → tk_inv aP aH aT aA aG aK aZ aL aF pa he wk n → va_P (dC, dI) vwCl (tk_w0 o0 q ca aP aH aT aA aG aK aZ aS n ++ tk_w1 o1 q1 cb aP aH aT aG aL aA aF aS n) Hp → va_D A (tk_w0 o0 q ca aP aH aT aA aG aK aZ aS n ++ tk_w1 o1 q1 cb aP aH aT aG aL aA aF aS n) → va_S A s.heap Hp locs → lv_has ls 4 [(3, .int (nI i)), (2, .ref o1), (1, .ref o0), (0, .ref b)] → W p l e room_1 s m #[Value.ref b] below meth c Hp locs 18 7200 (lw_Z below #[Value.ref b] s) (F0 m 18 ls [])) (aP aH aT aA aG aK aZ aS : Nat → Int32) (aL : Nat → Int64) (aF : Nat → Int32) (n : Nat) (pa he wk : Nat → Nat) (Hp : Heap) (locs : List Loc) (ls : Array Slot) (hk : L ≤ i + (k + 1)) (hi : i + 4 ≤ L) (hinv : tk_inv aP aH aT aA aG aK aZ aL aF pa he wk n) (hP : va_P (dC, dI) vwCl (tk_w0 o0 q ca aP aH aT aA aG aK aZ aS n ++ tk_w1 o1 q1 cb aP aH aT aG aL aA aF aS n) Hp) (hD : va_D A (tk_w0 o0 q ca aP aH aT aA aG aK aZ aS n ++ tk_w1 o1 q1 cb aP aH aT aG aL aA aF aS n)) (hS : va_S A s.heap Hp locs) (hl : lv_has ls 4 [(3, .int (nI i)), (2, .ref o1), (1, .ref o0), (0, .ref b)]) : W p l e room_1 s m #[Value.ref b] below meth c Hp locs 18 7200 (lw_Z below #[Value.ref b] s) (F0 m 127 ls []) := by
  obtain ⟨hx, hb, hr, hml, hown, hts0, hX, hbl, hlocks, hgv⟩ := C0
  have hts := fun w h => hts0 w (wsL_law_in w h)
  have hown : s.vm.findClass RL = some m.cls := hown
  have hbA : ¬ A b := fun h => absurd hbl (Nat.not_lt.mpr (hA2 _ h))
  have hK0 := hK.sub (tys' := tk_t0 ca) [0, 1, 2, 3, 4, 5, 6, 7] rfl
  have hK1 := hK.sub (tys' := tk_t1 cb) [8, 9, 10, 11, 12, 13, 14, 15] rfl
  have hinv0 := hinv
  obtain ⟨hT, hW, hL0, hG, hZ, hF⟩ := hinv0
  have hn := hT.1.2
  have hn1 := hT.1.1
  have hP0 : va_P (dC, dI) vwCl (tk_w0 o0 q ca aP aH aT aA aG aK aZ aS n) Hp := hP.sub [0, 1, 2, 3, 4, 5, 6, 7, 8] rfl
  have hP1 : va_P (dC, dI) vwCl (tk_w1 o1 q1 cb aP aH aT aG aL aA aF aS n) Hp := hP.sub [9, 10, 11, 12, 13, 14, 15, 16, 17] rfl
  refine lv_aload_n hx hb dL_law_127 rfl (lv_at hl 2 rfl) ?_
  refine lv_aload_n hx hb dL_law_128 rfl (lv_at hl 3 rfl) ?_
  refine lv_iload_n hx hb dL_law_129 rfl (lv_at hl 0 rfl) ?_
  refine lv_iconst (v := nI 1) hx hb dL_law_130 (by decide +kernel) ?_
  refine lv_iadd hx hb dL_law_131 ?_
  refine tk_top (y := nI (i + 1)) (nI_add i 1) ?_
  refine tk_sld hx hb hX hbl hbA hS (i + 1) (by omega) (by omega) dL_law_132 ?_
  have hFc := va_free (wc := tk_w0 o0 q ca aP aH aT aA aG aK aZ aS n) hD hS hA [0, 1, 2, 3, 4, 5, 6, 7, 8] rfl
  refine va_calli (va_runV (As := [.int (xs (i + 1))]) (rest := []) ⟨hx, hb, hml, hown, hts⟩ (c0_refuse l dC dI o0 q ca aP aH aT aA aG aK aZ aS n _ pa he hT wk hW (xs (i + 1))) (cwV 1 hts gL_law_X0_refuse rfl rfl rfl (by decide +kernel) ⟨Nat.le_of_ble_eq_true rfl, Nat.le_of_ble_eq_true rfl⟩) (tk_preW hK0 hP0 (hD.sub (ws' := tk_w0 o0 q ca aP aH aT aA aG aK aZ aS n) [0, 1, 2, 3, 4, 5, 6, 7, 8] (by decide) rfl) rfl rfl) rfl rfl hl.1 rfl (lv_room (Nat.le_of_ble_eq_true rfl)) dL_law_133 ⟨Nat.le_of_ble_eq_true rfl, Nat.le_of_ble_eq_true rfl⟩) hS (fun q9 _ h9 => hFc q9 h9) hFc (fun r0 u0 t0 Hp2 locs ht0 hvm0 hr0 hB0 hz0 hk0 hS => ?_)
  obtain ⟨hP9, hK9, hD9⟩ := hB0
  rw [ht0] at hP9
  obtain ⟨hP2, hD2⟩ := va_join (wr := tk_w1 o1 q1 cb aP aH aT aG aL aA aF aS n) (w1 := u0) hP hD [0, 1, 2, 3, 4, 5, 6, 7, 8] [9, 10, 11, 12, 13, 14, 15, 16, 17] rfl rfl (by decide) (by decide) hk0 hFc hP9 hD9
  have hP1 : va_P (dC, dI) vwCl (tk_w1 o1 q1 cb aP aH aT aG aL aA aF aS n) Hp2 := hP2.sub [0, 1, 2, 3, 4, 5, 6, 7, 8] rfl
  refine lv_aload_n hx hb dL_law_136 rfl (lv_at hl 1 rfl) ?_
  refine lv_aload_n hx hb dL_law_137 rfl (lv_at hl 3 rfl) ?_
  refine lv_iload_n hx hb dL_law_138 rfl (lv_at hl 0 rfl) ?_
  refine lv_iconst (v := nI 1) hx hb dL_law_139 (by decide +kernel) ?_
  refine lv_iadd hx hb dL_law_140 ?_
  refine tk_top (y := nI (i + 1)) (nI_add i 1) ?_
  refine tk_sld hx hb hX hbl hbA hS (i + 1) (by omega) (by omega) dL_law_141 ?_
  have hFc1 := va_free (wc := tk_w1 o1 q1 cb aP aH aT aG aL aA aF aS n) hD2 hS hA [0, 1, 2, 3, 4, 5, 6, 7, 8] rfl
  refine va_calli (va_runV (As := [.int (xs (i + 1))]) (rest := [.int r0]) ⟨hx, hb, hml, hown, hts⟩ (c1_refuse l dC dI o1 q1 cb aP aH aT aG aL aA aF aS n _ pa he hT aZ hZ wk hL0 (xs (i + 1))) (cwV 1 hts gL_law_X1_refuse rfl rfl rfl (by decide +kernel) ⟨Nat.le_of_ble_eq_true rfl, Nat.le_of_ble_eq_true rfl⟩) (tk_preW hK1 hP1 (hD2.sub (ws' := tk_w1 o1 q1 cb aP aH aT aG aL aA aF aS n) [0, 1, 2, 3, 4, 5, 6, 7, 8] (by decide) rfl) rfl rfl) rfl rfl hl.1 rfl (lv_room (Nat.le_of_ble_eq_true rfl)) dL_law_142 ⟨Nat.le_of_ble_eq_true rfl, Nat.le_of_ble_eq_true rfl⟩) hS (fun q9 _ h9 => hFc1 q9 h9) hFc1 (fun r1 u1 t1 Hp3 locs ht1 hvm1 hr1 hB1 hz1 hk1 hS => ?_)
  obtain ⟨hP8, hK8, hD8⟩ := hB1
  rw [ht1] at hP8
  obtain ⟨hrr, aP2, aH2, aT2, aA2, aG2, aK2, aZ2, aS2, aL2, aF2, n2, pa2, he2, wk2, hinv2, rfl, rfl⟩ := tk_st_rf hinv hr0 hr1
  obtain ⟨hP3, hD3⟩ := va_join (wr := tk_w0 o0 q ca aP2 aH2 aT2 aA2 aG2 aK2 aZ2 aS2 n2) (w1 := tk_w1 o1 q1 cb aP2 aH2 aT2 aG2 aL2 aA2 aF2 aS2 n2) hP2 hD2 [0, 1, 2, 3, 4, 5, 6, 7, 8] [9, 10, 11, 12, 13, 14, 15, 16, 17] rfl rfl (by decide) (by decide) hk1 hFc1 hP8 hD8
  refine lv_icmp_eq (tgt := 322) hx hb dL_law_145 (by decide) (fun hc145 => ?_) (fun hc145 => ?_)
  · refine lv_iinc (k := 0) (v := nI (i + 4)) hx hb dL_law_322 hl rfl (tk_inc4 i) (by decide) rfl (fun ls hl => ?_)
    have hl : lv_has ls 4 [(3, .int (nI (i + 4))), (2, .ref o1), (1, .ref o0), (0, .ref b)] := hl
    refine lv_goto (tgt := 18) hx hb dL_law_325 (by decide) ?_
    exact ih (i + 4) aP2 aH2 aT2 aA2 aG2 aK2 aZ2 aS2 aL2 aF2 n2 pa2 he2 wk2 Hp3 locs ls (by omega) (by omega) hinv2 hP3 hD3 hS hl
  · exact absurd hrr hc145
set_option maxHeartbeats 4000000 in
set_option maxRecDepth 100000 in
theorem tk_law_best {p : Program} {e : Env} {s : State} {m : MethodId} {below : List Frame} {meth : Method} {c : Code} (l : Launch) {b L : Nat} {xs : Nat → Int32} (hL : L ≤ 2048) (C0 : lw_At p s m meth c b L xs) (dC : Nat → ClassId) (dI : Nat → Nat → Nat) (o0 : Nat) (q : Nat → Nat) (ca : Nat → ClassId) (o1 : Nat) (q1 : Nat → Nat) (cb : Nat → ClassId) (hK : va_K (dC, dI) vwCl (tk_t0 ca ++ tk_t1 cb) s) (A : Nat → Prop) (hA : ∀ x, s.heap.size ≤ x → A x) (hA2 : ∀ x, A x → s.heap.size ≤ x) (i k : Nat) (ih : ∀ (i : Nat) (aP aH aT aA aG aK aZ aS : Nat → Int32) (aL : Nat → Int64) (aF : Nat → Int32) (n : Nat) (pa he wk : Nat → Nat) (Hp : Heap) (locs : List Loc) (ls : Array Slot), L ≤ i + k → i ≤ 2060 → tk_inv aP aH aT aA aG aK aZ aL aF pa he wk n → va_P (dC, dI) vwCl (tk_w0 o0 q ca aP aH aT aA aG aK aZ aS n ++ tk_w1 o1 q1 cb aP aH aT aG aL aA aF aS n) Hp → va_D A (tk_w0 o0 q ca aP aH aT aA aG aK aZ aS n ++ tk_w1 o1 q1 cb aP aH aT aG aL aA aF aS n) → va_S A s.heap Hp locs → lv_has ls 4 [(3, .int (nI i)), (2, .ref o1), (1, .ref o0), (0, .ref b)] → W p l e room_1 s m #[Value.ref b] below meth c Hp locs 18 7200 (lw_Z below #[Value.ref b] s) (F0 m 18 ls [])) (aP aH aT aA aG aK aZ aS : Nat → Int32) (aL : Nat → Int64) (aF : Nat → Int32) (n : Nat) (pa he wk : Nat → Nat) (Hp : Heap) (locs : List Loc) (ls : Array Slot) (hk : L ≤ i + (k + 1)) (hi : i + 4 ≤ L) (hinv : tk_inv aP aH aT aA aG aK aZ aL aF pa he wk n) (hP : va_P (dC, dI) vwCl (tk_w0 o0 q ca aP aH aT aA aG aK aZ aS n ++ tk_w1 o1 q1 cb aP aH aT aG aL aA aF aS n) Hp) (hD : va_D A (tk_w0 o0 q ca aP aH aT aA aG aK aZ aS n ++ tk_w1 o1 q1 cb aP aH aT aG aL aA aF aS n)) (hS : va_S A s.heap Hp locs) (hl : lv_has ls 4 [(3, .int (nI i)), (2, .ref o1), (1, .ref o0), (0, .ref b)]) : W p l e room_1 s m #[Value.ref b] below meth c Hp locs 18 7200 (lw_Z below #[Value.ref b] s) (F0 m 150 ls []) := by
  obtain ⟨hx, hb, hr, hml, hown, hts0, hX, hbl, hlocks, hgv⟩ := C0
  have hts := fun w h => hts0 w (wsL_law_in w h)
  have hown : s.vm.findClass RL = some m.cls := hown
  have hbA : ¬ A b := fun h => absurd hbl (Nat.not_lt.mpr (hA2 _ h))
  have hK0 := hK.sub (tys' := tk_t0 ca) [0, 1, 2, 3, 4, 5, 6, 7] rfl
  have hK1 := hK.sub (tys' := tk_t1 cb) [8, 9, 10, 11, 12, 13, 14, 15] rfl
  have hinv0 := hinv
  obtain ⟨hT, hW, hL0, hG, hZ, hF⟩ := hinv0
  have hn := hT.1.2
  have hn1 := hT.1.1
  have hP0 : va_P (dC, dI) vwCl (tk_w0 o0 q ca aP aH aT aA aG aK aZ aS n) Hp := hP.sub [0, 1, 2, 3, 4, 5, 6, 7, 8] rfl
  have hP1 : va_P (dC, dI) vwCl (tk_w1 o1 q1 cb aP aH aT aG aL aA aF aS n) Hp := hP.sub [9, 10, 11, 12, 13, 14, 15, 16, 17] rfl
  refine lv_aload_n hx hb dL_law_150 rfl (lv_at hl 2 rfl) ?_
  refine vp_callSi (W.runV (As := []) (rest := []) ⟨hx, hb, hml, hown, hts⟩ (c0_best l dC dI o0 q ca aP aH aT aA aG aK aZ aS n wk hW hn hn1) (cwV 0 hts gL_law_X0_best rfl rfl rfl (by decide +kernel) ⟨Nat.le_of_ble_eq_true rfl, Nat.le_of_ble_eq_true rfl⟩) (tk_pre hK0 hP0 rfl rfl) rfl rfl hl.1 rfl (lv_room (Nat.le_of_ble_eq_true rfl)) dL_law_151 ⟨Nat.le_of_ble_eq_true rfl, Nat.le_of_ble_eq_true rfl⟩) (fun r0 hr0 => ?_)
  refine lv_aload_n hx hb dL_law_154 rfl (lv_at hl 1 rfl) ?_
  refine vp_callSi (W.runV (As := []) (rest := [.int r0]) ⟨hx, hb, hml, hown, hts⟩ (c1_best l dC dI o1 q1 cb aP aH aT aG aL aA aF aS n pa he hT aZ hZ wk hL0) (cwV 0 hts gL_law_X1_best rfl rfl rfl (by decide +kernel) ⟨Nat.le_of_ble_eq_true rfl, Nat.le_of_ble_eq_true rfl⟩) (tk_pre hK1 hP1 rfl rfl) rfl rfl hl.1 rfl (lv_room (Nat.le_of_ble_eq_true rfl)) dL_law_155 ⟨Nat.le_of_ble_eq_true rfl, Nat.le_of_ble_eq_true rfl⟩) (fun r1 hr1 => ?_)
  refine lv_icmp_eq (tgt := 322) hx hb dL_law_158 (by decide) (fun hc158 => ?_) (fun hc158 => ?_)
  · refine lv_iinc (k := 0) (v := nI (i + 4)) hx hb dL_law_322 hl rfl (tk_inc4 i) (by decide) rfl (fun ls hl => ?_)
    have hl : lv_has ls 4 [(3, .int (nI (i + 4))), (2, .ref o1), (1, .ref o0), (0, .ref b)] := hl
    refine lv_goto (tgt := 18) hx hb dL_law_325 (by decide) ?_
    exact ih (i + 4) aP aH aT aA aG aK aZ aS aL aF n pa he wk Hp locs ls (by omega) (by omega) hinv hP hD hS hl
  · exact absurd (hr0.trans hr1.symm) hc158
set_option maxHeartbeats 4000000 in
set_option maxRecDepth 100000 in
theorem tk_law_fork {p : Program} {e : Env} {s : State} {m : MethodId} {below : List Frame} {meth : Method} {c : Code} (l : Launch) {b L : Nat} {xs : Nat → Int32} (hL : L ≤ 2048) (C0 : lw_At p s m meth c b L xs) (dC : Nat → ClassId) (dI : Nat → Nat → Nat) (o0 : Nat) (q : Nat → Nat) (ca : Nat → ClassId) (o1 : Nat) (q1 : Nat → Nat) (cb : Nat → ClassId) (hK : va_K (dC, dI) vwCl (tk_t0 ca ++ tk_t1 cb) s) (A : Nat → Prop) (hA : ∀ x, s.heap.size ≤ x → A x) (hA2 : ∀ x, A x → s.heap.size ≤ x) (i k : Nat) (ih : ∀ (i : Nat) (aP aH aT aA aG aK aZ aS : Nat → Int32) (aL : Nat → Int64) (aF : Nat → Int32) (n : Nat) (pa he wk : Nat → Nat) (Hp : Heap) (locs : List Loc) (ls : Array Slot), L ≤ i + k → i ≤ 2060 → tk_inv aP aH aT aA aG aK aZ aL aF pa he wk n → va_P (dC, dI) vwCl (tk_w0 o0 q ca aP aH aT aA aG aK aZ aS n ++ tk_w1 o1 q1 cb aP aH aT aG aL aA aF aS n) Hp → va_D A (tk_w0 o0 q ca aP aH aT aA aG aK aZ aS n ++ tk_w1 o1 q1 cb aP aH aT aG aL aA aF aS n) → va_S A s.heap Hp locs → lv_has ls 4 [(3, .int (nI i)), (2, .ref o1), (1, .ref o0), (0, .ref b)] → W p l e room_1 s m #[Value.ref b] below meth c Hp locs 18 7200 (lw_Z below #[Value.ref b] s) (F0 m 18 ls [])) (aP aH aT aA aG aK aZ aS : Nat → Int32) (aL : Nat → Int64) (aF : Nat → Int32) (n : Nat) (pa he wk : Nat → Nat) (Hp : Heap) (locs : List Loc) (ls : Array Slot) (hk : L ≤ i + (k + 1)) (hi : i + 4 ≤ L) (hinv : tk_inv aP aH aT aA aG aK aZ aL aF pa he wk n) (hP : va_P (dC, dI) vwCl (tk_w0 o0 q ca aP aH aT aA aG aK aZ aS n ++ tk_w1 o1 q1 cb aP aH aT aG aL aA aF aS n) Hp) (hD : va_D A (tk_w0 o0 q ca aP aH aT aA aG aK aZ aS n ++ tk_w1 o1 q1 cb aP aH aT aG aL aA aF aS n)) (hS : va_S A s.heap Hp locs) (hl : lv_has ls 4 [(3, .int (nI i)), (2, .ref o1), (1, .ref o0), (0, .ref b)]) : W p l e room_1 s m #[Value.ref b] below meth c Hp locs 18 7200 (lw_Z below #[Value.ref b] s) (F0 m 163 ls []) := by
  obtain ⟨hx, hb, hr, hml, hown, hts0, hX, hbl, hlocks, hgv⟩ := C0
  have hts := fun w h => hts0 w (wsL_law_in w h)
  have hown : s.vm.findClass RL = some m.cls := hown
  have hbA : ¬ A b := fun h => absurd hbl (Nat.not_lt.mpr (hA2 _ h))
  have hK0 := hK.sub (tys' := tk_t0 ca) [0, 1, 2, 3, 4, 5, 6, 7] rfl
  have hK1 := hK.sub (tys' := tk_t1 cb) [8, 9, 10, 11, 12, 13, 14, 15] rfl
  have hinv0 := hinv
  obtain ⟨hT, hW, hL0, hG, hZ, hF⟩ := hinv0
  have hn := hT.1.2
  have hn1 := hT.1.1
  have hP0 : va_P (dC, dI) vwCl (tk_w0 o0 q ca aP aH aT aA aG aK aZ aS n) Hp := hP.sub [0, 1, 2, 3, 4, 5, 6, 7, 8] rfl
  have hP1 : va_P (dC, dI) vwCl (tk_w1 o1 q1 cb aP aH aT aG aL aA aF aS n) Hp := hP.sub [9, 10, 11, 12, 13, 14, 15, 16, 17] rfl
  refine lv_aload_n hx hb dL_law_163 rfl (lv_at hl 2 rfl) ?_
  refine lv_aload_n hx hb dL_law_164 rfl (lv_at hl 3 rfl) ?_
  refine lv_iload_n hx hb dL_law_165 rfl (lv_at hl 0 rfl) ?_
  refine lv_iconst (v := nI 1) hx hb dL_law_166 (by decide +kernel) ?_
  refine lv_iadd hx hb dL_law_167 ?_
  refine tk_top (y := nI (i + 1)) (nI_add i 1) ?_
  refine tk_sld hx hb hX hbl hbA hS (i + 1) (by omega) (by omega) dL_law_168 ?_
  refine lv_aload_n hx hb dL_law_169 rfl (lv_at hl 3 rfl) ?_
  refine lv_iload_n hx hb dL_law_170 rfl (lv_at hl 0 rfl) ?_
  refine lv_iconst (v := nI 2) hx hb dL_law_171 (by decide +kernel) ?_
  refine lv_iadd hx hb dL_law_172 ?_
  refine tk_top (y := nI (i + 2)) (nI_add i 2) ?_
  refine tk_sld hx hb hX hbl hbA hS (i + 2) (by omega) (by omega) dL_law_173 ?_
  refine vp_callSi (W.runV (As := [.int (xs (i + 1)), .int (xs (i + 2))]) (rest := []) ⟨hx, hb, hml, hown, hts⟩ (c0_fork l dC dI o0 q ca aP aH aT aA aG aK aZ aS n pa he hT (xs (i + 1)) (xs (i + 2))) (cwV 2 hts gL_law_X0_fork rfl rfl rfl (by decide +kernel) ⟨Nat.le_of_ble_eq_true rfl, Nat.le_of_ble_eq_true rfl⟩) (tk_pre hK0 hP0 rfl rfl) rfl rfl hl.1 rfl (lv_room (Nat.le_of_ble_eq_true rfl)) dL_law_174 ⟨Nat.le_of_ble_eq_true rfl, Nat.le_of_ble_eq_true rfl⟩) (fun r0 hr0 => ?_)
  refine lv_aload_n hx hb dL_law_177 rfl (lv_at hl 1 rfl) ?_
  refine lv_aload_n hx hb dL_law_178 rfl (lv_at hl 3 rfl) ?_
  refine lv_iload_n hx hb dL_law_179 rfl (lv_at hl 0 rfl) ?_
  refine lv_iconst (v := nI 1) hx hb dL_law_180 (by decide +kernel) ?_
  refine lv_iadd hx hb dL_law_181 ?_
  refine tk_top (y := nI (i + 1)) (nI_add i 1) ?_
  refine tk_sld hx hb hX hbl hbA hS (i + 1) (by omega) (by omega) dL_law_182 ?_
  refine lv_aload_n hx hb dL_law_183 rfl (lv_at hl 3 rfl) ?_
  refine lv_iload_n hx hb dL_law_184 rfl (lv_at hl 0 rfl) ?_
  refine lv_iconst (v := nI 2) hx hb dL_law_185 (by decide +kernel) ?_
  refine lv_iadd hx hb dL_law_186 ?_
  refine tk_top (y := nI (i + 2)) (nI_add i 2) ?_
  refine tk_sld hx hb hX hbl hbA hS (i + 2) (by omega) (by omega) dL_law_187 ?_
  refine vp_callSi (W.runV (As := [.int (xs (i + 1)), .int (xs (i + 2))]) (rest := [.int r0]) ⟨hx, hb, hml, hown, hts⟩ (c1_fork l dC dI o1 q1 cb aP aH aT aG aL aA aF aS n pa he hT (xs (i + 1)) (xs (i + 2))) (cwV 2 hts gL_law_X1_fork rfl rfl rfl (by decide +kernel) ⟨Nat.le_of_ble_eq_true rfl, Nat.le_of_ble_eq_true rfl⟩) (tk_pre hK1 hP1 rfl rfl) rfl rfl hl.1 rfl (lv_room (Nat.le_of_ble_eq_true rfl)) dL_law_188 ⟨Nat.le_of_ble_eq_true rfl, Nat.le_of_ble_eq_true rfl⟩) (fun r1 hr1 => ?_)
  refine lv_icmp_eq (tgt := 322) hx hb dL_law_191 (by decide) (fun hc191 => ?_) (fun hc191 => ?_)
  · refine lv_iinc (k := 0) (v := nI (i + 4)) hx hb dL_law_322 hl rfl (tk_inc4 i) (by decide) rfl (fun ls hl => ?_)
    have hl : lv_has ls 4 [(3, .int (nI (i + 4))), (2, .ref o1), (1, .ref o0), (0, .ref b)] := hl
    refine lv_goto (tgt := 18) hx hb dL_law_325 (by decide) ?_
    exact ih (i + 4) aP aH aT aA aG aK aZ aS aL aF n pa he wk Hp locs ls (by omega) (by omega) hinv hP hD hS hl
  · exact absurd (hr0.trans hr1.symm) hc191
end
section
set_option maxHeartbeats 4000000 in
set_option maxRecDepth 100000 in
theorem tk_law_due {p : Program} {e : Env} {s : State} {m : MethodId} {below : List Frame} {meth : Method} {c : Code} (l : Launch) {b L : Nat} {xs : Nat → Int32} (hL : L ≤ 2048) (C0 : lw_At p s m meth c b L xs) (dC : Nat → ClassId) (dI : Nat → Nat → Nat) (o0 : Nat) (q : Nat → Nat) (ca : Nat → ClassId) (o1 : Nat) (q1 : Nat → Nat) (cb : Nat → ClassId) (hK : va_K (dC, dI) vwCl (tk_t0 ca ++ tk_t1 cb) s) (A : Nat → Prop) (hA : ∀ x, s.heap.size ≤ x → A x) (hA2 : ∀ x, A x → s.heap.size ≤ x) (i k : Nat) (ih : ∀ (i : Nat) (aP aH aT aA aG aK aZ aS : Nat → Int32) (aL : Nat → Int64) (aF : Nat → Int32) (n : Nat) (pa he wk : Nat → Nat) (Hp : Heap) (locs : List Loc) (ls : Array Slot), L ≤ i + k → i ≤ 2060 → tk_inv aP aH aT aA aG aK aZ aL aF pa he wk n → va_P (dC, dI) vwCl (tk_w0 o0 q ca aP aH aT aA aG aK aZ aS n ++ tk_w1 o1 q1 cb aP aH aT aG aL aA aF aS n) Hp → va_D A (tk_w0 o0 q ca aP aH aT aA aG aK aZ aS n ++ tk_w1 o1 q1 cb aP aH aT aG aL aA aF aS n) → va_S A s.heap Hp locs → lv_has ls 4 [(3, .int (nI i)), (2, .ref o1), (1, .ref o0), (0, .ref b)] → W p l e room_1 s m #[Value.ref b] below meth c Hp locs 18 7200 (lw_Z below #[Value.ref b] s) (F0 m 18 ls [])) (aP aH aT aA aG aK aZ aS : Nat → Int32) (aL : Nat → Int64) (aF : Nat → Int32) (n : Nat) (pa he wk : Nat → Nat) (Hp : Heap) (locs : List Loc) (ls : Array Slot) (hk : L ≤ i + (k + 1)) (hi : i + 4 ≤ L) (hinv : tk_inv aP aH aT aA aG aK aZ aL aF pa he wk n) (hP : va_P (dC, dI) vwCl (tk_w0 o0 q ca aP aH aT aA aG aK aZ aS n ++ tk_w1 o1 q1 cb aP aH aT aG aL aA aF aS n) Hp) (hD : va_D A (tk_w0 o0 q ca aP aH aT aA aG aK aZ aS n ++ tk_w1 o1 q1 cb aP aH aT aG aL aA aF aS n)) (hS : va_S A s.heap Hp locs) (hl : lv_has ls 4 [(3, .int (nI i)), (2, .ref o1), (1, .ref o0), (0, .ref b)]) : W p l e room_1 s m #[Value.ref b] below meth c Hp locs 18 7200 (lw_Z below #[Value.ref b] s) (F0 m 196 ls []) := by
  obtain ⟨hx, hb, hr, hml, hown, hts0, hX, hbl, hlocks, hgv⟩ := C0
  have hts := fun w h => hts0 w (wsL_law_in w h)
  have hown : s.vm.findClass RL = some m.cls := hown
  have hbA : ¬ A b := fun h => absurd hbl (Nat.not_lt.mpr (hA2 _ h))
  have hK0 := hK.sub (tys' := tk_t0 ca) [0, 1, 2, 3, 4, 5, 6, 7] rfl
  have hK1 := hK.sub (tys' := tk_t1 cb) [8, 9, 10, 11, 12, 13, 14, 15] rfl
  have hinv0 := hinv
  obtain ⟨hT, hW, hL0, hG, hZ, hF⟩ := hinv0
  have hn := hT.1.2
  have hn1 := hT.1.1
  have hP0 : va_P (dC, dI) vwCl (tk_w0 o0 q ca aP aH aT aA aG aK aZ aS n) Hp := hP.sub [0, 1, 2, 3, 4, 5, 6, 7, 8] rfl
  have hP1 : va_P (dC, dI) vwCl (tk_w1 o1 q1 cb aP aH aT aG aL aA aF aS n) Hp := hP.sub [9, 10, 11, 12, 13, 14, 15, 16, 17] rfl
  refine lv_aload_n hx hb dL_law_196 rfl (lv_at hl 2 rfl) ?_
  refine lv_aload_n hx hb dL_law_197 rfl (lv_at hl 3 rfl) ?_
  refine lv_iload_n hx hb dL_law_198 rfl (lv_at hl 0 rfl) ?_
  refine lv_iconst (v := nI 1) hx hb dL_law_199 (by decide +kernel) ?_
  refine lv_iadd hx hb dL_law_200 ?_
  refine tk_top (y := nI (i + 1)) (nI_add i 1) ?_
  refine tk_sld hx hb hX hbl hbA hS (i + 1) (by omega) (by omega) dL_law_201 ?_
  refine vp_callSi (W.runV (As := [.int (xs (i + 1))]) (rest := []) ⟨hx, hb, hml, hown, hts⟩ (c0_due l dC dI o0 q ca aP aH aT aA aG aK aZ aS n pa he hT (xs (i + 1))) (cwV 1 hts gL_law_X0_due rfl rfl rfl (by decide +kernel) ⟨Nat.le_of_ble_eq_true rfl, Nat.le_of_ble_eq_true rfl⟩) (tk_pre hK0 hP0 rfl rfl) rfl rfl hl.1 rfl (lv_room (Nat.le_of_ble_eq_true rfl)) dL_law_202 ⟨Nat.le_of_ble_eq_true rfl, Nat.le_of_ble_eq_true rfl⟩) (fun r0 hr0 => ?_)
  refine lv_aload_n hx hb dL_law_205 rfl (lv_at hl 1 rfl) ?_
  refine lv_aload_n hx hb dL_law_206 rfl (lv_at hl 3 rfl) ?_
  refine lv_iload_n hx hb dL_law_207 rfl (lv_at hl 0 rfl) ?_
  refine lv_iconst (v := nI 1) hx hb dL_law_208 (by decide +kernel) ?_
  refine lv_iadd hx hb dL_law_209 ?_
  refine tk_top (y := nI (i + 1)) (nI_add i 1) ?_
  refine tk_sld hx hb hX hbl hbA hS (i + 1) (by omega) (by omega) dL_law_210 ?_
  refine vp_callSi (W.runV (As := [.int (xs (i + 1))]) (rest := [.int r0]) ⟨hx, hb, hml, hown, hts⟩ (c1_due l dC dI o1 q1 cb aP aH aT aG aL aA aF aS n pa he hT (xs (i + 1))) (cwV 1 hts gL_law_X1_due rfl rfl rfl (by decide +kernel) ⟨Nat.le_of_ble_eq_true rfl, Nat.le_of_ble_eq_true rfl⟩) (tk_pre hK1 hP1 rfl rfl) rfl rfl hl.1 rfl (lv_room (Nat.le_of_ble_eq_true rfl)) dL_law_211 ⟨Nat.le_of_ble_eq_true rfl, Nat.le_of_ble_eq_true rfl⟩) (fun r1 hr1 => ?_)
  refine lv_icmp_eq (tgt := 322) hx hb dL_law_214 (by decide) (fun hc214 => ?_) (fun hc214 => ?_)
  · refine lv_iinc (k := 0) (v := nI (i + 4)) hx hb dL_law_322 hl rfl (tk_inc4 i) (by decide) rfl (fun ls hl => ?_)
    have hl : lv_has ls 4 [(3, .int (nI (i + 4))), (2, .ref o1), (1, .ref o0), (0, .ref b)] := hl
    refine lv_goto (tgt := 18) hx hb dL_law_325 (by decide) ?_
    exact ih (i + 4) aP aH aT aA aG aK aZ aS aL aF n pa he wk Hp locs ls (by omega) (by omega) hinv hP hD hS hl
  · exact absurd (hr0.trans hr1.symm) hc214
set_option maxHeartbeats 4000000 in
set_option maxRecDepth 100000 in
theorem tk_law_median {p : Program} {e : Env} {s : State} {m : MethodId} {below : List Frame} {meth : Method} {c : Code} (l : Launch) {b L : Nat} {xs : Nat → Int32} (hL : L ≤ 2048) (C0 : lw_At p s m meth c b L xs) (dC : Nat → ClassId) (dI : Nat → Nat → Nat) (o0 : Nat) (q : Nat → Nat) (ca : Nat → ClassId) (o1 : Nat) (q1 : Nat → Nat) (cb : Nat → ClassId) (hK : va_K (dC, dI) vwCl (tk_t0 ca ++ tk_t1 cb) s) (A : Nat → Prop) (hA : ∀ x, s.heap.size ≤ x → A x) (hA2 : ∀ x, A x → s.heap.size ≤ x) (i k : Nat) (ih : ∀ (i : Nat) (aP aH aT aA aG aK aZ aS : Nat → Int32) (aL : Nat → Int64) (aF : Nat → Int32) (n : Nat) (pa he wk : Nat → Nat) (Hp : Heap) (locs : List Loc) (ls : Array Slot), L ≤ i + k → i ≤ 2060 → tk_inv aP aH aT aA aG aK aZ aL aF pa he wk n → va_P (dC, dI) vwCl (tk_w0 o0 q ca aP aH aT aA aG aK aZ aS n ++ tk_w1 o1 q1 cb aP aH aT aG aL aA aF aS n) Hp → va_D A (tk_w0 o0 q ca aP aH aT aA aG aK aZ aS n ++ tk_w1 o1 q1 cb aP aH aT aG aL aA aF aS n) → va_S A s.heap Hp locs → lv_has ls 4 [(3, .int (nI i)), (2, .ref o1), (1, .ref o0), (0, .ref b)] → W p l e room_1 s m #[Value.ref b] below meth c Hp locs 18 7200 (lw_Z below #[Value.ref b] s) (F0 m 18 ls [])) (aP aH aT aA aG aK aZ aS : Nat → Int32) (aL : Nat → Int64) (aF : Nat → Int32) (n : Nat) (pa he wk : Nat → Nat) (Hp : Heap) (locs : List Loc) (ls : Array Slot) (hk : L ≤ i + (k + 1)) (hi : i + 4 ≤ L) (hinv : tk_inv aP aH aT aA aG aK aZ aL aF pa he wk n) (hP : va_P (dC, dI) vwCl (tk_w0 o0 q ca aP aH aT aA aG aK aZ aS n ++ tk_w1 o1 q1 cb aP aH aT aG aL aA aF aS n) Hp) (hD : va_D A (tk_w0 o0 q ca aP aH aT aA aG aK aZ aS n ++ tk_w1 o1 q1 cb aP aH aT aG aL aA aF aS n)) (hS : va_S A s.heap Hp locs) (hl : lv_has ls 4 [(3, .int (nI i)), (2, .ref o1), (1, .ref o0), (0, .ref b)]) : W p l e room_1 s m #[Value.ref b] below meth c Hp locs 18 7200 (lw_Z below #[Value.ref b] s) (F0 m 219 ls []) := by
  obtain ⟨hx, hb, hr, hml, hown, hts0, hX, hbl, hlocks, hgv⟩ := C0
  have hts := fun w h => hts0 w (wsL_law_in w h)
  have hown : s.vm.findClass RL = some m.cls := hown
  have hbA : ¬ A b := fun h => absurd hbl (Nat.not_lt.mpr (hA2 _ h))
  have hK0 := hK.sub (tys' := tk_t0 ca) [0, 1, 2, 3, 4, 5, 6, 7] rfl
  have hK1 := hK.sub (tys' := tk_t1 cb) [8, 9, 10, 11, 12, 13, 14, 15] rfl
  have hinv0 := hinv
  obtain ⟨hT, hW, hL0, hG, hZ, hF⟩ := hinv0
  have hn := hT.1.2
  have hn1 := hT.1.1
  have hP0 : va_P (dC, dI) vwCl (tk_w0 o0 q ca aP aH aT aA aG aK aZ aS n) Hp := hP.sub [0, 1, 2, 3, 4, 5, 6, 7, 8] rfl
  have hP1 : va_P (dC, dI) vwCl (tk_w1 o1 q1 cb aP aH aT aG aL aA aF aS n) Hp := hP.sub [9, 10, 11, 12, 13, 14, 15, 16, 17] rfl
  refine lv_aload_n hx hb dL_law_219 rfl (lv_at hl 2 rfl) ?_
  refine lv_aload_n hx hb dL_law_220 rfl (lv_at hl 3 rfl) ?_
  refine lv_iload_n hx hb dL_law_221 rfl (lv_at hl 0 rfl) ?_
  refine lv_iconst (v := nI 1) hx hb dL_law_222 (by decide +kernel) ?_
  refine lv_iadd hx hb dL_law_223 ?_
  refine tk_top (y := nI (i + 1)) (nI_add i 1) ?_
  refine tk_sld hx hb hX hbl hbA hS (i + 1) (by omega) (by omega) dL_law_224 ?_
  have hFc := va_free (wc := tk_w0 o0 q ca aP aH aT aA aG aK aZ aS n) hD hS hA [0, 1, 2, 3, 4, 5, 6, 7, 8] rfl
  refine va_calli (va_runV (As := [.int (xs (i + 1))]) (rest := []) ⟨hx, hb, hml, hown, hts⟩ (c0_median l dC dI o0 q ca aP aH aT aA aG aK aZ aS n _ pa he hT (xs (i + 1))) (cwV 1 hts gL_law_X0_median rfl rfl rfl (by decide +kernel) ⟨Nat.le_of_ble_eq_true rfl, Nat.le_of_ble_eq_true rfl⟩) (tk_preW hK0 hP0 (hD.sub (ws' := tk_w0 o0 q ca aP aH aT aA aG aK aZ aS n) [0, 1, 2, 3, 4, 5, 6, 7, 8] (by decide) rfl) rfl rfl) rfl rfl hl.1 rfl (lv_room (Nat.le_of_ble_eq_true rfl)) dL_law_225 ⟨Nat.le_of_ble_eq_true rfl, Nat.le_of_ble_eq_true rfl⟩) hS (fun q9 _ h9 => hFc q9 h9) hFc (fun r0 u0 t0 Hp2 locs ht0 hvm0 hr0 hB0 hz0 hk0 hS => ?_)
  obtain ⟨hP9, hK9, hD9⟩ := hB0
  rw [ht0] at hP9
  obtain ⟨hP2, hD2⟩ := va_join (wr := tk_w1 o1 q1 cb aP aH aT aG aL aA aF aS n) (w1 := u0) hP hD [0, 1, 2, 3, 4, 5, 6, 7, 8] [9, 10, 11, 12, 13, 14, 15, 16, 17] rfl rfl (by decide) (by decide) hk0 hFc hP9 hD9
  have hP1 : va_P (dC, dI) vwCl (tk_w1 o1 q1 cb aP aH aT aG aL aA aF aS n) Hp2 := hP2.sub [0, 1, 2, 3, 4, 5, 6, 7, 8] rfl
  refine lv_aload_n hx hb dL_law_228 rfl (lv_at hl 1 rfl) ?_
  refine lv_aload_n hx hb dL_law_229 rfl (lv_at hl 3 rfl) ?_
  refine lv_iload_n hx hb dL_law_230 rfl (lv_at hl 0 rfl) ?_
  refine lv_iconst (v := nI 1) hx hb dL_law_231 (by decide +kernel) ?_
  refine lv_iadd hx hb dL_law_232 ?_
  refine tk_top (y := nI (i + 1)) (nI_add i 1) ?_
  refine tk_sld hx hb hX hbl hbA hS (i + 1) (by omega) (by omega) dL_law_233 ?_
  have hFc1 := va_free (wc := tk_w1 o1 q1 cb aP aH aT aG aL aA aF aS n) hD2 hS hA [0, 1, 2, 3, 4, 5, 6, 7, 8] rfl
  refine va_calli (va_runV (As := [.int (xs (i + 1))]) (rest := [.int r0]) ⟨hx, hb, hml, hown, hts⟩ (c1_median l dC dI o1 q1 cb aP aH aT aG aL aA aF aS n _ pa he hT (xs (i + 1))) (cwV 1 hts gL_law_X1_median rfl rfl rfl (by decide +kernel) ⟨Nat.le_of_ble_eq_true rfl, Nat.le_of_ble_eq_true rfl⟩) (tk_preW hK1 hP1 (hD2.sub (ws' := tk_w1 o1 q1 cb aP aH aT aG aL aA aF aS n) [0, 1, 2, 3, 4, 5, 6, 7, 8] (by decide) rfl) rfl rfl) rfl rfl hl.1 rfl (lv_room (Nat.le_of_ble_eq_true rfl)) dL_law_234 ⟨Nat.le_of_ble_eq_true rfl, Nat.le_of_ble_eq_true rfl⟩) hS (fun q9 _ h9 => hFc1 q9 h9) hFc1 (fun r1 u1 t1 Hp3 locs ht1 hvm1 hr1 hB1 hz1 hk1 hS => ?_)
  obtain ⟨hP8, hK8, hD8⟩ := hB1
  rw [ht1] at hP8
  obtain ⟨hrr, aP2, aH2, aT2, aA2, aG2, aK2, aZ2, aS2, aL2, aF2, n2, pa2, he2, wk2, hinv2, rfl, rfl⟩ := tk_st_md hinv hr0 hr1
  obtain ⟨hP3, hD3⟩ := va_join (wr := tk_w0 o0 q ca aP2 aH2 aT2 aA2 aG2 aK2 aZ2 aS2 n2) (w1 := tk_w1 o1 q1 cb aP2 aH2 aT2 aG2 aL2 aA2 aF2 aS2 n2) hP2 hD2 [0, 1, 2, 3, 4, 5, 6, 7, 8] [9, 10, 11, 12, 13, 14, 15, 16, 17] rfl rfl (by decide) (by decide) hk1 hFc1 hP8 hD8
  refine lv_icmp_eq (tgt := 322) hx hb dL_law_237 (by decide) (fun hc237 => ?_) (fun hc237 => ?_)
  · refine lv_iinc (k := 0) (v := nI (i + 4)) hx hb dL_law_322 hl rfl (tk_inc4 i) (by decide) rfl (fun ls hl => ?_)
    have hl : lv_has ls 4 [(3, .int (nI (i + 4))), (2, .ref o1), (1, .ref o0), (0, .ref b)] := hl
    refine lv_goto (tgt := 18) hx hb dL_law_325 (by decide) ?_
    exact ih (i + 4) aP2 aH2 aT2 aA2 aG2 aK2 aZ2 aS2 aL2 aF2 n2 pa2 he2 wk2 Hp3 locs ls (by omega) (by omega) hinv2 hP3 hD3 hS hl
  · exact absurd hrr hc237
set_option maxHeartbeats 4000000 in
set_option maxRecDepth 100000 in
theorem tk_law_ancestor {p : Program} {e : Env} {s : State} {m : MethodId} {below : List Frame} {meth : Method} {c : Code} (l : Launch) {b L : Nat} {xs : Nat → Int32} (hL : L ≤ 2048) (C0 : lw_At p s m meth c b L xs) (dC : Nat → ClassId) (dI : Nat → Nat → Nat) (o0 : Nat) (q : Nat → Nat) (ca : Nat → ClassId) (o1 : Nat) (q1 : Nat → Nat) (cb : Nat → ClassId) (hK : va_K (dC, dI) vwCl (tk_t0 ca ++ tk_t1 cb) s) (A : Nat → Prop) (hA : ∀ x, s.heap.size ≤ x → A x) (hA2 : ∀ x, A x → s.heap.size ≤ x) (i k : Nat) (ih : ∀ (i : Nat) (aP aH aT aA aG aK aZ aS : Nat → Int32) (aL : Nat → Int64) (aF : Nat → Int32) (n : Nat) (pa he wk : Nat → Nat) (Hp : Heap) (locs : List Loc) (ls : Array Slot), L ≤ i + k → i ≤ 2060 → tk_inv aP aH aT aA aG aK aZ aL aF pa he wk n → va_P (dC, dI) vwCl (tk_w0 o0 q ca aP aH aT aA aG aK aZ aS n ++ tk_w1 o1 q1 cb aP aH aT aG aL aA aF aS n) Hp → va_D A (tk_w0 o0 q ca aP aH aT aA aG aK aZ aS n ++ tk_w1 o1 q1 cb aP aH aT aG aL aA aF aS n) → va_S A s.heap Hp locs → lv_has ls 4 [(3, .int (nI i)), (2, .ref o1), (1, .ref o0), (0, .ref b)] → W p l e room_1 s m #[Value.ref b] below meth c Hp locs 18 7200 (lw_Z below #[Value.ref b] s) (F0 m 18 ls [])) (aP aH aT aA aG aK aZ aS : Nat → Int32) (aL : Nat → Int64) (aF : Nat → Int32) (n : Nat) (pa he wk : Nat → Nat) (Hp : Heap) (locs : List Loc) (ls : Array Slot) (hk : L ≤ i + (k + 1)) (hi : i + 4 ≤ L) (hinv : tk_inv aP aH aT aA aG aK aZ aL aF pa he wk n) (hP : va_P (dC, dI) vwCl (tk_w0 o0 q ca aP aH aT aA aG aK aZ aS n ++ tk_w1 o1 q1 cb aP aH aT aG aL aA aF aS n) Hp) (hD : va_D A (tk_w0 o0 q ca aP aH aT aA aG aK aZ aS n ++ tk_w1 o1 q1 cb aP aH aT aG aL aA aF aS n)) (hS : va_S A s.heap Hp locs) (hl : lv_has ls 4 [(3, .int (nI i)), (2, .ref o1), (1, .ref o0), (0, .ref b)]) : W p l e room_1 s m #[Value.ref b] below meth c Hp locs 18 7200 (lw_Z below #[Value.ref b] s) (F0 m 242 ls []) := by
  obtain ⟨hx, hb, hr, hml, hown, hts0, hX, hbl, hlocks, hgv⟩ := C0
  have hts := fun w h => hts0 w (wsL_law_in w h)
  have hown : s.vm.findClass RL = some m.cls := hown
  have hbA : ¬ A b := fun h => absurd hbl (Nat.not_lt.mpr (hA2 _ h))
  have hK0 := hK.sub (tys' := tk_t0 ca) [0, 1, 2, 3, 4, 5, 6, 7] rfl
  have hK1 := hK.sub (tys' := tk_t1 cb) [8, 9, 10, 11, 12, 13, 14, 15] rfl
  have hinv0 := hinv
  obtain ⟨hT, hW, hL0, hG, hZ, hF⟩ := hinv0
  have hn := hT.1.2
  have hn1 := hT.1.1
  have hP0 : va_P (dC, dI) vwCl (tk_w0 o0 q ca aP aH aT aA aG aK aZ aS n) Hp := hP.sub [0, 1, 2, 3, 4, 5, 6, 7, 8] rfl
  have hP1 : va_P (dC, dI) vwCl (tk_w1 o1 q1 cb aP aH aT aG aL aA aF aS n) Hp := hP.sub [9, 10, 11, 12, 13, 14, 15, 16, 17] rfl
  refine lv_aload_n hx hb dL_law_242 rfl (lv_at hl 2 rfl) ?_
  refine lv_aload_n hx hb dL_law_243 rfl (lv_at hl 3 rfl) ?_
  refine lv_iload_n hx hb dL_law_244 rfl (lv_at hl 0 rfl) ?_
  refine lv_iconst (v := nI 1) hx hb dL_law_245 (by decide +kernel) ?_
  refine lv_iadd hx hb dL_law_246 ?_
  refine tk_top (y := nI (i + 1)) (nI_add i 1) ?_
  refine tk_sld hx hb hX hbl hbA hS (i + 1) (by omega) (by omega) dL_law_247 ?_
  refine lv_aload_n hx hb dL_law_248 rfl (lv_at hl 3 rfl) ?_
  refine lv_iload_n hx hb dL_law_249 rfl (lv_at hl 0 rfl) ?_
  refine lv_iconst (v := nI 2) hx hb dL_law_250 (by decide +kernel) ?_
  refine lv_iadd hx hb dL_law_251 ?_
  refine tk_top (y := nI (i + 2)) (nI_add i 2) ?_
  refine tk_sld hx hb hX hbl hbA hS (i + 2) (by omega) (by omega) dL_law_252 ?_
  refine vp_callSi (W.runV (As := [.int (xs (i + 1)), .int (xs (i + 2))]) (rest := []) ⟨hx, hb, hml, hown, hts⟩ (c0_ancestor l dC dI o0 q ca aP aH aT aA aG aK aZ aS n pa he hT (xs (i + 1)) (xs (i + 2))) (cwV 2 hts gL_law_X0_ancestor rfl rfl rfl (by decide +kernel) ⟨Nat.le_of_ble_eq_true rfl, Nat.le_of_ble_eq_true rfl⟩) (tk_pre hK0 hP0 rfl rfl) rfl rfl hl.1 rfl (lv_room (Nat.le_of_ble_eq_true rfl)) dL_law_253 ⟨Nat.le_of_ble_eq_true rfl, Nat.le_of_ble_eq_true rfl⟩) (fun r0 hr0 => ?_)
  refine lv_aload_n hx hb dL_law_256 rfl (lv_at hl 1 rfl) ?_
  refine lv_aload_n hx hb dL_law_257 rfl (lv_at hl 3 rfl) ?_
  refine lv_iload_n hx hb dL_law_258 rfl (lv_at hl 0 rfl) ?_
  refine lv_iconst (v := nI 1) hx hb dL_law_259 (by decide +kernel) ?_
  refine lv_iadd hx hb dL_law_260 ?_
  refine tk_top (y := nI (i + 1)) (nI_add i 1) ?_
  refine tk_sld hx hb hX hbl hbA hS (i + 1) (by omega) (by omega) dL_law_261 ?_
  refine lv_aload_n hx hb dL_law_262 rfl (lv_at hl 3 rfl) ?_
  refine lv_iload_n hx hb dL_law_263 rfl (lv_at hl 0 rfl) ?_
  refine lv_iconst (v := nI 2) hx hb dL_law_264 (by decide +kernel) ?_
  refine lv_iadd hx hb dL_law_265 ?_
  refine tk_top (y := nI (i + 2)) (nI_add i 2) ?_
  refine tk_sld hx hb hX hbl hbA hS (i + 2) (by omega) (by omega) dL_law_266 ?_
  refine vp_callSi (W.runV (As := [.int (xs (i + 1)), .int (xs (i + 2))]) (rest := [.int r0]) ⟨hx, hb, hml, hown, hts⟩ (c1_ancestor l dC dI o1 q1 cb aP aH aT aG aL aA aF aS n pa he hT (xs (i + 1)) (xs (i + 2))) (cwV 2 hts gL_law_X1_ancestor rfl rfl rfl (by decide +kernel) ⟨Nat.le_of_ble_eq_true rfl, Nat.le_of_ble_eq_true rfl⟩) (tk_pre hK1 hP1 rfl rfl) rfl rfl hl.1 rfl (lv_room (Nat.le_of_ble_eq_true rfl)) dL_law_267 ⟨Nat.le_of_ble_eq_true rfl, Nat.le_of_ble_eq_true rfl⟩) (fun r1 hr1 => ?_)
  refine lv_icmp_eq (tgt := 322) hx hb dL_law_270 (by decide) (fun hc270 => ?_) (fun hc270 => ?_)
  · refine lv_iinc (k := 0) (v := nI (i + 4)) hx hb dL_law_322 hl rfl (tk_inc4 i) (by decide) rfl (fun ls hl => ?_)
    have hl : lv_has ls 4 [(3, .int (nI (i + 4))), (2, .ref o1), (1, .ref o0), (0, .ref b)] := hl
    refine lv_goto (tgt := 18) hx hb dL_law_325 (by decide) ?_
    exact ih (i + 4) aP aH aT aA aG aK aZ aS aL aF n pa he wk Hp locs ls (by omega) (by omega) hinv hP hD hS hl
  · exact absurd (hr0.trans hr1.symm) hc270
set_option maxHeartbeats 4000000 in
set_option maxRecDepth 100000 in
theorem tk_law_look {p : Program} {e : Env} {s : State} {m : MethodId} {below : List Frame} {meth : Method} {c : Code} (l : Launch) {b L : Nat} {xs : Nat → Int32} (hL : L ≤ 2048) (C0 : lw_At p s m meth c b L xs) (dC : Nat → ClassId) (dI : Nat → Nat → Nat) (o0 : Nat) (q : Nat → Nat) (ca : Nat → ClassId) (o1 : Nat) (q1 : Nat → Nat) (cb : Nat → ClassId) (hK : va_K (dC, dI) vwCl (tk_t0 ca ++ tk_t1 cb) s) (A : Nat → Prop) (hA : ∀ x, s.heap.size ≤ x → A x) (hA2 : ∀ x, A x → s.heap.size ≤ x) (i k : Nat) (ih : ∀ (i : Nat) (aP aH aT aA aG aK aZ aS : Nat → Int32) (aL : Nat → Int64) (aF : Nat → Int32) (n : Nat) (pa he wk : Nat → Nat) (Hp : Heap) (locs : List Loc) (ls : Array Slot), L ≤ i + k → i ≤ 2060 → tk_inv aP aH aT aA aG aK aZ aL aF pa he wk n → va_P (dC, dI) vwCl (tk_w0 o0 q ca aP aH aT aA aG aK aZ aS n ++ tk_w1 o1 q1 cb aP aH aT aG aL aA aF aS n) Hp → va_D A (tk_w0 o0 q ca aP aH aT aA aG aK aZ aS n ++ tk_w1 o1 q1 cb aP aH aT aG aL aA aF aS n) → va_S A s.heap Hp locs → lv_has ls 4 [(3, .int (nI i)), (2, .ref o1), (1, .ref o0), (0, .ref b)] → W p l e room_1 s m #[Value.ref b] below meth c Hp locs 18 7200 (lw_Z below #[Value.ref b] s) (F0 m 18 ls [])) (aP aH aT aA aG aK aZ aS : Nat → Int32) (aL : Nat → Int64) (aF : Nat → Int32) (n : Nat) (pa he wk : Nat → Nat) (Hp : Heap) (locs : List Loc) (ls : Array Slot) (hk : L ≤ i + (k + 1)) (hi : i + 4 ≤ L) (hinv : tk_inv aP aH aT aA aG aK aZ aL aF pa he wk n) (hP : va_P (dC, dI) vwCl (tk_w0 o0 q ca aP aH aT aA aG aK aZ aS n ++ tk_w1 o1 q1 cb aP aH aT aG aL aA aF aS n) Hp) (hD : va_D A (tk_w0 o0 q ca aP aH aT aA aG aK aZ aS n ++ tk_w1 o1 q1 cb aP aH aT aG aL aA aF aS n)) (hS : va_S A s.heap Hp locs) (hl : lv_has ls 4 [(3, .int (nI i)), (2, .ref o1), (1, .ref o0), (0, .ref b)]) : W p l e room_1 s m #[Value.ref b] below meth c Hp locs 18 7200 (lw_Z below #[Value.ref b] s) (F0 m 275 ls []) := by
  obtain ⟨hx, hb, hr, hml, hown, hts0, hX, hbl, hlocks, hgv⟩ := C0
  have hts := fun w h => hts0 w (wsL_law_in w h)
  have hown : s.vm.findClass RL = some m.cls := hown
  have hbA : ¬ A b := fun h => absurd hbl (Nat.not_lt.mpr (hA2 _ h))
  have hK0 := hK.sub (tys' := tk_t0 ca) [0, 1, 2, 3, 4, 5, 6, 7] rfl
  have hK1 := hK.sub (tys' := tk_t1 cb) [8, 9, 10, 11, 12, 13, 14, 15] rfl
  have hinv0 := hinv
  obtain ⟨hT, hW, hL0, hG, hZ, hF⟩ := hinv0
  have hn := hT.1.2
  have hn1 := hT.1.1
  have hP0 : va_P (dC, dI) vwCl (tk_w0 o0 q ca aP aH aT aA aG aK aZ aS n) Hp := hP.sub [0, 1, 2, 3, 4, 5, 6, 7, 8] rfl
  have hP1 : va_P (dC, dI) vwCl (tk_w1 o1 q1 cb aP aH aT aG aL aA aF aS n) Hp := hP.sub [9, 10, 11, 12, 13, 14, 15, 16, 17] rfl
  have hKL : ∀ i, i < n → aL i = (aK i).toInt64 := fun i hi => by rw [(hL0 i hi).1, (hW i hi).1]; exact (nI_l (by have := (hW i hi).2; omega)).symm
  refine lv_aload_n hx hb dL_law_275 rfl (lv_at hl 2 rfl) ?_
  refine lv_aload_n hx hb dL_law_276 rfl (lv_at hl 3 rfl) ?_
  refine lv_iload_n hx hb dL_law_277 rfl (lv_at hl 0 rfl) ?_
  refine lv_iconst (v := nI 1) hx hb dL_law_278 (by decide +kernel) ?_
  refine lv_iadd hx hb dL_law_279 ?_
  refine tk_top (y := nI (i + 1)) (nI_add i 1) ?_
  refine tk_sld hx hb hX hbl hbA hS (i + 1) (by omega) (by omega) dL_law_280 ?_
  refine lv_aload_n hx hb dL_law_281 rfl (lv_at hl 3 rfl) ?_
  refine lv_iload_n hx hb dL_law_282 rfl (lv_at hl 0 rfl) ?_
  refine lv_iconst (v := nI 2) hx hb dL_law_283 (by decide +kernel) ?_
  refine lv_iadd hx hb dL_law_284 ?_
  refine tk_top (y := nI (i + 2)) (nI_add i 2) ?_
  refine tk_sld hx hb hX hbl hbA hS (i + 2) (by omega) (by omega) dL_law_285 ?_
  refine vp_callSl (W.runV (As := [.int (xs (i + 1)), .int (xs (i + 2))]) (rest := []) ⟨hx, hb, hml, hown, hts⟩ (c0_look l dC dI o0 q ca aP aH aT aA aG aK aZ aS n hn (xs (i + 1)) (xs (i + 2))) (cwV 2 hts gL_law_X0_look rfl rfl rfl (by decide +kernel) ⟨Nat.le_of_ble_eq_true rfl, Nat.le_of_ble_eq_true rfl⟩) (tk_pre hK0 hP0 rfl rfl) rfl rfl hl.1 rfl (lv_room (Nat.le_of_ble_eq_true rfl)) dL_law_286 ⟨Nat.le_of_ble_eq_true rfl, Nat.le_of_ble_eq_true rfl⟩) (fun r0 hr0 => ?_)
  refine lv_aload_n hx hb dL_law_289 rfl (lv_at hl 1 rfl) ?_
  refine lv_aload_n hx hb dL_law_290 rfl (lv_at hl 3 rfl) ?_
  refine lv_iload_n hx hb dL_law_291 rfl (lv_at hl 0 rfl) ?_
  refine lv_iconst (v := nI 1) hx hb dL_law_292 (by decide +kernel) ?_
  refine lv_iadd hx hb dL_law_293 ?_
  refine tk_top (y := nI (i + 1)) (nI_add i 1) ?_
  refine tk_sld hx hb hX hbl hbA hS (i + 1) (by omega) (by omega) dL_law_294 ?_
  refine lv_aload_n hx hb dL_law_295 rfl (lv_at hl 3 rfl) ?_
  refine lv_iload_n hx hb dL_law_296 rfl (lv_at hl 0 rfl) ?_
  refine lv_iconst (v := nI 2) hx hb dL_law_297 (by decide +kernel) ?_
  refine lv_iadd hx hb dL_law_298 ?_
  refine tk_top (y := nI (i + 2)) (nI_add i 2) ?_
  refine tk_sld hx hb hX hbl hbA hS (i + 2) (by omega) (by omega) dL_law_299 ?_
  refine vp_callSl (W.runV (As := [.int (xs (i + 1)), .int (xs (i + 2))]) (rest := [.long r0]) ⟨hx, hb, hml, hown, hts⟩ (c1_look l dC dI o1 q1 cb aP aH aT aG aL aA aF aS n pa he hT aK aZ hZ hKL (xs (i + 1)) (xs (i + 2))) (cwV 2 hts gL_law_X1_look rfl rfl rfl (by decide +kernel) ⟨Nat.le_of_ble_eq_true rfl, Nat.le_of_ble_eq_true rfl⟩) (tk_pre hK1 hP1 rfl rfl) rfl rfl hl.1 rfl (lv_room (Nat.le_of_ble_eq_true rfl)) dL_law_300 ⟨Nat.le_of_ble_eq_true rfl, Nat.le_of_ble_eq_true rfl⟩) (fun r1 hr1 => ?_)
  refine tk_lcmp (v := lg_cmp r0 r1) hx hb dL_law_303 rfl ?_
  refine lv_if_eq (tgt := 322) hx hb dL_law_304 (by decide) (fun hc304 => ?_) (fun hc304 => ?_)
  · refine lv_iinc (k := 0) (v := nI (i + 4)) hx hb dL_law_322 hl rfl (tk_inc4 i) (by decide) rfl (fun ls hl => ?_)
    have hl : lv_has ls 4 [(3, .int (nI (i + 4))), (2, .ref o1), (1, .ref o0), (0, .ref b)] := hl
    refine lv_goto (tgt := 18) hx hb dL_law_325 (by decide) ?_
    exact ih (i + 4) aP aH aT aA aG aK aZ aS aL aF n pa he wk Hp locs ls (by omega) (by omega) hinv hP hD hS hl
  · exact absurd (tk_cmp_same (hr0.trans hr1.symm)) hc304
set_option maxHeartbeats 4000000 in
set_option maxRecDepth 100000 in
theorem tk_law_blocks {p : Program} {e : Env} {s : State} {m : MethodId} {below : List Frame} {meth : Method} {c : Code} (l : Launch) {b L : Nat} {xs : Nat → Int32} (hL : L ≤ 2048) (C0 : lw_At p s m meth c b L xs) (dC : Nat → ClassId) (dI : Nat → Nat → Nat) (o0 : Nat) (q : Nat → Nat) (ca : Nat → ClassId) (o1 : Nat) (q1 : Nat → Nat) (cb : Nat → ClassId) (hK : va_K (dC, dI) vwCl (tk_t0 ca ++ tk_t1 cb) s) (A : Nat → Prop) (hA : ∀ x, s.heap.size ≤ x → A x) (hA2 : ∀ x, A x → s.heap.size ≤ x) (i k : Nat) (ih : ∀ (i : Nat) (aP aH aT aA aG aK aZ aS : Nat → Int32) (aL : Nat → Int64) (aF : Nat → Int32) (n : Nat) (pa he wk : Nat → Nat) (Hp : Heap) (locs : List Loc) (ls : Array Slot), L ≤ i + k → i ≤ 2060 → tk_inv aP aH aT aA aG aK aZ aL aF pa he wk n → va_P (dC, dI) vwCl (tk_w0 o0 q ca aP aH aT aA aG aK aZ aS n ++ tk_w1 o1 q1 cb aP aH aT aG aL aA aF aS n) Hp → va_D A (tk_w0 o0 q ca aP aH aT aA aG aK aZ aS n ++ tk_w1 o1 q1 cb aP aH aT aG aL aA aF aS n) → va_S A s.heap Hp locs → lv_has ls 4 [(3, .int (nI i)), (2, .ref o1), (1, .ref o0), (0, .ref b)] → W p l e room_1 s m #[Value.ref b] below meth c Hp locs 18 7200 (lw_Z below #[Value.ref b] s) (F0 m 18 ls [])) (aP aH aT aA aG aK aZ aS : Nat → Int32) (aL : Nat → Int64) (aF : Nat → Int32) (n : Nat) (pa he wk : Nat → Nat) (Hp : Heap) (locs : List Loc) (ls : Array Slot) (hk : L ≤ i + (k + 1)) (hi : i + 4 ≤ L) (hinv : tk_inv aP aH aT aA aG aK aZ aL aF pa he wk n) (hP : va_P (dC, dI) vwCl (tk_w0 o0 q ca aP aH aT aA aG aK aZ aS n ++ tk_w1 o1 q1 cb aP aH aT aG aL aA aF aS n) Hp) (hD : va_D A (tk_w0 o0 q ca aP aH aT aA aG aK aZ aS n ++ tk_w1 o1 q1 cb aP aH aT aG aL aA aF aS n)) (hS : va_S A s.heap Hp locs) (hl : lv_has ls 4 [(3, .int (nI i)), (2, .ref o1), (1, .ref o0), (0, .ref b)]) : W p l e room_1 s m #[Value.ref b] below meth c Hp locs 18 7200 (lw_Z below #[Value.ref b] s) (F0 m 309 ls []) := by
  obtain ⟨hx, hb, hr, hml, hown, hts0, hX, hbl, hlocks, hgv⟩ := C0
  have hts := fun w h => hts0 w (wsL_law_in w h)
  have hown : s.vm.findClass RL = some m.cls := hown
  have hbA : ¬ A b := fun h => absurd hbl (Nat.not_lt.mpr (hA2 _ h))
  have hK0 := hK.sub (tys' := tk_t0 ca) [0, 1, 2, 3, 4, 5, 6, 7] rfl
  have hK1 := hK.sub (tys' := tk_t1 cb) [8, 9, 10, 11, 12, 13, 14, 15] rfl
  have hinv0 := hinv
  obtain ⟨hT, hW, hL0, hG, hZ, hF⟩ := hinv0
  have hn := hT.1.2
  have hn1 := hT.1.1
  have hP0 : va_P (dC, dI) vwCl (tk_w0 o0 q ca aP aH aT aA aG aK aZ aS n) Hp := hP.sub [0, 1, 2, 3, 4, 5, 6, 7, 8] rfl
  have hP1 : va_P (dC, dI) vwCl (tk_w1 o1 q1 cb aP aH aT aG aL aA aF aS n) Hp := hP.sub [9, 10, 11, 12, 13, 14, 15, 16, 17] rfl
  refine lv_aload_n hx hb dL_law_309 rfl (lv_at hl 2 rfl) ?_
  refine vp_callSi (W.runV (As := []) (rest := []) ⟨hx, hb, hml, hown, hts⟩ (c0_blocks l dC dI o0 q ca aP aH aT aA aG aK aZ aS n) (cwV 0 hts gL_law_X0_blocks rfl rfl rfl (by decide +kernel) ⟨Nat.le_of_ble_eq_true rfl, Nat.le_of_ble_eq_true rfl⟩) (tk_pre hK0 hP0 rfl rfl) rfl rfl hl.1 rfl (lv_room (Nat.le_of_ble_eq_true rfl)) dL_law_310 ⟨Nat.le_of_ble_eq_true rfl, Nat.le_of_ble_eq_true rfl⟩) (fun r0 hr0 => ?_)
  refine lv_aload_n hx hb dL_law_313 rfl (lv_at hl 1 rfl) ?_
  refine vp_callSi (W.runV (As := []) (rest := [.int r0]) ⟨hx, hb, hml, hown, hts⟩ (c1_blocks l dC dI o1 q1 cb aP aH aT aG aL aA aF aS n) (cwV 0 hts gL_law_X1_blocks rfl rfl rfl (by decide +kernel) ⟨Nat.le_of_ble_eq_true rfl, Nat.le_of_ble_eq_true rfl⟩) (tk_pre hK1 hP1 rfl rfl) rfl rfl hl.1 rfl (lv_room (Nat.le_of_ble_eq_true rfl)) dL_law_314 ⟨Nat.le_of_ble_eq_true rfl, Nat.le_of_ble_eq_true rfl⟩) (fun r1 hr1 => ?_)
  refine lv_icmp_eq (tgt := 322) hx hb dL_law_317 (by decide) (fun hc317 => ?_) (fun hc317 => ?_)
  · refine lv_iinc (k := 0) (v := nI (i + 4)) hx hb dL_law_322 hl rfl (tk_inc4 i) (by decide) rfl (fun ls hl => ?_)
    have hl : lv_has ls 4 [(3, .int (nI (i + 4))), (2, .ref o1), (1, .ref o0), (0, .ref b)] := hl
    refine lv_goto (tgt := 18) hx hb dL_law_325 (by decide) ?_
    exact ih (i + 4) aP aH aT aA aG aK aZ aS aL aF n pa he wk Hp locs ls (by omega) (by omega) hinv hP hD hS hl
  · exact absurd (hr0.trans hr1.symm) hc317
end
section
theorem tk_lsub {L i : Nat} (hL : L < 2 ^ 30) (hi : i < 2 ^ 30) : nI L - nI 4 < nI i ↔ L < i + 4 := by
  rw [Int32.lt_iff_toInt_lt, pk_sub_toInt hL (by decide), nI_toInt (by omega)]; omega
set_option maxHeartbeats 4000000 in
set_option maxRecDepth 100000 in
theorem tk_law_loop {p : Program} {e : Env} {s : State} {m : MethodId} {below : List Frame} {meth : Method} {c : Code} (l : Launch) {b L : Nat} {xs : Nat → Int32} (hL : L ≤ 2048) (C0 : lw_At p s m meth c b L xs) (dC : Nat → ClassId) (dI : Nat → Nat → Nat) (o0 : Nat) (q : Nat → Nat) (ca : Nat → ClassId) (o1 : Nat) (q1 : Nat → Nat) (cb : Nat → ClassId) (hK : va_K (dC, dI) vwCl (tk_t0 ca ++ tk_t1 cb) s) (A : Nat → Prop) (hA : ∀ x, s.heap.size ≤ x → A x) (hA2 : ∀ x, A x → s.heap.size ≤ x) : ∀ (k i : Nat) (aP aH aT aA aG aK aZ aS : Nat → Int32) (aL : Nat → Int64) (aF : Nat → Int32) (n : Nat) (pa he wk : Nat → Nat) (Hp : Heap) (locs : List Loc) (ls : Array Slot), L ≤ i + k → i ≤ 2060 → tk_inv aP aH aT aA aG aK aZ aL aF pa he wk n → va_P (dC, dI) vwCl (tk_w0 o0 q ca aP aH aT aA aG aK aZ aS n ++ tk_w1 o1 q1 cb aP aH aT aG aL aA aF aS n) Hp → va_D A (tk_w0 o0 q ca aP aH aT aA aG aK aZ aS n ++ tk_w1 o1 q1 cb aP aH aT aG aL aA aF aS n) → va_S A s.heap Hp locs → lv_has ls 4 [(3, .int (nI i)), (2, .ref o1), (1, .ref o0), (0, .ref b)] → W p l e room_1 s m #[Value.ref b] below meth c Hp locs 18 7200 (lw_Z below #[Value.ref b] s) (F0 m 18 ls []) := by
  have C1 := C0
  obtain ⟨hx, hb, hr, hml, hown, hts0, hX, hbl, hlocks, hgv⟩ := C0
  have hts := fun w h => hts0 w (wsL_law_in w h)
  have hown : s.vm.findClass RL = some m.cls := hown
  have hbA : ¬ A b := fun h => absurd hbl (Nat.not_lt.mpr (hA2 _ h))
  have hK0 := hK.sub (tys' := tk_t0 ca) [0, 1, 2, 3, 4, 5, 6, 7] rfl
  have hK1 := hK.sub (tys' := tk_t1 cb) [8, 9, 10, 11, 12, 13, 14, 15] rfl
  intro k
  induction k with
  | zero =>
    intro i aP aH aT aA aG aK aZ aS aL aF n pa he wk Hp locs ls hk hi hinv hP hD hS hl
    refine lv_iload_n hx hb dL_law_18 rfl (lv_at hl 0 rfl) ?_
    refine lv_aload_n hx hb dL_law_19 rfl (lv_at hl 3 rfl) ?_
    refine va_slen hx hb hX hbl hbA hS dL_law_20 ?_
    refine tk_top (y := nI L) rfl ?_
    refine lv_iconst (v := nI 4) hx hb dL_law_21 (by decide +kernel) ?_
    refine lv_isub hx hb dL_law_22 ?_
    refine lv_icmp_gt (tgt := 328) hx hb dL_law_23 (by decide) (fun hc23 => ?_) (fun hc23 => ?_)
    · refine lv_iconst (v := 1) hx hb dL_law_328 (by decide +kernel) ?_
      refine va_forget (fun x9 h9 => hA2 _ (hS.2.2 x9 h9)) ?_
      exact lw_ret hx hb hr hlocks dL_law_329
    · exact absurd ((tk_lsub (by omega) (by omega)).mpr (by omega)) hc23
  | succ k ih =>
    intro i aP aH aT aA aG aK aZ aS aL aF n pa he wk Hp locs ls hk hi hinv hP hD hS hl
    refine lv_iload_n hx hb dL_law_18 rfl (lv_at hl 0 rfl) ?_
    refine lv_aload_n hx hb dL_law_19 rfl (lv_at hl 3 rfl) ?_
    refine va_slen hx hb hX hbl hbA hS dL_law_20 ?_
    refine tk_top (y := nI L) rfl ?_
    refine lv_iconst (v := nI 4) hx hb dL_law_21 (by decide +kernel) ?_
    refine lv_isub hx hb dL_law_22 ?_
    refine lv_icmp_gt (tgt := 328) hx hb dL_law_23 (by decide) (fun hc23 => ?_) (fun hc23 => ?_)
    · refine lv_iconst (v := 1) hx hb dL_law_328 (by decide +kernel) ?_
      refine va_forget (fun x9 h9 => hA2 _ (hS.2.2 x9 h9)) ?_
      exact lw_ret hx hb hr hlocks dL_law_329
    · have e23 : i + 4 ≤ L := Nat.le_of_not_lt (fun z => hc23 ((tk_lsub (by omega) (by omega)).mpr z))
      obtain ⟨w, hw, ew⟩ := pk_andE (xs i) (m := nI 15) 4 (by decide +kernel)
      refine lv_aload_n hx hb dL_law_26 rfl (lv_at hl 3 rfl) ?_
      refine lv_iload_n hx hb dL_law_27 rfl (lv_at hl 0 rfl) ?_
      refine tk_sld hx hb hX hbl hbA hS (i) (by omega) (by omega) dL_law_28 ?_
      refine lv_bipush (v := nI 15) hx hb dL_law_29 (by decide +kernel) ?_
      refine lv_iand hx hb dL_law_31 ?_
      refine tk_top (y := nI w) ew ?_
      rcases (show w = 0 ∨ w = 1 ∨ w = 2 ∨ w = 3 ∨ w = 4 ∨ w = 5 ∨ w = 6 ∨ w = 7 ∨ w = 8 ∨ 9 ≤ w by omega) with rfl | rfl | rfl | rfl | rfl | rfl | rfl | rfl | rfl | h9
      · refine lv_tableIn (tgt := 84) (off := 52) hx hb dL_law_32 (by decide +kernel) (by decide +kernel) (by decide +kernel) (by decide) ?_
        exact tk_law_add l hL C1 dC dI o0 q ca o1 q1 cb hK A hA hA2 i k ih aP aH aT aA aG aK aZ aS aL aF n pa he wk Hp locs ls hk e23 hinv hP hD hS hl
      · refine lv_tableIn (tgt := 127) (off := 95) hx hb dL_law_32 (by decide +kernel) (by decide +kernel) (by decide +kernel) (by decide) ?_
        exact tk_law_refuse l hL C1 dC dI o0 q ca o1 q1 cb hK A hA hA2 i k ih aP aH aT aA aG aK aZ aS aL aF n pa he wk Hp locs ls hk e23 hinv hP hD hS hl
      · refine lv_tableIn (tgt := 150) (off := 118) hx hb dL_law_32 (by decide +kernel) (by decide +kernel) (by decide +kernel) (by decide) ?_
        exact tk_law_best l hL C1 dC dI o0 q ca o1 q1 cb hK A hA hA2 i k ih aP aH aT aA aG aK aZ aS aL aF n pa he wk Hp locs ls hk e23 hinv hP hD hS hl
      · refine lv_tableIn (tgt := 163) (off := 131) hx hb dL_law_32 (by decide +kernel) (by decide +kernel) (by decide +kernel) (by decide) ?_
        exact tk_law_fork l hL C1 dC dI o0 q ca o1 q1 cb hK A hA hA2 i k ih aP aH aT aA aG aK aZ aS aL aF n pa he wk Hp locs ls hk e23 hinv hP hD hS hl
      · refine lv_tableIn (tgt := 196) (off := 164) hx hb dL_law_32 (by decide +kernel) (by decide +kernel) (by decide +kernel) (by decide) ?_
        exact tk_law_due l hL C1 dC dI o0 q ca o1 q1 cb hK A hA hA2 i k ih aP aH aT aA aG aK aZ aS aL aF n pa he wk Hp locs ls hk e23 hinv hP hD hS hl
      · refine lv_tableIn (tgt := 219) (off := 187) hx hb dL_law_32 (by decide +kernel) (by decide +kernel) (by decide +kernel) (by decide) ?_
        exact tk_law_median l hL C1 dC dI o0 q ca o1 q1 cb hK A hA hA2 i k ih aP aH aT aA aG aK aZ aS aL aF n pa he wk Hp locs ls hk e23 hinv hP hD hS hl
      · refine lv_tableIn (tgt := 242) (off := 210) hx hb dL_law_32 (by decide +kernel) (by decide +kernel) (by decide +kernel) (by decide) ?_
        exact tk_law_ancestor l hL C1 dC dI o0 q ca o1 q1 cb hK A hA hA2 i k ih aP aH aT aA aG aK aZ aS aL aF n pa he wk Hp locs ls hk e23 hinv hP hD hS hl
      · refine lv_tableIn (tgt := 275) (off := 243) hx hb dL_law_32 (by decide +kernel) (by decide +kernel) (by decide +kernel) (by decide) ?_
        exact tk_law_look l hL C1 dC dI o0 q ca o1 q1 cb hK A hA hA2 i k ih aP aH aT aA aG aK aZ aS aL aF n pa he wk Hp locs ls hk e23 hinv hP hD hS hl
      · refine lv_tableIn (tgt := 309) (off := 277) hx hb dL_law_32 (by decide +kernel) (by decide +kernel) (by decide +kernel) (by decide) ?_
        exact tk_law_blocks l hL C1 dC dI o0 q ca o1 q1 cb hK A hA hA2 i k ih aP aH aT aA aG aK aZ aS aL aF n pa he wk Hp locs ls hk e23 hinv hP hD hS hl
      · refine lv_tableOut (tgt := 322) hx hb dL_law_32 (Or.inr (by rw [nI_toInt (by omega)]; omega)) (by decide) ?_
        refine lv_iinc (k := 0) (v := nI (i + 4)) hx hb dL_law_322 hl rfl (tk_inc4 i) (by decide) rfl (fun ls hl => ?_)
        have hl : lv_has ls 4 [(3, .int (nI (i + 4))), (2, .ref o1), (1, .ref o0), (0, .ref b)] := hl
        refine lv_goto (tgt := 18) hx hb dL_law_325 (by decide) ?_
        exact ih (i + 4) aP aH aT aA aG aK aZ aS aL aF n pa he wk Hp locs ls (by omega) (by omega) hinv hP hD hS hl
end
section
set_option maxHeartbeats 4000000 in
set_option maxRecDepth 100000 in
theorem whole_start {p : Program} {e : Env} {s : State} {m : MethodId} {below : List Frame} {meth : Method} {c : Code} (l : Launch) {b L : Nat} {xs : Nat → Int32} (hL : L ≤ 2048) (C0 : lw_At p s m meth c b L xs) : W p l e room_1 s m #[Value.ref b] below meth c s.heap [] 0 0 (lw_Z below #[Value.ref b] s) (entryFrame m ([Value.ref b] : List Value).toArray 4) := by
  have C1 := C0
  obtain ⟨hx, hb, hr, hml, hown, hts0, hX, hbl, hlocks, hgv⟩ := C0
  have hts := fun w h => hts0 w (wsL_law_in w h)
  have hown : s.vm.findClass RL = some m.cls := hown
  have i0 := hts (.instantiable RX0 9) (by decide +kernel)
  have i1 := hts (.instantiable RX1 9) (by decide +kernel)
  obtain ⟨cC0, iS0, k0⟩ := u_known (T := TX0) (N := 9) hts inlX0 i0
  obtain ⟨cC1, iS1, k1⟩ := u_known (T := TX1) (N := 9) hts inlX1 i1
  obtain ⟨dC, hdC0, hdC1⟩ : ∃ dC : Nat → ClassId, dC 0 = cC0 ∧ dC 1 = cC1 := ⟨fun k => match k with | 0 => cC0 | _ => cC1, rfl, rfl⟩
  obtain ⟨dI, hdI0, hdI1⟩ : ∃ dI : Nat → Nat → Nat, dI 0 = iS0 ∧ dI 1 = iS1 := ⟨fun k => match k with | 0 => iS0 | _ => iS1, rfl, rfl⟩
  rw [← hdC0, ← hdI0] at k0
  rw [← hdC1, ← hdI1] at k1
  have hK : va_K (dC, dI) vwCl [] s := by
    refine ⟨?_, fun k x h => by simp at h⟩
    intro k x hk
    match k, hk with
    | 0, hk => have e9 := Option.some.inj hk; subst e9; exact k0
    | 1, hk => have e9 := Option.some.inj hk; subst e9; exact k1
    | k + 2, hk => have e9 : (none : Option vw_C) = some x := hk; cases e9
  obtain ⟨A, hAe⟩ : ∃ A : Nat → Prop, A = fun x => s.heap.size ≤ x := ⟨_, rfl⟩
  have hA : ∀ x, s.heap.size ≤ x → A x := fun x h => by rw [hAe]; exact h
  have hA2 : ∀ x, A x → s.heap.size ≤ x := fun x h => by rw [hAe] at h; exact h
  have hP : va_P (dC, dI) vwCl [] s.heap := fun k x h => by simp at h
  have hD : va_D A [] := ⟨fun i j x y h => by simp at h, fun k x h => by simp at h⟩
  have hS : va_S A s.heap s.heap [] := va_S.rf
  have hl := lv_entry ([.ref b]) (n := 4) (Nat.le_of_ble_eq_true rfl)
  rw [lg_entry_eq]
  generalize (lg_sl ([.ref b]) ++ List.replicate (4 - (lg_sl ([.ref b])).length) Slot.unset).toArray = ls at hl ⊢
  have hl : lv_has ls 4 [(0, .ref b)] := hl
  refine va_new (ci := 0) (fs := [.null, .null, .null, .null, .null, .null, .null, .null, .int 0]) (C := RX0) (T := TX0) (N := 9) hx hb hts inlX0 tyX0 tyX0_ok hown (hts (.classLink RL 7 RX0) (by decide +kernel)) i0 (hts (.initialized RX0) (by decide +kernel)) hK hP hD hS hA rfl (fun j hj => by rcases (show j = 0 ∨ j = 1 ∨ j = 2 ∨ j = 3 ∨ j = 4 ∨ j = 5 ∨ j = 6 ∨ j = 7 ∨ j = 8 by omega) with rfl | rfl | rfl | rfl | rfl | rfl | rfl | rfl | rfl <;> rfl) (Nat.le_of_ble_eq_true rfl) (Nat.le_of_ble_eq_true rfl) dL_law_0 (fun o0 Hp hP hD hS => ?_)
  have hP : va_P (dC, dI) vwCl ([(o0, .inr (0, [.null, .null, .null, .null, .null, .null, .null, .null, .int 0]))]) Hp := hP
  have hD : va_D A ([(o0, .inr (0, [.null, .null, .null, .null, .null, .null, .null, .null, .int 0]))]) := hD
  refine W.widen (k := 1) (n := 9) (by decide) (by decide) ?_
  refine lv_dup hx hb dL_law_3 rfl ?_
  have hPc := hP.sub (ws' := [(o0, .inr (0, [.null, .null, .null, .null, .null, .null, .null, .null, .int 0]))]) [0] rfl
  have hDc := hD.sub (ws' := [(o0, .inr (0, [.null, .null, .null, .null, .null, .null, .null, .null, .int 0]))]) [0] (by decide) rfl
  have hKc := hK.sub (tys' := []) [] rfl
  have hFc := va_free (wc := [(o0, .inr (0, [.null, .null, .null, .null, .null, .null, .null, .null, .int 0]))]) hD hS hA [0] rfl
  refine va_callv (va_runI (As := []) (rest := [.ref o0]) ⟨hx, hb, hml, hown, hts⟩ (c0_init l dC dI o0 Hp.size) (cwI 0 hts gL_law_X0_init rfl rfl rfl (hts (.initialized RX0) (by decide +kernel)) (hts (.methodLink RL 9 yX0_init) (by decide +kernel)) (hts (.instanceMethod yX0_init) (by decide +kernel)) rfl (by decide +kernel) ⟨Nat.le_of_ble_eq_true rfl, Nat.le_of_ble_eq_true rfl⟩) ⟨fun a U g mk x => ⟨x.1, x.2.1, x.2.2.1, va_K.moved (u := U) (U := U.calling g mk a) (Vm.Alike.refl U.vm) x.2.2.2.1, x.2.2.2.2⟩, fun U hU hW => ⟨rfl, by rw [hU], by rw [hU]; exact hPc, va_K.moved hW.alike hKc, hDc.weaken (fun _ _ _ _ => trivial)⟩⟩ rfl rfl hl.1 rfl (lv_room (Nat.le_of_ble_eq_true rfl)) dL_law_4 ⟨Nat.le_of_ble_eq_true rfl, Nat.le_of_ble_eq_true rfl⟩) hS (fun x _ h => hFc x h) hFc (fun u t Hp2 locs ht hvm hw hB hz1 hk1 hS => ?_)
  obtain ⟨q, ca⟩ := u
  obtain ⟨hP9, hK9, hD9⟩ := hB
  rw [ht] at hP9
  have hK9 := va_K.moved hvm.symm hK9
  have hP : va_P (dC, dI) vwCl (tk_w0 o0 q ca tk_P0 tk_0 tk_0 tk_0 tk_G0 tk_0 tk_0 tk_0 1) Hp2 := hP9
  have hD : va_D A (tk_w0 o0 q ca tk_P0 tk_0 tk_0 tk_0 tk_G0 tk_0 tk_0 tk_0 1) := hD9.weaken (fun _ _ _ h => hFc _ h)
  have hK : va_K (dC, dI) vwCl (tk_t0 ca) s := hK9
  refine W.widen (k := 9) (n := 3600) (by decide) (by decide) ?_
  refine lv_astore_n hx hb dL_law_7 rfl hl (by decide) rfl (fun ls hl => ?_)
  have hl : lv_has ls 4 [(1, .ref o0), (0, .ref b)] := hl
  refine va_new (ci := 1) (fs := [.null, .null, .null, .null, .null, .null, .null, .null, .int 0]) (C := RX1) (T := TX1) (N := 9) hx hb hts inlX1 tyX1 tyX1_ok hown (hts (.classLink RL 10 RX1) (by decide +kernel)) i1 (hts (.initialized RX1) (by decide +kernel)) hK hP hD hS hA rfl (fun j hj => by rcases (show j = 0 ∨ j = 1 ∨ j = 2 ∨ j = 3 ∨ j = 4 ∨ j = 5 ∨ j = 6 ∨ j = 7 ∨ j = 8 by omega) with rfl | rfl | rfl | rfl | rfl | rfl | rfl | rfl | rfl <;> rfl) (Nat.le_of_ble_eq_true rfl) (Nat.le_of_ble_eq_true rfl) dL_law_8 (fun o1 Hp hP hD hS => ?_)
  have hP : va_P (dC, dI) vwCl (tk_w0 o0 q ca tk_P0 tk_0 tk_0 tk_0 tk_G0 tk_0 tk_0 tk_0 1 ++ [(o1, .inr (1, [.null, .null, .null, .null, .null, .null, .null, .null, .int 0]))]) Hp := hP
  have hD : va_D A (tk_w0 o0 q ca tk_P0 tk_0 tk_0 tk_0 tk_G0 tk_0 tk_0 tk_0 1 ++ [(o1, .inr (1, [.null, .null, .null, .null, .null, .null, .null, .null, .int 0]))]) := hD
  refine W.widen (k := 10) (n := 3609) (by decide) (by decide) ?_
  refine lv_dup hx hb dL_law_11 rfl ?_
  have hPc := hP.sub (ws' := [(o1, .inr (1, [.null, .null, .null, .null, .null, .null, .null, .null, .int 0]))]) [9] rfl
  have hDc := hD.sub (ws' := [(o1, .inr (1, [.null, .null, .null, .null, .null, .null, .null, .null, .int 0]))]) [9] (by decide) rfl
  have hKc := hK.sub (tys' := []) [] rfl
  have hFc := va_free (wc := [(o1, .inr (1, [.null, .null, .null, .null, .null, .null, .null, .null, .int 0]))]) hD hS hA [9] rfl
  refine va_callv (va_runI (As := []) (rest := [.ref o1]) ⟨hx, hb, hml, hown, hts⟩ (c1_init l dC dI o1 Hp.size) (cwI 0 hts gL_law_X1_init rfl rfl rfl (hts (.initialized RX1) (by decide +kernel)) (hts (.methodLink RL 12 yX1_init) (by decide +kernel)) (hts (.instanceMethod yX1_init) (by decide +kernel)) rfl (by decide +kernel) ⟨Nat.le_of_ble_eq_true rfl, Nat.le_of_ble_eq_true rfl⟩) ⟨fun a U g mk x => ⟨x.1, x.2.1, x.2.2.1, va_K.moved (u := U) (U := U.calling g mk a) (Vm.Alike.refl U.vm) x.2.2.2.1, x.2.2.2.2⟩, fun U hU hW => ⟨rfl, by rw [hU], by rw [hU]; exact hPc, va_K.moved hW.alike hKc, hDc.weaken (fun _ _ _ _ => trivial)⟩⟩ rfl rfl hl.1 rfl (lv_room (Nat.le_of_ble_eq_true rfl)) dL_law_12 ⟨Nat.le_of_ble_eq_true rfl, Nat.le_of_ble_eq_true rfl⟩) hS (fun x _ h => hFc x h) hFc (fun u t Hp2 locs ht hvm hw hB hz1 hk1 hS => ?_)
  obtain ⟨q1, cb⟩ := u
  obtain ⟨hP9, hK9, hD9⟩ := hB
  rw [ht] at hP9
  have hK9 := va_K.moved hvm.symm hK9
  obtain ⟨hP, hD⟩ := va_join (wr := tk_w0 o0 q ca tk_P0 tk_0 tk_0 tk_0 tk_G0 tk_0 tk_0 tk_0 1) (w1 := tk_w1 o1 q1 cb tk_P0 tk_0 tk_0 tk_G0 (fun _ => 0) tk_0 tk_0 tk_0 1) hP hD [9] [0, 1, 2, 3, 4, 5, 6, 7, 8] rfl rfl (by decide) (by decide) hk1 hFc hP9 hD9
  have hK : va_K (dC, dI) vwCl (tk_t0 ca ++ tk_t1 cb) s := hK.app hK9
  refine W.widen (k := 18) (n := 7200) (by decide) (by decide) ?_
  refine lv_astore_n hx hb dL_law_15 rfl hl (by decide) rfl (fun ls hl => ?_)
  have hl : lv_has ls 4 [(2, .ref o1), (1, .ref o0), (0, .ref b)] := hl
  refine lv_iconst (v := nI 0) hx hb dL_law_16 (by decide +kernel) ?_
  refine lv_istore_n hx hb dL_law_17 rfl hl (by decide) rfl (fun ls hl => ?_)
  have hl : lv_has ls 4 [(3, .int (nI 0)), (2, .ref o1), (1, .ref o0), (0, .ref b)] := hl
  exact tk_law_loop l hL C1 dC dI o0 q ca o1 q1 cb hK A hA hA2 L 0 _ _ _ _ _ _ _ _ _ _ 1 (fun _ => 0) (fun _ => 0) (fun _ => 0) Hp2 locs ls (by omega) (by omega) tk_inv0 hP hD hS hl
set_option maxHeartbeats 4000000 in
theorem lw_walk (l : Launch) (b : Addr) (xs : List Int32) : MetFree l x (headSpec (Jvm.Cond.code x code maxLocals ret :: tables_1) room_1) (lw_P b xs) (fun _ _ _ _ _ => True) lw_Q := by
  refine MetFree.of_bodyS (code := code) (maxLocals := maxLocals) (ret := ret) (by decide) ?_ ?_
  · intro args s m h hn
    obtain ⟨meth, c, h1, h2, h3, h4, h5, h6, -, -⟩ := Cond.code_spec hn (atoms_spec (ws := Jvm.Cond.code x code maxLocals ret :: tables_1) h _ List.mem_cons_self)
    exact ⟨meth, c, h1, h2, h3, h4, h5, h6⟩
  · intro p e s m args below meth c s₁ B hml0 hP _
    obtain ⟨rfl, hx, hbd, hgv⟩ := hP
    obtain ⟨scr, harrAt, hlist, hof, hsmall⟩ := hx
    obtain ⟨hcb, hkn, -, -⟩ := State.arrayAt?_spec harrAt
    have hown : s.vm.findClass R_law = some m.cls := findClass_of_methodNamed B.named
    have hts0 : ∀ c ∈ (Jvm.Cond.code x code maxLocals ret :: tables_1), c.before #[Value.ref b] s = true := atoms_spec (ws := Jvm.Cond.code x code maxLocals ret :: tables_1) B.pre
    have hts : ∀ w ∈ lw_tbl, w.before #[Value.ref b] s = true := k2_hts_sels lw_privs (fun w hw => hts0 w (List.mem_cons_of_mem _ hw)) lw_privs_ok
    have hml : c.maxLocals = 4 := B.maxLocals_eq (hts0 _ List.mem_cons_self)
    have X₀ : Stand p l e room_1 s m #[Value.ref b] below meth c s₁ [] 0 0 := Stand.of_body B
    have hh0 : s₁.heap = s.heap := by rw [B.state]; rfl
    have hsz : scr.slots.size = xs.length := by rw [← Array.length_toList, hlist, List.length_map]
    have hval : ∀ j : Nat, j < xs.length → scr.slots[j]? = some (.int (xs.getD j 0)) := fun j hj => by
      rw [← Array.getElem?_toList, hlist]
      simp [hj]
    have hbl : b < s.heap.size := (Array.getElem?_eq_some_iff.mp hcb).1
    have hX : va_X b xs.length (fun j => xs.getD j 0) s s.heap := ⟨scr, hcb, hof, hkn, hsz, hval⟩
    have K : W p l e room_1 s m #[Value.ref b] below meth c s₁.heap [] 0 0 (lw_Z below #[Value.ref b] s) (entryFrame m ([Value.ref b] : List Value).toArray 4) := by
      rw [hh0]
      exact whole_start l hbd ⟨B.exec, B.bytes, B.returns, hml, hown, hts, hX, hbl, B.notSynchronized, hgv⟩
    obtain ⟨t, a1, o, b1, b2, b3⟩ := K s₁ rfl X₀
    exact ⟨t, o, a1, b1, b2, b3⟩
theorem lw_pre_spec {args : Array Value} {s : State} (h : (Jvm.Cond.and given_1 narrow_1).before args s = true) (hr : rest_1_c.before args s = true) : ∃ (b : Addr) (xs : List Int32), lw_P b xs args s := by
  have hs := flat_of_before _ h
  have hq := flat_of_before _ hr
  have hc : (Cond.count 1).before args s = true := hs _ (by decide +kernel)
  have harr : (Cond.arrayOf (.arg 0) .int).before args s = true := hs _ (by decide +kernel)
  have hle : (Cond.le (.length (.arg 0)) (.int 2048)).before args s = true := hs _ (by decide +kernel)
  have hlen : (Cond.isInt (.length (.arg 0))).before args s = true := hq _ (by decide +kernel)
  have hall : (Cond.all (.arg 0) (.isInt (.elem (.arg 0) (.index 0)))).before args s = true := hq _ (by decide +kernel)
  obtain ⟨b, xs, hb, hx⟩ := State.ints_of_pre rfl harr hlen hall
  have hsm : xs.length < 2 ^ 31 := hx.choose_spec.2.2.2
  have hev : (Term.length (.arg 0)).eval args s none [] s = some (.int xs.length.toInt32) := hx.length_eval hb
  have hv := Cond.le_ints hev (show (Term.int 2048).eval args s none [] s = some (.int 2048) from rfl)
  have hd : xs.length.toInt32 ≤ 2048 := by
    simpa [Cond.before, Cond.holds, hv] using hle
  have hN : xs.length ≤ 2048 := (Int32.ofNat_le_ofNat hsm (by decide)).mp (show Int32.ofNat xs.length ≤ Int32.ofNat 2048 from hd)
  exact ⟨b, xs, Cond.one_arg hc (show args[0]? = some (.ref b) from hb), hx, hN, h⟩
theorem lw_comes (l : Launch) : Comes l x (Jvm.Cond.code x code maxLocals ret :: tables_1) room_1 (fun tb e args s => Calls_1 tb e args s ∧ rest_1 tb e args s ∧ Pre_1 tb e args s)
    (fun _ _ args s o t => lw_Q args s o t) := by
  intro p e ha hc hk s m args below hf hfit hheap happ hpre
  obtain ⟨b, xs, hP⟩ := lw_pre_spec hpre.2.2 hpre.2.1
  obtain ⟨k, o, h1, h2, h3, hQ⟩ := lw_walk l b xs p e ha hc hk s m args below hf ((Spec.applies_iff_loose hf).mp happ).1 hP trivial
  exact ⟨k, o, h1, h2, h3, hQ⟩
theorem lw_frame {s t : State} {o : Outcome} {args : Array Value} (h : Framed s o t [] 18 7200) :
    Framed s o t (fieldLocs frame_1_writes args s ++ arrayLocs frame_1_arrays args s ++ staticLocs frame_1_statics s) 18 7200 := h
theorem lw_limb (L : Cond) (hL : ∀ (args : Array Value) (s t : State), L.after args s (.returned (some (.int 1))) t = true) :
    ArmFor flags0 classFile x code maxLocals ret World_1 tables_1 room_1 Calls_1 rest_1 Pre_1
      (fun tb e a s o t => postC L tb e a s o t ∧ Framed s o t (fieldLocs frame_1_writes a s ++ arrayLocs frame_1_arrays a s ++ staticLocs frame_1_statics s) 18 7200) := by
  intro l _ _ _ p e ha hc hk s m args below hf hfit hheap happ hpre
  obtain ⟨k, o, h1, h2, h3, rfl, hF⟩ := lw_comes l p e ha hc hk s m args below hf hfit hheap happ hpre
  exact ⟨k, _, h1, h2, h3, hL args s _, lw_frame hF⟩
theorem i_vc : Claimed_1_1 ∧ Claimed_1_2 := ⟨lw_limb limb_1_1 (fun args s t => by simp [limb_1_1, Cond.after, Cond.holds, Cond.value]), lw_limb limb_1_2 (fun args s t => Cond.after_iff.mpr (by
  first | (rw [show limb_1_2 = Cond.eq .result (.int 1) from rfl, Cond.eq_ints (x := 1) (y := 1) rfl rfl]; simp; done) | (simp [limb_1_2, Cond.value, Term.eval]; done)))⟩
end
