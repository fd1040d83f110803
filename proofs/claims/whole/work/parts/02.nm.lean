def RX0 : String := "AlarmBench"
def TX0 : u_T := fun k => match k with
  | 0 => ("AlarmBench", "isSet", "[Z", true)
  | 1 => ("AlarmBench", "dueAt", "[I", true)
  | 2 => ("AlarmBench", "telling", "[I", true)
  | 3 => ("AlarmBench", "rank", "[I", true)
  | 4 => ("AlarmBench", "now", "I", false)
  | 5 => ("AlarmBench", "lastRank", "I", false)
  | 6 => ("AlarmBench", "rungTold", "I", false)
  | _ => ("AlarmBench", "rungDue", "I", false)
def tyX0 : Nat → FieldType := fun k => match k with
  | 0 => .array .boolean
  | 1 => .array .int
  | 2 => .array .int
  | 3 => .array .int
  | 4 => .int
  | 5 => .int
  | 6 => .int
  | _ => .int
abbrev wsX00 : List Cond := u_ws RX0 TX0 8
theorem nmX0 : ∀ a, a < 8 → ∀ b, b < 8 → a ≠ b → (TX0 a).2.1 ≠ (TX0 b).2.1 := by decide +kernel
theorem tyX0_ok : ∀ k, k < 8 → parseFieldDescriptor (TX0 k).2.2.1 = some (tyX0 k) := by decide +kernel
abbrev cX0_init : ByteArray := prog_1_method_1_code
def yX0_init : MethodName := ⟨RX0, "<init>", "()V"⟩
abbrev cX0_set : ByteArray := prog_1_method_2_code
def yX0_set : MethodName := ⟨RX0, "set", "(II)I"⟩
abbrev cX0_shift : ByteArray := prog_1_method_3_code
def yX0_shift : MethodName := ⟨RX0, "shift", "(II)I"⟩
abbrev cX0_stop : ByteArray := prog_1_method_4_code
def yX0_stop : MethodName := ⟨RX0, "stop", "(I)I"⟩
abbrev cX0_stopAll : ByteArray := prog_1_method_5_code
def yX0_stopAll : MethodName := ⟨RX0, "stopAll", "(I)I"⟩
abbrev cX0_pass : ByteArray := prog_1_method_6_code
def yX0_pass : MethodName := ⟨RX0, "pass", "(I)I"⟩
abbrev cX0_ring : ByteArray := prog_1_method_7_code
def yX0_ring : MethodName := ⟨RX0, "ring", "()I"⟩
abbrev cX0_told : ByteArray := prog_1_method_8_code
def yX0_told : MethodName := ⟨RX0, "told", "()I"⟩
abbrev cX0_wasDue : ByteArray := prog_1_method_9_code
def yX0_wasDue : MethodName := ⟨RX0, "wasDue", "()I"⟩
abbrev cX0_next : ByteArray := prog_1_method_10_code
def yX0_next : MethodName := ⟨RX0, "next", "()I"⟩
abbrev cX0_about : ByteArray := prog_1_method_11_code
def yX0_about : MethodName := ⟨RX0, "about", "(II)I"⟩
abbrev cX0_count : ByteArray := prog_1_method_12_code
def yX0_count : MethodName := ⟨RX0, "count", "(Z)I"⟩
abbrev cX0_time : ByteArray := prog_1_method_13_code
def yX0_time : MethodName := ⟨RX0, "time", "()I"⟩
abbrev cX0_exists : ByteArray := prog_1_method_14_code
def yX0_exists : MethodName := ⟨RX0, "exists", "(I)Z"⟩
abbrev cX0_isReady : ByteArray := prog_1_method_15_code
def yX0_isReady : MethodName := ⟨RX0, "isReady", "(I)Z"⟩
abbrev cX0_canBeAhead : ByteArray := prog_1_method_16_code
def yX0_canBeAhead : MethodName := ⟨RX0, "canBeAhead", "(I)Z"⟩
abbrev cX0_isBehindLastTime : ByteArray := prog_1_method_17_code
def yX0_isBehindLastTime : MethodName := ⟨RX0, "isBehindLastTime", "(I)Z"⟩
abbrev cX0_putAhead : ByteArray := prog_1_method_18_code
def yX0_putAhead : MethodName := ⟨RX0, "putAhead", "(II)V"⟩
abbrev cX0_leastFree : ByteArray := prog_1_method_19_code
def yX0_leastFree : MethodName := ⟨RX0, "leastFree", "()I"⟩
abbrev cX0_first : ByteArray := prog_1_method_20_code
def yX0_first : MethodName := ⟨RX0, "first", "()I"⟩
abbrev cX0_isBefore : ByteArray := prog_1_method_21_code
def yX0_isBefore : MethodName := ⟨RX0, "isBefore", "(II)Z"⟩
def RL : String := "AlarmBenchLaw"
abbrev cL_set : ByteArray := method_3_code
def yL_set : MethodName := ⟨RL, "set", "(LAlarmBench;II[J)I"⟩
abbrev cL_shift : ByteArray := method_4_code
def yL_shift : MethodName := ⟨RL, "shift", "(LAlarmBench;II[J)I"⟩
abbrev cL_stop : ByteArray := method_5_code
def yL_stop : MethodName := ⟨RL, "stop", "(LAlarmBench;I[J)I"⟩
abbrev cL_pass : ByteArray := method_6_code
def yL_pass : MethodName := ⟨RL, "pass", "(LAlarmBench;I[J)I"⟩
abbrev cL_about : ByteArray := method_7_code
def yL_about : MethodName := ⟨RL, "about", "(LAlarmBench;II[J)I"⟩
abbrev cL_law : ByteArray := code
def yL_law : MethodName := ⟨RL, "law", "([I)Z"⟩
def wsX0_init : List Cond := .code yX0_init cX0_init 1 none :: ([.methodLink RX0 1 objectInit, .instanceMethod objectInit, .code objectInit ⟨#[0xb1]⟩ 1 none, .arrayClass .boolean, .fieldLink RX0 9 "AlarmBench" "isSet" "[Z", .arrayClass .int, .fieldLink RX0 13 "AlarmBench" "dueAt" "[I", .fieldLink RX0 17 "AlarmBench" "telling" "[I", .fieldLink RX0 20 "AlarmBench" "rank" "[I", .fieldLink RX0 23 "AlarmBench" "now" "I", .fieldLink RX0 27 "AlarmBench" "lastRank" "I", .fieldLink RX0 30 "AlarmBench" "rungTold" "I", .fieldLink RX0 33 "AlarmBench" "rungDue" "I"] ++ wsX00)
def wsX0_canBeAhead : List Cond := .code yX0_canBeAhead cX0_canBeAhead 1 (some .boolean) :: ([.constant RX0 83 (1000000000)])
def wsX0_leastFree : List Cond := .code yX0_leastFree cX0_leastFree 2 (some .int) :: ([.fieldLink RX0 9 "AlarmBench" "isSet" "[Z"] ++ wsX00)
def wsX0_isBehindLastTime : List Cond := .code yX0_isBehindLastTime cX0_isBehindLastTime 2 (some .boolean) :: ([.constant RX0 83 (1000000000), .fieldLink RX0 23 "AlarmBench" "now" "I"] ++ wsX00)
def wsX0_putAhead : List Cond := .code yX0_putAhead cX0_putAhead 3 none :: ([.fieldLink RX0 13 "AlarmBench" "dueAt" "[I", .fieldLink RX0 23 "AlarmBench" "now" "I", .fieldLink RX0 27 "AlarmBench" "lastRank" "I", .fieldLink RX0 20 "AlarmBench" "rank" "[I"] ++ wsX00)
def wsX0_set_r1 : List Cond := [Cond.classLink RX0 40 "java/lang/IllegalArgumentException", Cond.initialized "java/lang/IllegalArgumentException", Cond.classLink RX0 51 "java/lang/IllegalStateException", Cond.initialized "java/lang/IllegalStateException", Cond.fieldLink RX0 9 "AlarmBench" "isSet" "[Z", Cond.fieldLink RX0 17 "AlarmBench" "telling" "[I", Cond.methodLink RX0 36 yX0_canBeAhead, Cond.static yX0_canBeAhead, Cond.initialized RX0, Cond.code yX0_canBeAhead cX0_canBeAhead 1 (some .boolean), Cond.constant RX0 83 (1000000000), Cond.methodLink RX0 47 yX0_leastFree, Cond.instanceMethod yX0_leastFree, Cond.selects RX0 yX0_leastFree yX0_leastFree, Cond.code yX0_leastFree cX0_leastFree 2 (some .int), Cond.methodLink RX0 56 yX0_isBehindLastTime, Cond.instanceMethod yX0_isBehindLastTime, Cond.selects RX0 yX0_isBehindLastTime yX0_isBehindLastTime, Cond.code yX0_isBehindLastTime cX0_isBehindLastTime 2 (some .boolean), Cond.fieldLink RX0 23 "AlarmBench" "now" "I", Cond.methodLink RX0 61 yX0_putAhead, Cond.instanceMethod yX0_putAhead, Cond.selects RX0 yX0_putAhead yX0_putAhead, Cond.code yX0_putAhead cX0_putAhead 3 none]
def wsX0_set_r2 : List Cond := [Cond.fieldLink RX0 13 "AlarmBench" "dueAt" "[I", Cond.fieldLink RX0 27 "AlarmBench" "lastRank" "I", Cond.fieldLink RX0 20 "AlarmBench" "rank" "[I"]
def wsX0_set : List Cond := .code yX0_set cX0_set 4 (some .int) :: ((wsX0_set_r1 ++ wsX0_set_r2) ++ wsX00 ++ (vx_atS RX0 44 "java/lang/IllegalArgumentException" ["java/lang/RuntimeException", "java/lang/Exception"]).filter goodWord ++ (vx_atS RX0 55 "java/lang/IllegalStateException" ["java/lang/RuntimeException", "java/lang/Exception"]).filter goodWord)
def wsX0_exists : List Cond := .code yX0_exists cX0_exists 2 (some .boolean) :: ([.fieldLink RX0 9 "AlarmBench" "isSet" "[Z"] ++ wsX00)
def wsX0_shift_r1 : List Cond := [Cond.classLink RX0 40 "java/lang/IllegalArgumentException", Cond.initialized "java/lang/IllegalArgumentException", Cond.classLink RX0 51 "java/lang/IllegalStateException", Cond.initialized "java/lang/IllegalStateException", Cond.fieldLink RX0 13 "AlarmBench" "dueAt" "[I", Cond.fieldLink RX0 23 "AlarmBench" "now" "I", Cond.methodLink RX0 65 yX0_exists, Cond.instanceMethod yX0_exists, Cond.selects RX0 yX0_exists yX0_exists, Cond.initialized RX0, Cond.code yX0_exists cX0_exists 2 (some .boolean), Cond.fieldLink RX0 9 "AlarmBench" "isSet" "[Z", Cond.methodLink RX0 36 yX0_canBeAhead, Cond.static yX0_canBeAhead, Cond.code yX0_canBeAhead cX0_canBeAhead 1 (some .boolean), Cond.constant RX0 83 (1000000000), Cond.methodLink RX0 56 yX0_isBehindLastTime, Cond.instanceMethod yX0_isBehindLastTime, Cond.selects RX0 yX0_isBehindLastTime yX0_isBehindLastTime, Cond.code yX0_isBehindLastTime cX0_isBehindLastTime 2 (some .boolean), Cond.methodLink RX0 61 yX0_putAhead, Cond.instanceMethod yX0_putAhead, Cond.selects RX0 yX0_putAhead yX0_putAhead, Cond.code yX0_putAhead cX0_putAhead 3 none]
def wsX0_shift_r2 : List Cond := [Cond.fieldLink RX0 27 "AlarmBench" "lastRank" "I", Cond.fieldLink RX0 20 "AlarmBench" "rank" "[I"]
def wsX0_shift : List Cond := .code yX0_shift cX0_shift 4 (some .int) :: ((wsX0_shift_r1 ++ wsX0_shift_r2) ++ wsX00 ++ (vx_atS RX0 44 "java/lang/IllegalArgumentException" ["java/lang/RuntimeException", "java/lang/Exception"]).filter goodWord ++ (vx_atS RX0 55 "java/lang/IllegalStateException" ["java/lang/RuntimeException", "java/lang/Exception"]).filter goodWord)
def wsX0_stop : List Cond := .code yX0_stop cX0_stop 2 (some .int) :: ([.classLink RX0 40 "java/lang/IllegalArgumentException", .initialized "java/lang/IllegalArgumentException", .fieldLink RX0 9 "AlarmBench" "isSet" "[Z", .fieldLink RX0 17 "AlarmBench" "telling" "[I", .methodLink RX0 65 yX0_exists, .instanceMethod yX0_exists, .selects RX0 yX0_exists yX0_exists, .initialized RX0, .code yX0_exists cX0_exists 2 (some .boolean)] ++ wsX00 ++ (vx_atS RX0 44 "java/lang/IllegalArgumentException" ["java/lang/RuntimeException", "java/lang/Exception"]).filter goodWord)
def wsX0_stopAll : List Cond := .code yX0_stopAll cX0_stopAll 4 (some .int) :: ([.fieldLink RX0 9 "AlarmBench" "isSet" "[Z", .fieldLink RX0 17 "AlarmBench" "telling" "[I"] ++ wsX00)
def wsX0_pass : List Cond := .code yX0_pass cX0_pass 2 (some .int) :: ([.classLink RX0 40 "java/lang/IllegalArgumentException", .initialized "java/lang/IllegalArgumentException", .classLink RX0 51 "java/lang/IllegalStateException", .initialized "java/lang/IllegalStateException", .constant RX0 70 (200000), .fieldLink RX0 23 "AlarmBench" "now" "I", .methodLink RX0 56 yX0_isBehindLastTime, .instanceMethod yX0_isBehindLastTime, .selects RX0 yX0_isBehindLastTime yX0_isBehindLastTime, .initialized RX0, .code yX0_isBehindLastTime cX0_isBehindLastTime 2 (some .boolean), .constant RX0 83 (1000000000)] ++ wsX00 ++ (vx_atS RX0 44 "java/lang/IllegalArgumentException" ["java/lang/RuntimeException", "java/lang/Exception"]).filter goodWord ++ (vx_atS RX0 55 "java/lang/IllegalStateException" ["java/lang/RuntimeException", "java/lang/Exception"]).filter goodWord)
def wsX0_isBefore : List Cond := .code yX0_isBefore cX0_isBefore 3 (some .boolean) :: ([.fieldLink RX0 13 "AlarmBench" "dueAt" "[I", .fieldLink RX0 20 "AlarmBench" "rank" "[I"] ++ wsX00)
def wsX0_first : List Cond := .code yX0_first cX0_first 3 (some .int) :: ([.fieldLink RX0 9 "AlarmBench" "isSet" "[Z", .methodLink RX0 84 yX0_isBefore, .instanceMethod yX0_isBefore, .selects RX0 yX0_isBefore yX0_isBefore, .initialized RX0, .code yX0_isBefore cX0_isBefore 3 (some .boolean), .fieldLink RX0 13 "AlarmBench" "dueAt" "[I", .fieldLink RX0 20 "AlarmBench" "rank" "[I"] ++ wsX00)
def wsX0_isReady : List Cond := .code yX0_isReady cX0_isReady 2 (some .boolean) :: ([.fieldLink RX0 13 "AlarmBench" "dueAt" "[I", .fieldLink RX0 23 "AlarmBench" "now" "I"] ++ wsX00)
def wsX0_ring : List Cond := .code yX0_ring cX0_ring 2 (some .int) :: ([.fieldLink RX0 9 "AlarmBench" "isSet" "[Z", .fieldLink RX0 17 "AlarmBench" "telling" "[I", .fieldLink RX0 30 "AlarmBench" "rungTold" "I", .fieldLink RX0 13 "AlarmBench" "dueAt" "[I", .fieldLink RX0 33 "AlarmBench" "rungDue" "I", .methodLink RX0 75 yX0_first, .instanceMethod yX0_first, .selects RX0 yX0_first yX0_first, .initialized RX0, .code yX0_first cX0_first 3 (some .int), .methodLink RX0 84 yX0_isBefore, .instanceMethod yX0_isBefore, .selects RX0 yX0_isBefore yX0_isBefore, .code yX0_isBefore cX0_isBefore 3 (some .boolean), .fieldLink RX0 20 "AlarmBench" "rank" "[I", .methodLink RX0 78 yX0_isReady, .instanceMethod yX0_isReady, .selects RX0 yX0_isReady yX0_isReady, .code yX0_isReady cX0_isReady 2 (some .boolean), .fieldLink RX0 23 "AlarmBench" "now" "I"] ++ wsX00)
def wsX0_told : List Cond := .code yX0_told cX0_told 1 (some .int) :: ([.fieldLink RX0 30 "AlarmBench" "rungTold" "I"] ++ wsX00)
def wsX0_wasDue : List Cond := .code yX0_wasDue cX0_wasDue 1 (some .int) :: ([.fieldLink RX0 33 "AlarmBench" "rungDue" "I"] ++ wsX00)
def wsX0_next : List Cond := .code yX0_next cX0_next 2 (some .int) :: ([.fieldLink RX0 13 "AlarmBench" "dueAt" "[I", .methodLink RX0 75 yX0_first, .instanceMethod yX0_first, .selects RX0 yX0_first yX0_first, .initialized RX0, .code yX0_first cX0_first 3 (some .int), .fieldLink RX0 9 "AlarmBench" "isSet" "[Z", .methodLink RX0 84 yX0_isBefore, .instanceMethod yX0_isBefore, .selects RX0 yX0_isBefore yX0_isBefore, .code yX0_isBefore cX0_isBefore 3 (some .boolean), .fieldLink RX0 20 "AlarmBench" "rank" "[I"] ++ wsX00)
def wsX0_about : List Cond := .code yX0_about cX0_about 3 (some .int) :: ([.classLink RX0 40 "java/lang/IllegalArgumentException", .initialized "java/lang/IllegalArgumentException", .fieldLink RX0 13 "AlarmBench" "dueAt" "[I", .fieldLink RX0 17 "AlarmBench" "telling" "[I", .methodLink RX0 65 yX0_exists, .instanceMethod yX0_exists, .selects RX0 yX0_exists yX0_exists, .initialized RX0, .code yX0_exists cX0_exists 2 (some .boolean), .fieldLink RX0 9 "AlarmBench" "isSet" "[Z"] ++ wsX00 ++ (vx_atS RX0 44 "java/lang/IllegalArgumentException" ["java/lang/RuntimeException", "java/lang/Exception"]).filter goodWord)
def wsX0_count : List Cond := .code yX0_count cX0_count 4 (some .int) :: ([.fieldLink RX0 9 "AlarmBench" "isSet" "[Z", .methodLink RX0 78 yX0_isReady, .instanceMethod yX0_isReady, .selects RX0 yX0_isReady yX0_isReady, .initialized RX0, .code yX0_isReady cX0_isReady 2 (some .boolean), .fieldLink RX0 13 "AlarmBench" "dueAt" "[I", .fieldLink RX0 23 "AlarmBench" "now" "I"] ++ wsX00)
def wsX0_time : List Cond := .code yX0_time cX0_time 1 (some .int) :: ([.fieldLink RX0 23 "AlarmBench" "now" "I"] ++ wsX00)
def wsL_set_r1 : List Cond := [Cond.classLink RL 13 "java/lang/IllegalArgumentException", Cond.classLink RL 15 "java/lang/IllegalStateException", Cond.methodLink RL 7 yX0_set, Cond.instanceMethod yX0_set, Cond.selects RX0 yX0_set yX0_set, Cond.initialized RX0, Cond.code yX0_set cX0_set 4 (some .int), Cond.classLink RX0 40 "java/lang/IllegalArgumentException", Cond.initialized "java/lang/IllegalArgumentException", Cond.classLink RX0 51 "java/lang/IllegalStateException", Cond.initialized "java/lang/IllegalStateException", Cond.fieldLink RX0 9 "AlarmBench" "isSet" "[Z", Cond.fieldLink RX0 17 "AlarmBench" "telling" "[I", Cond.methodLink RX0 36 yX0_canBeAhead, Cond.static yX0_canBeAhead, Cond.code yX0_canBeAhead cX0_canBeAhead 1 (some .boolean), Cond.constant RX0 83 (1000000000), Cond.methodLink RX0 47 yX0_leastFree, Cond.instanceMethod yX0_leastFree, Cond.selects RX0 yX0_leastFree yX0_leastFree, Cond.code yX0_leastFree cX0_leastFree 2 (some .int), Cond.methodLink RX0 56 yX0_isBehindLastTime, Cond.instanceMethod yX0_isBehindLastTime, Cond.selects RX0 yX0_isBehindLastTime yX0_isBehindLastTime]
def wsL_set_r2 : List Cond := [Cond.code yX0_isBehindLastTime cX0_isBehindLastTime 2 (some .boolean), Cond.fieldLink RX0 23 "AlarmBench" "now" "I", Cond.methodLink RX0 61 yX0_putAhead, Cond.instanceMethod yX0_putAhead, Cond.selects RX0 yX0_putAhead yX0_putAhead, Cond.code yX0_putAhead cX0_putAhead 3 none, Cond.fieldLink RX0 13 "AlarmBench" "dueAt" "[I", Cond.fieldLink RX0 27 "AlarmBench" "lastRank" "I", Cond.fieldLink RX0 20 "AlarmBench" "rank" "[I"]
def wsL_set : List Cond := .codeWith yL_set cL_set 5 (some .int) [(0, 10, 13, 13), (0, 10, 17, 15)] :: ((wsL_set_r1 ++ wsL_set_r2) ++ wsX00 ++ (vx_atS RX0 44 "java/lang/IllegalArgumentException" ["java/lang/RuntimeException", "java/lang/Exception"]).filter goodWord ++ (vx_atS RX0 55 "java/lang/IllegalStateException" ["java/lang/RuntimeException", "java/lang/Exception"]).filter goodWord)
def wsL_shift_r1 : List Cond := [Cond.classLink RL 13 "java/lang/IllegalArgumentException", Cond.classLink RL 15 "java/lang/IllegalStateException", Cond.methodLink RL 17 yX0_shift, Cond.instanceMethod yX0_shift, Cond.selects RX0 yX0_shift yX0_shift, Cond.initialized RX0, Cond.code yX0_shift cX0_shift 4 (some .int), Cond.classLink RX0 40 "java/lang/IllegalArgumentException", Cond.initialized "java/lang/IllegalArgumentException", Cond.classLink RX0 51 "java/lang/IllegalStateException", Cond.initialized "java/lang/IllegalStateException", Cond.fieldLink RX0 13 "AlarmBench" "dueAt" "[I", Cond.fieldLink RX0 23 "AlarmBench" "now" "I", Cond.methodLink RX0 65 yX0_exists, Cond.instanceMethod yX0_exists, Cond.selects RX0 yX0_exists yX0_exists, Cond.code yX0_exists cX0_exists 2 (some .boolean), Cond.fieldLink RX0 9 "AlarmBench" "isSet" "[Z", Cond.methodLink RX0 36 yX0_canBeAhead, Cond.static yX0_canBeAhead, Cond.code yX0_canBeAhead cX0_canBeAhead 1 (some .boolean), Cond.constant RX0 83 (1000000000), Cond.methodLink RX0 56 yX0_isBehindLastTime, Cond.instanceMethod yX0_isBehindLastTime]
def wsL_shift_r2 : List Cond := [Cond.selects RX0 yX0_isBehindLastTime yX0_isBehindLastTime, Cond.code yX0_isBehindLastTime cX0_isBehindLastTime 2 (some .boolean), Cond.methodLink RX0 61 yX0_putAhead, Cond.instanceMethod yX0_putAhead, Cond.selects RX0 yX0_putAhead yX0_putAhead, Cond.code yX0_putAhead cX0_putAhead 3 none, Cond.fieldLink RX0 27 "AlarmBench" "lastRank" "I", Cond.fieldLink RX0 20 "AlarmBench" "rank" "[I"]
def wsL_shift : List Cond := .codeWith yL_shift cL_shift 5 (some .int) [(0, 10, 13, 13), (0, 10, 17, 15)] :: ((wsL_shift_r1 ++ wsL_shift_r2) ++ wsX00 ++ (vx_atS RX0 44 "java/lang/IllegalArgumentException" ["java/lang/RuntimeException", "java/lang/Exception"]).filter goodWord ++ (vx_atS RX0 55 "java/lang/IllegalStateException" ["java/lang/RuntimeException", "java/lang/Exception"]).filter goodWord)
def wsL_stop : List Cond := .codeWith yL_stop cL_stop 4 (some .int) [(0, 9, 12, 13)] :: ([.classLink RL 13 "java/lang/IllegalArgumentException", .methodLink RL 20 yX0_stop, .instanceMethod yX0_stop, .selects RX0 yX0_stop yX0_stop, .initialized RX0, .code yX0_stop cX0_stop 2 (some .int), .classLink RX0 40 "java/lang/IllegalArgumentException", .initialized "java/lang/IllegalArgumentException", .fieldLink RX0 9 "AlarmBench" "isSet" "[Z", .fieldLink RX0 17 "AlarmBench" "telling" "[I", .methodLink RX0 65 yX0_exists, .instanceMethod yX0_exists, .selects RX0 yX0_exists yX0_exists, .code yX0_exists cX0_exists 2 (some .boolean)] ++ wsX00 ++ (vx_atS RX0 44 "java/lang/IllegalArgumentException" ["java/lang/RuntimeException", "java/lang/Exception"]).filter goodWord)
def wsL_pass : List Cond := .codeWith yL_pass cL_pass 4 (some .int) [(0, 9, 12, 13), (0, 9, 15, 15)] :: ([.classLink RL 13 "java/lang/IllegalArgumentException", .classLink RL 15 "java/lang/IllegalStateException", .methodLink RL 24 yX0_pass, .instanceMethod yX0_pass, .selects RX0 yX0_pass yX0_pass, .initialized RX0, .code yX0_pass cX0_pass 2 (some .int), .classLink RX0 40 "java/lang/IllegalArgumentException", .initialized "java/lang/IllegalArgumentException", .classLink RX0 51 "java/lang/IllegalStateException", .initialized "java/lang/IllegalStateException", .constant RX0 70 (200000), .fieldLink RX0 23 "AlarmBench" "now" "I", .methodLink RX0 56 yX0_isBehindLastTime, .instanceMethod yX0_isBehindLastTime, .selects RX0 yX0_isBehindLastTime yX0_isBehindLastTime, .code yX0_isBehindLastTime cX0_isBehindLastTime 2 (some .boolean), .constant RX0 83 (1000000000)] ++ wsX00 ++ (vx_atS RX0 44 "java/lang/IllegalArgumentException" ["java/lang/RuntimeException", "java/lang/Exception"]).filter goodWord ++ (vx_atS RX0 55 "java/lang/IllegalStateException" ["java/lang/RuntimeException", "java/lang/Exception"]).filter goodWord)
def wsL_about : List Cond := .codeWith yL_about cL_about 5 (some .int) [(0, 10, 13, 13)] :: ([.classLink RL 13 "java/lang/IllegalArgumentException", .methodLink RL 27 yX0_about, .instanceMethod yX0_about, .selects RX0 yX0_about yX0_about, .initialized RX0, .code yX0_about cX0_about 3 (some .int), .classLink RX0 40 "java/lang/IllegalArgumentException", .initialized "java/lang/IllegalArgumentException", .fieldLink RX0 13 "AlarmBench" "dueAt" "[I", .fieldLink RX0 17 "AlarmBench" "telling" "[I", .methodLink RX0 65 yX0_exists, .instanceMethod yX0_exists, .selects RX0 yX0_exists yX0_exists, .code yX0_exists cX0_exists 2 (some .boolean), .fieldLink RX0 9 "AlarmBench" "isSet" "[Z"] ++ wsX00 ++ (vx_atS RX0 44 "java/lang/IllegalArgumentException" ["java/lang/RuntimeException", "java/lang/Exception"]).filter goodWord)
set_option maxRecDepth 20000 in
theorem ggX0_set_X0_canBeAhead : GoodIn wsX0_set wsX0_canBeAhead := goodIn_r _ [10, 11] (by decide +kernel) (by decide +kernel)
set_option maxRecDepth 20000 in
theorem gX0_set_X0_canBeAhead : GoodIn wsX0_set (va_wsS RX0 36 yX0_canBeAhead wsX0_canBeAhead) := goodIn_app (goodIn_of _ (by decide +kernel)) ggX0_set_X0_canBeAhead
set_option maxRecDepth 20000 in
theorem ggX0_set_X0_leastFree : GoodIn wsX0_set wsX0_leastFree := goodIn_r _ [15, 5, 28, 29, 30, 31, 32, 33, 34, 35] (by decide +kernel) (by decide +kernel)
set_option maxRecDepth 20000 in
theorem gX0_set_X0_leastFree : GoodIn wsX0_set (wsV RX0 47 RX0 yX0_leastFree wsX0_leastFree) := goodIn_app (goodIn_of _ (by decide +kernel)) ggX0_set_X0_leastFree
set_option maxRecDepth 20000 in
theorem ggX0_set_X0_isBehindLastTime : GoodIn wsX0_set wsX0_isBehindLastTime := goodIn_r _ [19, 11, 20, 28, 29, 30, 31, 32, 33, 34, 35] (by decide +kernel) (by decide +kernel)
set_option maxRecDepth 20000 in
theorem gX0_set_X0_isBehindLastTime : GoodIn wsX0_set (wsV RX0 56 RX0 yX0_isBehindLastTime wsX0_isBehindLastTime) := goodIn_app (goodIn_of _ (by decide +kernel)) ggX0_set_X0_isBehindLastTime
set_option maxRecDepth 20000 in
theorem ggX0_set_X0_putAhead : GoodIn wsX0_set wsX0_putAhead := goodIn_r _ [24, 25, 20, 26, 27, 28, 29, 30, 31, 32, 33, 34, 35] (by decide +kernel) (by decide +kernel)
set_option maxRecDepth 20000 in
theorem gX0_set_X0_putAhead : GoodIn wsX0_set (wsV RX0 61 RX0 yX0_putAhead wsX0_putAhead) := goodIn_app (goodIn_of _ (by decide +kernel)) ggX0_set_X0_putAhead
set_option maxRecDepth 20000 in
theorem ggX0_shift_X0_exists : GoodIn wsX0_shift wsX0_exists := goodIn_r _ [11, 12, 27, 28, 29, 30, 31, 32, 33, 34] (by decide +kernel) (by decide +kernel)
set_option maxRecDepth 20000 in
theorem gX0_shift_X0_exists : GoodIn wsX0_shift (wsV RX0 65 RX0 yX0_exists wsX0_exists) := goodIn_app (goodIn_of _ (by decide +kernel)) ggX0_shift_X0_exists
set_option maxRecDepth 20000 in
theorem ggX0_shift_X0_canBeAhead : GoodIn wsX0_shift wsX0_canBeAhead := goodIn_r _ [15, 16] (by decide +kernel) (by decide +kernel)
set_option maxRecDepth 20000 in
theorem gX0_shift_X0_canBeAhead : GoodIn wsX0_shift (va_wsS RX0 36 yX0_canBeAhead wsX0_canBeAhead) := goodIn_app (goodIn_of _ (by decide +kernel)) ggX0_shift_X0_canBeAhead
set_option maxRecDepth 20000 in
theorem ggX0_shift_X0_isBehindLastTime : GoodIn wsX0_shift wsX0_isBehindLastTime := goodIn_r _ [20, 16, 6, 27, 28, 29, 30, 31, 32, 33, 34] (by decide +kernel) (by decide +kernel)
set_option maxRecDepth 20000 in
theorem gX0_shift_X0_isBehindLastTime : GoodIn wsX0_shift (wsV RX0 56 RX0 yX0_isBehindLastTime wsX0_isBehindLastTime) := goodIn_app (goodIn_of _ (by decide +kernel)) ggX0_shift_X0_isBehindLastTime
set_option maxRecDepth 20000 in
theorem ggX0_shift_X0_putAhead : GoodIn wsX0_shift wsX0_putAhead := goodIn_r _ [24, 5, 6, 25, 26, 27, 28, 29, 30, 31, 32, 33, 34] (by decide +kernel) (by decide +kernel)
set_option maxRecDepth 20000 in
theorem gX0_shift_X0_putAhead : GoodIn wsX0_shift (wsV RX0 61 RX0 yX0_putAhead wsX0_putAhead) := goodIn_app (goodIn_of _ (by decide +kernel)) ggX0_shift_X0_putAhead
set_option maxRecDepth 20000 in
theorem ggX0_stop_X0_exists : GoodIn wsX0_stop wsX0_exists := goodIn_r _ [9, 3, 10, 11, 12, 13, 14, 15, 16, 17] (by decide +kernel) (by decide +kernel)
set_option maxRecDepth 20000 in
theorem gX0_stop_X0_exists : GoodIn wsX0_stop (wsV RX0 65 RX0 yX0_exists wsX0_exists) := goodIn_app (goodIn_of _ (by decide +kernel)) ggX0_stop_X0_exists
set_option maxRecDepth 20000 in
theorem ggX0_pass_X0_isBehindLastTime : GoodIn wsX0_pass wsX0_isBehindLastTime := goodIn_r _ [11, 12, 6, 13, 14, 15, 16, 17, 18, 19, 20] (by decide +kernel) (by decide +kernel)
set_option maxRecDepth 20000 in
theorem gX0_pass_X0_isBehindLastTime : GoodIn wsX0_pass (wsV RX0 56 RX0 yX0_isBehindLastTime wsX0_isBehindLastTime) := goodIn_app (goodIn_of _ (by decide +kernel)) ggX0_pass_X0_isBehindLastTime
set_option maxRecDepth 20000 in
theorem ggX0_ring_X0_first : GoodIn wsX0_ring wsX0_first := goodIn_r _ [10, 1, 11, 12, 13, 9, 14, 4, 15, 21, 22, 23, 24, 25, 26, 27, 28] (by decide +kernel) (by decide +kernel)
set_option maxRecDepth 20000 in
theorem gX0_ring_X0_first : GoodIn wsX0_ring (wsV RX0 75 RX0 yX0_first wsX0_first) := goodIn_app (goodIn_of _ (by decide +kernel)) ggX0_ring_X0_first
set_option maxRecDepth 20000 in
theorem ggX0_ring_X0_isReady : GoodIn wsX0_ring wsX0_isReady := goodIn_r _ [19, 4, 20, 21, 22, 23, 24, 25, 26, 27, 28] (by decide +kernel) (by decide +kernel)
set_option maxRecDepth 20000 in
theorem gX0_ring_X0_isReady : GoodIn wsX0_ring (wsV RX0 78 RX0 yX0_isReady wsX0_isReady) := goodIn_app (goodIn_of _ (by decide +kernel)) ggX0_ring_X0_isReady
set_option maxRecDepth 20000 in
theorem ggX0_next_X0_first : GoodIn wsX0_next wsX0_first := goodIn_r _ [6, 7, 8, 9, 10, 5, 11, 1, 12, 13, 14, 15, 16, 17, 18, 19, 20] (by decide +kernel) (by decide +kernel)
set_option maxRecDepth 20000 in
theorem gX0_next_X0_first : GoodIn wsX0_next (wsV RX0 75 RX0 yX0_first wsX0_first) := goodIn_app (goodIn_of _ (by decide +kernel)) ggX0_next_X0_first
set_option maxRecDepth 20000 in
theorem ggX0_about_X0_exists : GoodIn wsX0_about wsX0_exists := goodIn_r _ [9, 10, 11, 12, 13, 14, 15, 16, 17, 18] (by decide +kernel) (by decide +kernel)
set_option maxRecDepth 20000 in
theorem gX0_about_X0_exists : GoodIn wsX0_about (wsV RX0 65 RX0 yX0_exists wsX0_exists) := goodIn_app (goodIn_of _ (by decide +kernel)) ggX0_about_X0_exists
set_option maxRecDepth 20000 in
theorem ggX0_count_X0_isReady : GoodIn wsX0_count wsX0_isReady := goodIn_r _ [6, 7, 8, 9, 10, 11, 12, 13, 14, 15, 16] (by decide +kernel) (by decide +kernel)
set_option maxRecDepth 20000 in
theorem gX0_count_X0_isReady : GoodIn wsX0_count (wsV RX0 78 RX0 yX0_isReady wsX0_isReady) := goodIn_app (goodIn_of _ (by decide +kernel)) ggX0_count_X0_isReady
set_option maxRecDepth 20000 in
theorem ggX0_first_X0_isBefore : GoodIn wsX0_first wsX0_isBefore := goodIn_r _ [6, 7, 8, 9, 10, 11, 12, 13, 14, 15, 16] (by decide +kernel) (by decide +kernel)
set_option maxRecDepth 20000 in
theorem gX0_first_X0_isBefore : GoodIn wsX0_first (wsV RX0 84 RX0 yX0_isBefore wsX0_isBefore) := goodIn_app (goodIn_of _ (by decide +kernel)) ggX0_first_X0_isBefore
set_option maxRecDepth 20000 in
theorem ggL_set_X0_set : GoodIn wsL_set wsX0_set := goodIn_ca (goodIn_ca (goodIn_r _ [7, 8, 9, 10, 11, 12, 13, 14, 15, 6, 16, 17, 18, 19, 20, 21, 22, 23, 24, 25, 26, 27, 28, 29, 30, 31, 32, 33, 34, 35, 36, 37, 38, 39, 40, 41] (by decide +kernel) (by decide +kernel)) (goodIn_sub (fun _ h => List.mem_cons_of_mem _ (List.mem_append_left _ (List.mem_append_right _ h))) (by decide +kernel))) (goodIn_sub (fun _ h => List.mem_cons_of_mem _ (List.mem_append_right _ h)) (by decide +kernel))
set_option maxRecDepth 20000 in
theorem gL_set_X0_set : GoodIn wsL_set (wsV RL 7 RX0 yX0_set wsX0_set) := goodIn_app (goodIn_of _ (by decide +kernel)) ggL_set_X0_set
set_option maxRecDepth 20000 in
theorem ggL_shift_X0_shift : GoodIn wsL_shift wsX0_shift := goodIn_ca (goodIn_ca (goodIn_r _ [7, 8, 9, 10, 11, 12, 13, 14, 15, 16, 6, 17, 18, 19, 20, 21, 22, 23, 24, 25, 26, 27, 28, 29, 30, 31, 32, 33, 34, 35, 36, 37, 38, 39, 40] (by decide +kernel) (by decide +kernel)) (goodIn_sub (fun _ h => List.mem_cons_of_mem _ (List.mem_append_left _ (List.mem_append_right _ h))) (by decide +kernel))) (goodIn_sub (fun _ h => List.mem_cons_of_mem _ (List.mem_append_right _ h)) (by decide +kernel))
set_option maxRecDepth 20000 in
theorem gL_shift_X0_shift : GoodIn wsL_shift (wsV RL 17 RX0 yX0_shift wsX0_shift) := goodIn_app (goodIn_of _ (by decide +kernel)) ggL_shift_X0_shift
set_option maxRecDepth 20000 in
theorem ggL_stop_X0_stop : GoodIn wsL_stop wsX0_stop := goodIn_ca (goodIn_r _ [6, 7, 8, 9, 10, 11, 12, 13, 5, 14, 15, 16, 17, 18, 19, 20, 21, 22] (by decide +kernel) (by decide +kernel)) (goodIn_sub (fun _ h => List.mem_cons_of_mem _ (List.mem_append_right _ h)) (by decide +kernel))
set_option maxRecDepth 20000 in
theorem gL_stop_X0_stop : GoodIn wsL_stop (wsV RL 20 RX0 yX0_stop wsX0_stop) := goodIn_app (goodIn_of _ (by decide +kernel)) ggL_stop_X0_stop
set_option maxRecDepth 20000 in
theorem ggL_pass_X0_pass : GoodIn wsL_pass wsX0_pass := goodIn_ca (goodIn_ca (goodIn_r _ [7, 8, 9, 10, 11, 12, 13, 14, 15, 16, 6, 17, 18, 19, 20, 21, 22, 23, 24, 25, 26] (by decide +kernel) (by decide +kernel)) (goodIn_sub (fun _ h => List.mem_cons_of_mem _ (List.mem_append_left _ (List.mem_append_right _ h))) (by decide +kernel))) (goodIn_sub (fun _ h => List.mem_cons_of_mem _ (List.mem_append_right _ h)) (by decide +kernel))
set_option maxRecDepth 20000 in
theorem gL_pass_X0_pass : GoodIn wsL_pass (wsV RL 24 RX0 yX0_pass wsX0_pass) := goodIn_app (goodIn_of _ (by decide +kernel)) ggL_pass_X0_pass
set_option maxRecDepth 20000 in
theorem ggL_about_X0_about : GoodIn wsL_about wsX0_about := goodIn_ca (goodIn_r _ [6, 7, 8, 9, 10, 11, 12, 13, 5, 14, 15, 16, 17, 18, 19, 20, 21, 22, 23] (by decide +kernel) (by decide +kernel)) (goodIn_sub (fun _ h => List.mem_cons_of_mem _ (List.mem_append_right _ h)) (by decide +kernel))
set_option maxRecDepth 20000 in
theorem gL_about_X0_about : GoodIn wsL_about (wsV RL 27 RX0 yX0_about wsX0_about) := goodIn_app (goodIn_of _ (by decide +kernel)) ggL_about_X0_about
