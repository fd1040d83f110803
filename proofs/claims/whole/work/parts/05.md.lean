/-! the reference's names -/
def RX1 : String := "AlarmBenchModel"
def TX1 : u_T := fun k => match k with
  | 0 => ("AlarmBenchModel", "code", "I", false)
  | 1 => ("AlarmBenchModel", "now", "I", false)
  | 2 => ("AlarmBenchModel", "ranks", "I", false)
  | 3 => ("AlarmBenchModel", "rank", "[I", true)
  | 4 => ("AlarmBenchModel", "due", "[I", true)
  | 5 => ("AlarmBenchModel", "tells", "[I", true)
  | 6 => ("AlarmBenchModel", "told", "I", false)
  | _ => ("AlarmBenchModel", "wasDue", "I", false)
def tyX1 : Nat → FieldType := fun k => match k with
  | 0 => .int
  | 1 => .int
  | 2 => .int
  | 3 => .array .int
  | 4 => .array .int
  | 5 => .array .int
  | 6 => .int
  | _ => .int
abbrev wsX10 : List Cond := u_ws RX1 TX1 8
theorem nmX1 : ∀ a, a < 8 → ∀ b, b < 8 → a ≠ b → (TX1 a).2.1 ≠ (TX1 b).2.1 := by decide +kernel
theorem tyX1_ok : ∀ k, k < 8 → parseFieldDescriptor (TX1 k).2.2.1 = some (tyX1 k) := by decide +kernel
abbrev cX1_init : ByteArray := prog_3_method_1_code
def yX1_init : MethodName := ⟨RX1, "<init>", "()V"⟩
abbrev cX1_thrown : ByteArray := prog_3_method_2_code
def yX1_thrown : MethodName := ⟨RX1, "thrown", "()I"⟩
abbrev cX1_isAlarm : ByteArray := prog_3_method_3_code
def yX1_isAlarm : MethodName := ⟨RX1, "isAlarm", "(I)Z"⟩
abbrev cX1_start : ByteArray := prog_3_method_4_code
def yX1_start : MethodName := ⟨RX1, "start", "(III)V"⟩
abbrev cX1_set : ByteArray := prog_3_method_5_code
def yX1_set : MethodName := ⟨RX1, "set", "(II)I"⟩
abbrev cX1_shift : ByteArray := prog_3_method_6_code
def yX1_shift : MethodName := ⟨RX1, "shift", "(II)I"⟩
abbrev cX1_stop : ByteArray := prog_3_method_7_code
def yX1_stop : MethodName := ⟨RX1, "stop", "(I)I"⟩
abbrev cX1_stopAll : ByteArray := prog_3_method_8_code
def yX1_stopAll : MethodName := ⟨RX1, "stopAll", "(I)I"⟩
abbrev cX1_pass : ByteArray := prog_3_method_9_code
def yX1_pass : MethodName := ⟨RX1, "pass", "(I)I"⟩
abbrev cX1_first : ByteArray := prog_3_method_10_code
def yX1_first : MethodName := ⟨RX1, "first", "()I"⟩
abbrev cX1_ring : ByteArray := prog_3_method_11_code
def yX1_ring : MethodName := ⟨RX1, "ring", "()I"⟩
abbrev cX1_told : ByteArray := prog_3_method_12_code
def yX1_told : MethodName := ⟨RX1, "told", "()I"⟩
abbrev cX1_wasDue : ByteArray := prog_3_method_13_code
def yX1_wasDue : MethodName := ⟨RX1, "wasDue", "()I"⟩
abbrev cX1_next : ByteArray := prog_3_method_14_code
def yX1_next : MethodName := ⟨RX1, "next", "()I"⟩
abbrev cX1_about : ByteArray := prog_3_method_15_code
def yX1_about : MethodName := ⟨RX1, "about", "(II)I"⟩
abbrev cX1_count : ByteArray := prog_3_method_16_code
def yX1_count : MethodName := ⟨RX1, "count", "(Z)I"⟩
abbrev cX1_time : ByteArray := prog_3_method_17_code
def yX1_time : MethodName := ⟨RX1, "time", "()I"⟩
def wsX1_init : List Cond := .code yX1_init cX1_init 1 none :: ([.methodLink RX1 1 objectInit, .instanceMethod objectInit, .code objectInit ⟨#[0xb1]⟩ 1 none, .arrayClass .int, .fieldLink RX1 7 "AlarmBenchModel" "rank" "[I", .fieldLink RX1 13 "AlarmBenchModel" "due" "[I", .fieldLink RX1 16 "AlarmBenchModel" "tells" "[I", .fieldLink RX1 19 "AlarmBenchModel" "wasDue" "I"] ++ wsX10)
def wsX1_thrown : List Cond := .code yX1_thrown cX1_thrown 1 (some .int) :: ([.fieldLink RX1 23 "AlarmBenchModel" "code" "I"] ++ wsX10)
def wsX1_isAlarm : List Cond := .code yX1_isAlarm cX1_isAlarm 2 (some .boolean) :: ([.fieldLink RX1 7 "AlarmBenchModel" "rank" "[I"] ++ wsX10)
def wsX1_start : List Cond := .code yX1_start cX1_start 4 none :: ([.fieldLink RX1 26 "AlarmBenchModel" "ranks" "I", .fieldLink RX1 7 "AlarmBenchModel" "rank" "[I", .fieldLink RX1 13 "AlarmBenchModel" "due" "[I", .fieldLink RX1 29 "AlarmBenchModel" "now" "I", .fieldLink RX1 16 "AlarmBenchModel" "tells" "[I"] ++ wsX10)
def wsX1_first : List Cond := .code yX1_first cX1_first 4 (some .int) :: ([.fieldLink RX1 13 "AlarmBenchModel" "due" "[I", .fieldLink RX1 7 "AlarmBenchModel" "rank" "[I"] ++ wsX10)
def wsX1_set : List Cond := .code yX1_set cX1_set 4 (some .int) :: ([.fieldLink RX1 7 "AlarmBenchModel" "rank" "[I", .constant RX1 32 (1000000000), .fieldLink RX1 29 "AlarmBenchModel" "now" "I", .fieldLink RX1 23 "AlarmBenchModel" "code" "I", .methodLink RX1 33 yX1_start, .instanceMethod yX1_start, .selects RX1 yX1_start yX1_start, .initialized RX1, .code yX1_start cX1_start 4 none, .fieldLink RX1 26 "AlarmBenchModel" "ranks" "I", .fieldLink RX1 13 "AlarmBenchModel" "due" "[I", .fieldLink RX1 16 "AlarmBenchModel" "tells" "[I"] ++ wsX10)
set_option maxRecDepth 20000 in
theorem gX1_set_X1_start : GoodIn wsX1_set (wsV RX1 33 RX1 yX1_start wsX1_start) := goodIn_p _ [9] rfl (by decide +kernel)
def wsX1_shift : List Cond := .code yX1_shift cX1_shift 4 (some .int) :: ([.constant RX1 32 (1000000000), .fieldLink RX1 29 "AlarmBenchModel" "now" "I", .fieldLink RX1 23 "AlarmBenchModel" "code" "I", .fieldLink RX1 13 "AlarmBenchModel" "due" "[I", .fieldLink RX1 16 "AlarmBenchModel" "tells" "[I", .methodLink RX1 37 yX1_isAlarm, .instanceMethod yX1_isAlarm, .selects RX1 yX1_isAlarm yX1_isAlarm, .initialized RX1, .code yX1_isAlarm cX1_isAlarm 2 (some .boolean), .fieldLink RX1 7 "AlarmBenchModel" "rank" "[I", .methodLink RX1 33 yX1_start, .instanceMethod yX1_start, .selects RX1 yX1_start yX1_start, .code yX1_start cX1_start 4 none, .fieldLink RX1 26 "AlarmBenchModel" "ranks" "I"] ++ wsX10)
set_option maxRecDepth 20000 in
theorem gX1_shift_X1_isAlarm : GoodIn wsX1_shift (wsV RX1 37 RX1 yX1_isAlarm wsX1_isAlarm) := goodIn_p _ [10] rfl (by decide +kernel)
set_option maxRecDepth 20000 in
theorem gX1_shift_X1_start : GoodIn wsX1_shift (wsV RX1 33 RX1 yX1_start wsX1_start) := goodIn_p _ [15] rfl (by decide +kernel)
def wsX1_stop : List Cond := .code yX1_stop cX1_stop 2 (some .int) :: ([.fieldLink RX1 23 "AlarmBenchModel" "code" "I", .fieldLink RX1 7 "AlarmBenchModel" "rank" "[I", .fieldLink RX1 16 "AlarmBenchModel" "tells" "[I", .methodLink RX1 37 yX1_isAlarm, .instanceMethod yX1_isAlarm, .selects RX1 yX1_isAlarm yX1_isAlarm, .initialized RX1, .code yX1_isAlarm cX1_isAlarm 2 (some .boolean)] ++ wsX10)
set_option maxRecDepth 20000 in
theorem gX1_stop_X1_isAlarm : GoodIn wsX1_stop (wsV RX1 37 RX1 yX1_isAlarm wsX1_isAlarm) := goodIn_p _ [8] rfl (by decide +kernel)
def wsX1_stopAll : List Cond := .code yX1_stopAll cX1_stopAll 4 (some .int) :: ([.fieldLink RX1 23 "AlarmBenchModel" "code" "I", .fieldLink RX1 7 "AlarmBenchModel" "rank" "[I", .fieldLink RX1 16 "AlarmBenchModel" "tells" "[I"] ++ wsX10)
def wsX1_pass : List Cond := .code yX1_pass cX1_pass 2 (some .int) :: ([.constant RX1 41 (200000), .constant RX1 32 (1000000000), .fieldLink RX1 29 "AlarmBenchModel" "now" "I", .fieldLink RX1 23 "AlarmBenchModel" "code" "I"] ++ wsX10)
def wsX1_ring : List Cond := .code yX1_ring cX1_ring 2 (some .int) :: ([.fieldLink RX1 23 "AlarmBenchModel" "code" "I", .fieldLink RX1 13 "AlarmBenchModel" "due" "[I", .fieldLink RX1 29 "AlarmBenchModel" "now" "I", .fieldLink RX1 16 "AlarmBenchModel" "tells" "[I", .fieldLink RX1 46 "AlarmBenchModel" "told" "I", .fieldLink RX1 19 "AlarmBenchModel" "wasDue" "I", .fieldLink RX1 7 "AlarmBenchModel" "rank" "[I", .methodLink RX1 42 yX1_first, .instanceMethod yX1_first, .selects RX1 yX1_first yX1_first, .initialized RX1, .code yX1_first cX1_first 4 (some .int)] ++ wsX10)
set_option maxRecDepth 20000 in
theorem gX1_ring_X1_first : GoodIn wsX1_ring (wsV RX1 42 RX1 yX1_first wsX1_first) := goodIn_p _ [12] rfl (by decide +kernel)
def wsX1_told : List Cond := .code yX1_told cX1_told 1 (some .int) :: ([.fieldLink RX1 23 "AlarmBenchModel" "code" "I", .fieldLink RX1 46 "AlarmBenchModel" "told" "I"] ++ wsX10)
def wsX1_wasDue : List Cond := .code yX1_wasDue cX1_wasDue 1 (some .int) :: ([.fieldLink RX1 23 "AlarmBenchModel" "code" "I", .fieldLink RX1 19 "AlarmBenchModel" "wasDue" "I"] ++ wsX10)
def wsX1_next : List Cond := .code yX1_next cX1_next 2 (some .int) :: ([.fieldLink RX1 23 "AlarmBenchModel" "code" "I", .fieldLink RX1 13 "AlarmBenchModel" "due" "[I", .methodLink RX1 42 yX1_first, .instanceMethod yX1_first, .selects RX1 yX1_first yX1_first, .initialized RX1, .code yX1_first cX1_first 4 (some .int), .fieldLink RX1 7 "AlarmBenchModel" "rank" "[I"] ++ wsX10)
set_option maxRecDepth 20000 in
theorem gX1_next_X1_first : GoodIn wsX1_next (wsV RX1 42 RX1 yX1_first wsX1_first) := goodIn_p _ [7] rfl (by decide +kernel)
def wsX1_about : List Cond := .code yX1_about cX1_about 3 (some .int) :: ([.fieldLink RX1 23 "AlarmBenchModel" "code" "I", .fieldLink RX1 13 "AlarmBenchModel" "due" "[I", .fieldLink RX1 16 "AlarmBenchModel" "tells" "[I", .methodLink RX1 37 yX1_isAlarm, .instanceMethod yX1_isAlarm, .selects RX1 yX1_isAlarm yX1_isAlarm, .initialized RX1, .code yX1_isAlarm cX1_isAlarm 2 (some .boolean), .fieldLink RX1 7 "AlarmBenchModel" "rank" "[I"] ++ wsX10)
set_option maxRecDepth 20000 in
theorem gX1_about_X1_isAlarm : GoodIn wsX1_about (wsV RX1 37 RX1 yX1_isAlarm wsX1_isAlarm) := goodIn_p _ [8] rfl (by decide +kernel)
def wsX1_count : List Cond := .code yX1_count cX1_count 4 (some .int) :: ([.fieldLink RX1 23 "AlarmBenchModel" "code" "I", .fieldLink RX1 7 "AlarmBenchModel" "rank" "[I", .fieldLink RX1 13 "AlarmBenchModel" "due" "[I", .fieldLink RX1 29 "AlarmBenchModel" "now" "I"] ++ wsX10)
def wsX1_time : List Cond := .code yX1_time cX1_time 1 (some .int) :: ([.fieldLink RX1 23 "AlarmBenchModel" "code" "I", .fieldLink RX1 29 "AlarmBenchModel" "now" "I"] ++ wsX10)
abbrev vwCl : List vw_C := [(RX0, TX0, 8), (RX1, TX1, 8)]
theorem dX1_init_0 : decode cX1_init 0 = .ok (.aload_n 0, 1) := by decide +kernel
theorem dX1_init_1 : decode cX1_init 1 = .ok (.invokespecial 1, 3) := by decide +kernel
theorem dX1_init_4 : decode cX1_init 4 = .ok (.aload_n 0, 1) := by decide +kernel
theorem dX1_init_5 : decode cX1_init 5 = .ok (.sipush 512, 3) := by decide +kernel
theorem dX1_init_8 : decode cX1_init 8 = .ok (.newarray .int, 2) := by decide +kernel
theorem dX1_init_10 : decode cX1_init 10 = .ok (.putfield 7, 3) := by decide +kernel
theorem dX1_init_13 : decode cX1_init 13 = .ok (.aload_n 0, 1) := by decide +kernel
theorem dX1_init_14 : decode cX1_init 14 = .ok (.sipush 512, 3) := by decide +kernel
theorem dX1_init_17 : decode cX1_init 17 = .ok (.newarray .int, 2) := by decide +kernel
theorem dX1_init_19 : decode cX1_init 19 = .ok (.putfield 13, 3) := by decide +kernel
theorem dX1_init_22 : decode cX1_init 22 = .ok (.aload_n 0, 1) := by decide +kernel
theorem dX1_init_23 : decode cX1_init 23 = .ok (.sipush 512, 3) := by decide +kernel
theorem dX1_init_26 : decode cX1_init 26 = .ok (.newarray .int, 2) := by decide +kernel
theorem dX1_init_28 : decode cX1_init 28 = .ok (.putfield 16, 3) := by decide +kernel
theorem dX1_init_31 : decode cX1_init 31 = .ok (.aload_n 0, 1) := by decide +kernel
theorem dX1_init_32 : decode cX1_init 32 = .ok (.iconst (-1), 1) := by decide +kernel
theorem dX1_init_33 : decode cX1_init 33 = .ok (.putfield 19, 3) := by decide +kernel
theorem dX1_init_36 : decode cX1_init 36 = .ok (.return_, 1) := by decide +kernel
theorem dX1_thrown_0 : decode cX1_thrown 0 = .ok (.aload_n 0, 1) := by decide +kernel
theorem dX1_thrown_1 : decode cX1_thrown 1 = .ok (.getfield 23, 3) := by decide +kernel
theorem dX1_thrown_4 : decode cX1_thrown 4 = .ok (.ireturn, 1) := by decide +kernel
theorem dX1_isAlarm_0 : decode cX1_isAlarm 0 = .ok (.iload_n 1, 1) := by decide +kernel
theorem dX1_isAlarm_1 : decode cX1_isAlarm 1 = .ok (.ifCond .lt 23, 3) := by decide +kernel
theorem dX1_isAlarm_4 : decode cX1_isAlarm 4 = .ok (.iload_n 1, 1) := by decide +kernel
theorem dX1_isAlarm_5 : decode cX1_isAlarm 5 = .ok (.sipush 512, 3) := by decide +kernel
theorem dX1_isAlarm_8 : decode cX1_isAlarm 8 = .ok (.if_icmp .ge 16, 3) := by decide +kernel
theorem dX1_isAlarm_11 : decode cX1_isAlarm 11 = .ok (.aload_n 0, 1) := by decide +kernel
theorem dX1_isAlarm_12 : decode cX1_isAlarm 12 = .ok (.getfield 7, 3) := by decide +kernel
theorem dX1_isAlarm_15 : decode cX1_isAlarm 15 = .ok (.iload_n 1, 1) := by decide +kernel
theorem dX1_isAlarm_16 : decode cX1_isAlarm 16 = .ok (.iaload, 1) := by decide +kernel
theorem dX1_isAlarm_17 : decode cX1_isAlarm 17 = .ok (.ifCond .le 7, 3) := by decide +kernel
theorem dX1_isAlarm_20 : decode cX1_isAlarm 20 = .ok (.iconst 1, 1) := by decide +kernel
theorem dX1_isAlarm_21 : decode cX1_isAlarm 21 = .ok (.goto 4, 3) := by decide +kernel
theorem dX1_isAlarm_24 : decode cX1_isAlarm 24 = .ok (.iconst 0, 1) := by decide +kernel
theorem dX1_isAlarm_25 : decode cX1_isAlarm 25 = .ok (.ireturn, 1) := by decide +kernel
theorem dX1_start_0 : decode cX1_start 0 = .ok (.aload_n 0, 1) := by decide +kernel
theorem dX1_start_1 : decode cX1_start 1 = .ok (.dup, 1) := by decide +kernel
theorem dX1_start_2 : decode cX1_start 2 = .ok (.getfield 26, 3) := by decide +kernel
theorem dX1_start_5 : decode cX1_start 5 = .ok (.iconst 1, 1) := by decide +kernel
theorem dX1_start_6 : decode cX1_start 6 = .ok (.iadd, 1) := by decide +kernel
theorem dX1_start_7 : decode cX1_start 7 = .ok (.putfield 26, 3) := by decide +kernel
theorem dX1_start_10 : decode cX1_start 10 = .ok (.aload_n 0, 1) := by decide +kernel
theorem dX1_start_11 : decode cX1_start 11 = .ok (.getfield 7, 3) := by decide +kernel
theorem dX1_start_14 : decode cX1_start 14 = .ok (.iload_n 1, 1) := by decide +kernel
theorem dX1_start_15 : decode cX1_start 15 = .ok (.aload_n 0, 1) := by decide +kernel
theorem dX1_start_16 : decode cX1_start 16 = .ok (.getfield 26, 3) := by decide +kernel
theorem dX1_start_19 : decode cX1_start 19 = .ok (.iastore, 1) := by decide +kernel
theorem dX1_start_20 : decode cX1_start 20 = .ok (.aload_n 0, 1) := by decide +kernel
theorem dX1_start_21 : decode cX1_start 21 = .ok (.getfield 13, 3) := by decide +kernel
theorem dX1_start_24 : decode cX1_start 24 = .ok (.iload_n 1, 1) := by decide +kernel
theorem dX1_start_25 : decode cX1_start 25 = .ok (.aload_n 0, 1) := by decide +kernel
theorem dX1_start_26 : decode cX1_start 26 = .ok (.getfield 29, 3) := by decide +kernel
theorem dX1_start_29 : decode cX1_start 29 = .ok (.iload_n 2, 1) := by decide +kernel
theorem dX1_start_30 : decode cX1_start 30 = .ok (.iadd, 1) := by decide +kernel
theorem dX1_start_31 : decode cX1_start 31 = .ok (.iastore, 1) := by decide +kernel
theorem dX1_start_32 : decode cX1_start 32 = .ok (.aload_n 0, 1) := by decide +kernel
theorem dX1_start_33 : decode cX1_start 33 = .ok (.getfield 16, 3) := by decide +kernel
theorem dX1_start_36 : decode cX1_start 36 = .ok (.iload_n 1, 1) := by decide +kernel
theorem dX1_start_37 : decode cX1_start 37 = .ok (.iload_n 3, 1) := by decide +kernel
theorem dX1_start_38 : decode cX1_start 38 = .ok (.iastore, 1) := by decide +kernel
theorem dX1_start_39 : decode cX1_start 39 = .ok (.return_, 1) := by decide +kernel
theorem dX1_set_0 : decode cX1_set 0 = .ok (.iconst 0, 1) := by decide +kernel
theorem dX1_set_1 : decode cX1_set 1 = .ok (.istore_n 3, 1) := by decide +kernel
theorem dX1_set_2 : decode cX1_set 2 = .ok (.iload_n 3, 1) := by decide +kernel
theorem dX1_set_3 : decode cX1_set 3 = .ok (.sipush 512, 3) := by decide +kernel
theorem dX1_set_6 : decode cX1_set 6 = .ok (.if_icmp .ge 18, 3) := by decide +kernel
theorem dX1_set_9 : decode cX1_set 9 = .ok (.aload_n 0, 1) := by decide +kernel
theorem dX1_set_10 : decode cX1_set 10 = .ok (.getfield 7, 3) := by decide +kernel
theorem dX1_set_13 : decode cX1_set 13 = .ok (.iload_n 3, 1) := by decide +kernel
theorem dX1_set_14 : decode cX1_set 14 = .ok (.iaload, 1) := by decide +kernel
theorem dX1_set_15 : decode cX1_set 15 = .ok (.ifCond .le 9, 3) := by decide +kernel
theorem dX1_set_18 : decode cX1_set 18 = .ok (.iinc 3 1, 3) := by decide +kernel
theorem dX1_set_21 : decode cX1_set 21 = .ok (.goto (-19), 3) := by decide +kernel
theorem dX1_set_24 : decode cX1_set 24 = .ok (.aload_n 0, 1) := by decide +kernel
theorem dX1_set_25 : decode cX1_set 25 = .ok (.iload_n 1, 1) := by decide +kernel
theorem dX1_set_26 : decode cX1_set 26 = .ok (.ifCond .lt 9, 3) := by decide +kernel
theorem dX1_set_29 : decode cX1_set 29 = .ok (.iload_n 1, 1) := by decide +kernel
theorem dX1_set_30 : decode cX1_set 30 = .ok (.ldc 32, 2) := by decide +kernel
theorem dX1_set_32 : decode cX1_set 32 = .ok (.if_icmp .le 7, 3) := by decide +kernel
theorem dX1_set_35 : decode cX1_set 35 = .ok (.iconst 1, 1) := by decide +kernel
theorem dX1_set_36 : decode cX1_set 36 = .ok (.goto 26, 3) := by decide +kernel
theorem dX1_set_39 : decode cX1_set 39 = .ok (.iload_n 3, 1) := by decide +kernel
theorem dX1_set_40 : decode cX1_set 40 = .ok (.sipush 512, 3) := by decide +kernel
theorem dX1_set_43 : decode cX1_set 43 = .ok (.if_icmp .eq 14, 3) := by decide +kernel
theorem dX1_set_46 : decode cX1_set 46 = .ok (.iload_n 1, 1) := by decide +kernel
theorem dX1_set_47 : decode cX1_set 47 = .ok (.ldc 32, 2) := by decide +kernel
theorem dX1_set_49 : decode cX1_set 49 = .ok (.aload_n 0, 1) := by decide +kernel
theorem dX1_set_50 : decode cX1_set 50 = .ok (.getfield 29, 3) := by decide +kernel
theorem dX1_set_53 : decode cX1_set 53 = .ok (.isub, 1) := by decide +kernel
theorem dX1_set_54 : decode cX1_set 54 = .ok (.if_icmp .le 7, 3) := by decide +kernel
theorem dX1_set_57 : decode cX1_set 57 = .ok (.iconst 2, 1) := by decide +kernel
theorem dX1_set_58 : decode cX1_set 58 = .ok (.goto 4, 3) := by decide +kernel
theorem dX1_set_61 : decode cX1_set 61 = .ok (.iconst 0, 1) := by decide +kernel
theorem dX1_set_62 : decode cX1_set 62 = .ok (.putfield 23, 3) := by decide +kernel
theorem dX1_set_65 : decode cX1_set 65 = .ok (.aload_n 0, 1) := by decide +kernel
theorem dX1_set_66 : decode cX1_set 66 = .ok (.getfield 23, 3) := by decide +kernel
theorem dX1_set_69 : decode cX1_set 69 = .ok (.ifCond .le 5, 3) := by decide +kernel
theorem dX1_set_72 : decode cX1_set 72 = .ok (.iconst 0, 1) := by decide +kernel
theorem dX1_set_73 : decode cX1_set 73 = .ok (.ireturn, 1) := by decide +kernel
theorem dX1_set_74 : decode cX1_set 74 = .ok (.aload_n 0, 1) := by decide +kernel
theorem dX1_set_75 : decode cX1_set 75 = .ok (.iload_n 3, 1) := by decide +kernel
theorem dX1_set_76 : decode cX1_set 76 = .ok (.iload_n 1, 1) := by decide +kernel
theorem dX1_set_77 : decode cX1_set 77 = .ok (.iload_n 2, 1) := by decide +kernel
theorem dX1_set_78 : decode cX1_set 78 = .ok (.invokevirtual 33, 3) := by decide +kernel
theorem dX1_set_81 : decode cX1_set 81 = .ok (.iload_n 3, 1) := by decide +kernel
theorem dX1_set_82 : decode cX1_set 82 = .ok (.ireturn, 1) := by decide +kernel
theorem dX1_shift_0 : decode cX1_shift 0 = .ok (.aload_n 0, 1) := by decide +kernel
theorem dX1_shift_1 : decode cX1_shift 1 = .ok (.aload_n 0, 1) := by decide +kernel
theorem dX1_shift_2 : decode cX1_shift 2 = .ok (.iload_n 1, 1) := by decide +kernel
theorem dX1_shift_3 : decode cX1_shift 3 = .ok (.invokevirtual 37, 3) := by decide +kernel
theorem dX1_shift_6 : decode cX1_shift 6 = .ok (.ifCond .eq 13, 3) := by decide +kernel
theorem dX1_shift_9 : decode cX1_shift 9 = .ok (.iload_n 2, 1) := by decide +kernel
theorem dX1_shift_10 : decode cX1_shift 10 = .ok (.ifCond .lt 9, 3) := by decide +kernel
theorem dX1_shift_13 : decode cX1_shift 13 = .ok (.iload_n 2, 1) := by decide +kernel
theorem dX1_shift_14 : decode cX1_shift 14 = .ok (.ldc 32, 2) := by decide +kernel
theorem dX1_shift_16 : decode cX1_shift 16 = .ok (.if_icmp .le 7, 3) := by decide +kernel
theorem dX1_shift_19 : decode cX1_shift 19 = .ok (.iconst 1, 1) := by decide +kernel
theorem dX1_shift_20 : decode cX1_shift 20 = .ok (.goto 19, 3) := by decide +kernel
theorem dX1_shift_23 : decode cX1_shift 23 = .ok (.iload_n 2, 1) := by decide +kernel
theorem dX1_shift_24 : decode cX1_shift 24 = .ok (.ldc 32, 2) := by decide +kernel
theorem dX1_shift_26 : decode cX1_shift 26 = .ok (.aload_n 0, 1) := by decide +kernel
theorem dX1_shift_27 : decode cX1_shift 27 = .ok (.getfield 29, 3) := by decide +kernel
theorem dX1_shift_30 : decode cX1_shift 30 = .ok (.isub, 1) := by decide +kernel
theorem dX1_shift_31 : decode cX1_shift 31 = .ok (.if_icmp .le 7, 3) := by decide +kernel
theorem dX1_shift_34 : decode cX1_shift 34 = .ok (.iconst 2, 1) := by decide +kernel
theorem dX1_shift_35 : decode cX1_shift 35 = .ok (.goto 4, 3) := by decide +kernel
theorem dX1_shift_38 : decode cX1_shift 38 = .ok (.iconst 0, 1) := by decide +kernel
theorem dX1_shift_39 : decode cX1_shift 39 = .ok (.putfield 23, 3) := by decide +kernel
theorem dX1_shift_42 : decode cX1_shift 42 = .ok (.aload_n 0, 1) := by decide +kernel
theorem dX1_shift_43 : decode cX1_shift 43 = .ok (.getfield 23, 3) := by decide +kernel
theorem dX1_shift_46 : decode cX1_shift 46 = .ok (.ifCond .le 5, 3) := by decide +kernel
theorem dX1_shift_49 : decode cX1_shift 49 = .ok (.iconst 0, 1) := by decide +kernel
theorem dX1_shift_50 : decode cX1_shift 50 = .ok (.ireturn, 1) := by decide +kernel
theorem dX1_shift_51 : decode cX1_shift 51 = .ok (.aload_n 0, 1) := by decide +kernel
theorem dX1_shift_52 : decode cX1_shift 52 = .ok (.getfield 13, 3) := by decide +kernel
theorem dX1_shift_55 : decode cX1_shift 55 = .ok (.iload_n 1, 1) := by decide +kernel
theorem dX1_shift_56 : decode cX1_shift 56 = .ok (.iaload, 1) := by decide +kernel
theorem dX1_shift_57 : decode cX1_shift 57 = .ok (.aload_n 0, 1) := by decide +kernel
theorem dX1_shift_58 : decode cX1_shift 58 = .ok (.getfield 29, 3) := by decide +kernel
theorem dX1_shift_61 : decode cX1_shift 61 = .ok (.isub, 1) := by decide +kernel
theorem dX1_shift_62 : decode cX1_shift 62 = .ok (.istore_n 3, 1) := by decide +kernel
theorem dX1_shift_63 : decode cX1_shift 63 = .ok (.aload_n 0, 1) := by decide +kernel
theorem dX1_shift_64 : decode cX1_shift 64 = .ok (.iload_n 1, 1) := by decide +kernel
theorem dX1_shift_65 : decode cX1_shift 65 = .ok (.iload_n 2, 1) := by decide +kernel
theorem dX1_shift_66 : decode cX1_shift 66 = .ok (.aload_n 0, 1) := by decide +kernel
theorem dX1_shift_67 : decode cX1_shift 67 = .ok (.getfield 16, 3) := by decide +kernel
theorem dX1_shift_70 : decode cX1_shift 70 = .ok (.iload_n 1, 1) := by decide +kernel
theorem dX1_shift_71 : decode cX1_shift 71 = .ok (.iaload, 1) := by decide +kernel
theorem dX1_shift_72 : decode cX1_shift 72 = .ok (.invokevirtual 33, 3) := by decide +kernel
theorem dX1_shift_75 : decode cX1_shift 75 = .ok (.iload_n 3, 1) := by decide +kernel
theorem dX1_shift_76 : decode cX1_shift 76 = .ok (.ireturn, 1) := by decide +kernel
theorem dX1_stop_0 : decode cX1_stop 0 = .ok (.aload_n 0, 1) := by decide +kernel
theorem dX1_stop_1 : decode cX1_stop 1 = .ok (.aload_n 0, 1) := by decide +kernel
theorem dX1_stop_2 : decode cX1_stop 2 = .ok (.iload_n 1, 1) := by decide +kernel
theorem dX1_stop_3 : decode cX1_stop 3 = .ok (.invokevirtual 37, 3) := by decide +kernel
theorem dX1_stop_6 : decode cX1_stop 6 = .ok (.ifCond .eq 7, 3) := by decide +kernel
theorem dX1_stop_9 : decode cX1_stop 9 = .ok (.iconst 0, 1) := by decide +kernel
theorem dX1_stop_10 : decode cX1_stop 10 = .ok (.goto 4, 3) := by decide +kernel
theorem dX1_stop_13 : decode cX1_stop 13 = .ok (.iconst 1, 1) := by decide +kernel
theorem dX1_stop_14 : decode cX1_stop 14 = .ok (.putfield 23, 3) := by decide +kernel
theorem dX1_stop_17 : decode cX1_stop 17 = .ok (.aload_n 0, 1) := by decide +kernel
theorem dX1_stop_18 : decode cX1_stop 18 = .ok (.getfield 23, 3) := by decide +kernel
theorem dX1_stop_21 : decode cX1_stop 21 = .ok (.ifCond .le 5, 3) := by decide +kernel
theorem dX1_stop_24 : decode cX1_stop 24 = .ok (.iconst 0, 1) := by decide +kernel
theorem dX1_stop_25 : decode cX1_stop 25 = .ok (.ireturn, 1) := by decide +kernel
theorem dX1_stop_26 : decode cX1_stop 26 = .ok (.aload_n 0, 1) := by decide +kernel
theorem dX1_stop_27 : decode cX1_stop 27 = .ok (.getfield 7, 3) := by decide +kernel
theorem dX1_stop_30 : decode cX1_stop 30 = .ok (.iload_n 1, 1) := by decide +kernel
theorem dX1_stop_31 : decode cX1_stop 31 = .ok (.iconst 0, 1) := by decide +kernel
theorem dX1_stop_32 : decode cX1_stop 32 = .ok (.iastore, 1) := by decide +kernel
theorem dX1_stop_33 : decode cX1_stop 33 = .ok (.aload_n 0, 1) := by decide +kernel
theorem dX1_stop_34 : decode cX1_stop 34 = .ok (.getfield 16, 3) := by decide +kernel
theorem dX1_stop_37 : decode cX1_stop 37 = .ok (.iload_n 1, 1) := by decide +kernel
theorem dX1_stop_38 : decode cX1_stop 38 = .ok (.iaload, 1) := by decide +kernel
theorem dX1_stop_39 : decode cX1_stop 39 = .ok (.ireturn, 1) := by decide +kernel
theorem dX1_stopAll_0 : decode cX1_stopAll 0 = .ok (.aload_n 0, 1) := by decide +kernel
theorem dX1_stopAll_1 : decode cX1_stopAll 1 = .ok (.iconst 0, 1) := by decide +kernel
theorem dX1_stopAll_2 : decode cX1_stopAll 2 = .ok (.putfield 23, 3) := by decide +kernel
theorem dX1_stopAll_5 : decode cX1_stopAll 5 = .ok (.iconst 0, 1) := by decide +kernel
theorem dX1_stopAll_6 : decode cX1_stopAll 6 = .ok (.istore_n 2, 1) := by decide +kernel
theorem dX1_stopAll_7 : decode cX1_stopAll 7 = .ok (.iconst 0, 1) := by decide +kernel
theorem dX1_stopAll_8 : decode cX1_stopAll 8 = .ok (.istore_n 3, 1) := by decide +kernel
theorem dX1_stopAll_9 : decode cX1_stopAll 9 = .ok (.iload_n 3, 1) := by decide +kernel
theorem dX1_stopAll_10 : decode cX1_stopAll 10 = .ok (.sipush 512, 3) := by decide +kernel
theorem dX1_stopAll_13 : decode cX1_stopAll 13 = .ok (.if_icmp .ge 38, 3) := by decide +kernel
theorem dX1_stopAll_16 : decode cX1_stopAll 16 = .ok (.aload_n 0, 1) := by decide +kernel
theorem dX1_stopAll_17 : decode cX1_stopAll 17 = .ok (.getfield 7, 3) := by decide +kernel
theorem dX1_stopAll_20 : decode cX1_stopAll 20 = .ok (.iload_n 3, 1) := by decide +kernel
theorem dX1_stopAll_21 : decode cX1_stopAll 21 = .ok (.iaload, 1) := by decide +kernel
theorem dX1_stopAll_22 : decode cX1_stopAll 22 = .ok (.ifCond .le 23, 3) := by decide +kernel
theorem dX1_stopAll_25 : decode cX1_stopAll 25 = .ok (.aload_n 0, 1) := by decide +kernel
theorem dX1_stopAll_26 : decode cX1_stopAll 26 = .ok (.getfield 16, 3) := by decide +kernel
theorem dX1_stopAll_29 : decode cX1_stopAll 29 = .ok (.iload_n 3, 1) := by decide +kernel
theorem dX1_stopAll_30 : decode cX1_stopAll 30 = .ok (.iaload, 1) := by decide +kernel
theorem dX1_stopAll_31 : decode cX1_stopAll 31 = .ok (.iload_n 1, 1) := by decide +kernel
theorem dX1_stopAll_32 : decode cX1_stopAll 32 = .ok (.if_icmp .ne 13, 3) := by decide +kernel
theorem dX1_stopAll_35 : decode cX1_stopAll 35 = .ok (.aload_n 0, 1) := by decide +kernel
theorem dX1_stopAll_36 : decode cX1_stopAll 36 = .ok (.getfield 7, 3) := by decide +kernel
theorem dX1_stopAll_39 : decode cX1_stopAll 39 = .ok (.iload_n 3, 1) := by decide +kernel
theorem dX1_stopAll_40 : decode cX1_stopAll 40 = .ok (.iconst 0, 1) := by decide +kernel
theorem dX1_stopAll_41 : decode cX1_stopAll 41 = .ok (.iastore, 1) := by decide +kernel
theorem dX1_stopAll_42 : decode cX1_stopAll 42 = .ok (.iinc 2 1, 3) := by decide +kernel
theorem dX1_stopAll_45 : decode cX1_stopAll 45 = .ok (.iinc 3 1, 3) := by decide +kernel
theorem dX1_stopAll_48 : decode cX1_stopAll 48 = .ok (.goto (-39), 3) := by decide +kernel
theorem dX1_stopAll_51 : decode cX1_stopAll 51 = .ok (.iload_n 2, 1) := by decide +kernel
theorem dX1_stopAll_52 : decode cX1_stopAll 52 = .ok (.ireturn, 1) := by decide +kernel
theorem dX1_pass_0 : decode cX1_pass 0 = .ok (.aload_n 0, 1) := by decide +kernel
theorem dX1_pass_1 : decode cX1_pass 1 = .ok (.iload_n 1, 1) := by decide +kernel
theorem dX1_pass_2 : decode cX1_pass 2 = .ok (.ifCond .lt 9, 3) := by decide +kernel
theorem dX1_pass_5 : decode cX1_pass 5 = .ok (.iload_n 1, 1) := by decide +kernel
theorem dX1_pass_6 : decode cX1_pass 6 = .ok (.ldc 41, 2) := by decide +kernel
theorem dX1_pass_8 : decode cX1_pass 8 = .ok (.if_icmp .le 7, 3) := by decide +kernel
theorem dX1_pass_11 : decode cX1_pass 11 = .ok (.iconst 1, 1) := by decide +kernel
theorem dX1_pass_12 : decode cX1_pass 12 = .ok (.goto 19, 3) := by decide +kernel
theorem dX1_pass_15 : decode cX1_pass 15 = .ok (.iload_n 1, 1) := by decide +kernel
theorem dX1_pass_16 : decode cX1_pass 16 = .ok (.ldc 32, 2) := by decide +kernel
theorem dX1_pass_18 : decode cX1_pass 18 = .ok (.aload_n 0, 1) := by decide +kernel
theorem dX1_pass_19 : decode cX1_pass 19 = .ok (.getfield 29, 3) := by decide +kernel
theorem dX1_pass_22 : decode cX1_pass 22 = .ok (.isub, 1) := by decide +kernel
theorem dX1_pass_23 : decode cX1_pass 23 = .ok (.if_icmp .le 7, 3) := by decide +kernel
theorem dX1_pass_26 : decode cX1_pass 26 = .ok (.iconst 2, 1) := by decide +kernel
theorem dX1_pass_27 : decode cX1_pass 27 = .ok (.goto 4, 3) := by decide +kernel
theorem dX1_pass_30 : decode cX1_pass 30 = .ok (.iconst 0, 1) := by decide +kernel
theorem dX1_pass_31 : decode cX1_pass 31 = .ok (.putfield 23, 3) := by decide +kernel
theorem dX1_pass_34 : decode cX1_pass 34 = .ok (.aload_n 0, 1) := by decide +kernel
theorem dX1_pass_35 : decode cX1_pass 35 = .ok (.getfield 23, 3) := by decide +kernel
theorem dX1_pass_38 : decode cX1_pass 38 = .ok (.ifCond .le 5, 3) := by decide +kernel
theorem dX1_pass_41 : decode cX1_pass 41 = .ok (.iconst 0, 1) := by decide +kernel
theorem dX1_pass_42 : decode cX1_pass 42 = .ok (.ireturn, 1) := by decide +kernel
theorem dX1_pass_43 : decode cX1_pass 43 = .ok (.aload_n 0, 1) := by decide +kernel
theorem dX1_pass_44 : decode cX1_pass 44 = .ok (.dup, 1) := by decide +kernel
theorem dX1_pass_45 : decode cX1_pass 45 = .ok (.getfield 29, 3) := by decide +kernel
theorem dX1_pass_48 : decode cX1_pass 48 = .ok (.iload_n 1, 1) := by decide +kernel
theorem dX1_pass_49 : decode cX1_pass 49 = .ok (.iadd, 1) := by decide +kernel
theorem dX1_pass_50 : decode cX1_pass 50 = .ok (.putfield 29, 3) := by decide +kernel
theorem dX1_pass_53 : decode cX1_pass 53 = .ok (.aload_n 0, 1) := by decide +kernel
theorem dX1_pass_54 : decode cX1_pass 54 = .ok (.getfield 29, 3) := by decide +kernel
theorem dX1_pass_57 : decode cX1_pass 57 = .ok (.ireturn, 1) := by decide +kernel
theorem dX1_first_0 : decode cX1_first 0 = .ok (.iconst (-1), 1) := by decide +kernel
theorem dX1_first_1 : decode cX1_first 1 = .ok (.istore_n 1, 1) := by decide +kernel
theorem dX1_first_2 : decode cX1_first 2 = .ok (.iconst 0, 1) := by decide +kernel
theorem dX1_first_3 : decode cX1_first 3 = .ok (.istore_n 2, 1) := by decide +kernel
theorem dX1_first_4 : decode cX1_first 4 = .ok (.iload_n 2, 1) := by decide +kernel
theorem dX1_first_5 : decode cX1_first 5 = .ok (.sipush 512, 3) := by decide +kernel
theorem dX1_first_8 : decode cX1_first 8 = .ok (.if_icmp .ge 83, 3) := by decide +kernel
theorem dX1_first_11 : decode cX1_first 11 = .ok (.iload_n 1, 1) := by decide +kernel
theorem dX1_first_12 : decode cX1_first 12 = .ok (.ifCond .lt 48, 3) := by decide +kernel
theorem dX1_first_15 : decode cX1_first 15 = .ok (.aload_n 0, 1) := by decide +kernel
theorem dX1_first_16 : decode cX1_first 16 = .ok (.getfield 13, 3) := by decide +kernel
theorem dX1_first_19 : decode cX1_first 19 = .ok (.iload_n 2, 1) := by decide +kernel
theorem dX1_first_20 : decode cX1_first 20 = .ok (.iaload, 1) := by decide +kernel
theorem dX1_first_21 : decode cX1_first 21 = .ok (.aload_n 0, 1) := by decide +kernel
theorem dX1_first_22 : decode cX1_first 22 = .ok (.getfield 13, 3) := by decide +kernel
theorem dX1_first_25 : decode cX1_first 25 = .ok (.iload_n 1, 1) := by decide +kernel
theorem dX1_first_26 : decode cX1_first 26 = .ok (.iaload, 1) := by decide +kernel
theorem dX1_first_27 : decode cX1_first 27 = .ok (.if_icmp .lt 33, 3) := by decide +kernel
theorem dX1_first_30 : decode cX1_first 30 = .ok (.aload_n 0, 1) := by decide +kernel
theorem dX1_first_31 : decode cX1_first 31 = .ok (.getfield 13, 3) := by decide +kernel
theorem dX1_first_34 : decode cX1_first 34 = .ok (.iload_n 2, 1) := by decide +kernel
theorem dX1_first_35 : decode cX1_first 35 = .ok (.iaload, 1) := by decide +kernel
theorem dX1_first_36 : decode cX1_first 36 = .ok (.aload_n 0, 1) := by decide +kernel
theorem dX1_first_37 : decode cX1_first 37 = .ok (.getfield 13, 3) := by decide +kernel
theorem dX1_first_40 : decode cX1_first 40 = .ok (.iload_n 1, 1) := by decide +kernel
theorem dX1_first_41 : decode cX1_first 41 = .ok (.iaload, 1) := by decide +kernel
theorem dX1_first_42 : decode cX1_first 42 = .ok (.if_icmp .ne 22, 3) := by decide +kernel
theorem dX1_first_45 : decode cX1_first 45 = .ok (.aload_n 0, 1) := by decide +kernel
theorem dX1_first_46 : decode cX1_first 46 = .ok (.getfield 7, 3) := by decide +kernel
theorem dX1_first_49 : decode cX1_first 49 = .ok (.iload_n 2, 1) := by decide +kernel
theorem dX1_first_50 : decode cX1_first 50 = .ok (.iaload, 1) := by decide +kernel
theorem dX1_first_51 : decode cX1_first 51 = .ok (.aload_n 0, 1) := by decide +kernel
theorem dX1_first_52 : decode cX1_first 52 = .ok (.getfield 7, 3) := by decide +kernel
theorem dX1_first_55 : decode cX1_first 55 = .ok (.iload_n 1, 1) := by decide +kernel
theorem dX1_first_56 : decode cX1_first 56 = .ok (.iaload, 1) := by decide +kernel
theorem dX1_first_57 : decode cX1_first 57 = .ok (.if_icmp .ge 7, 3) := by decide +kernel
theorem dX1_first_60 : decode cX1_first 60 = .ok (.iconst 1, 1) := by decide +kernel
theorem dX1_first_61 : decode cX1_first 61 = .ok (.goto 4, 3) := by decide +kernel
theorem dX1_first_64 : decode cX1_first 64 = .ok (.iconst 0, 1) := by decide +kernel
theorem dX1_first_65 : decode cX1_first 65 = .ok (.istore_n 3, 1) := by decide +kernel
theorem dX1_first_66 : decode cX1_first 66 = .ok (.aload_n 0, 1) := by decide +kernel
theorem dX1_first_67 : decode cX1_first 67 = .ok (.getfield 7, 3) := by decide +kernel
theorem dX1_first_70 : decode cX1_first 70 = .ok (.iload_n 2, 1) := by decide +kernel
theorem dX1_first_71 : decode cX1_first 71 = .ok (.iaload, 1) := by decide +kernel
theorem dX1_first_72 : decode cX1_first 72 = .ok (.ifCond .le 11, 3) := by decide +kernel
theorem dX1_first_75 : decode cX1_first 75 = .ok (.iload_n 3, 1) := by decide +kernel
theorem dX1_first_76 : decode cX1_first 76 = .ok (.ifCond .eq 7, 3) := by decide +kernel
theorem dX1_first_79 : decode cX1_first 79 = .ok (.iload_n 2, 1) := by decide +kernel
theorem dX1_first_80 : decode cX1_first 80 = .ok (.goto 4, 3) := by decide +kernel
theorem dX1_first_83 : decode cX1_first 83 = .ok (.iload_n 1, 1) := by decide +kernel
theorem dX1_first_84 : decode cX1_first 84 = .ok (.istore_n 1, 1) := by decide +kernel
theorem dX1_first_85 : decode cX1_first 85 = .ok (.iinc 2 1, 3) := by decide +kernel
theorem dX1_first_88 : decode cX1_first 88 = .ok (.goto (-84), 3) := by decide +kernel
theorem dX1_first_91 : decode cX1_first 91 = .ok (.iload_n 1, 1) := by decide +kernel
theorem dX1_first_92 : decode cX1_first 92 = .ok (.ireturn, 1) := by decide +kernel
theorem dX1_ring_0 : decode cX1_ring 0 = .ok (.aload_n 0, 1) := by decide +kernel
theorem dX1_ring_1 : decode cX1_ring 1 = .ok (.iconst 0, 1) := by decide +kernel
theorem dX1_ring_2 : decode cX1_ring 2 = .ok (.putfield 23, 3) := by decide +kernel
theorem dX1_ring_5 : decode cX1_ring 5 = .ok (.aload_n 0, 1) := by decide +kernel
theorem dX1_ring_6 : decode cX1_ring 6 = .ok (.invokevirtual 42, 3) := by decide +kernel
theorem dX1_ring_9 : decode cX1_ring 9 = .ok (.istore_n 1, 1) := by decide +kernel
theorem dX1_ring_10 : decode cX1_ring 10 = .ok (.iload_n 1, 1) := by decide +kernel
theorem dX1_ring_11 : decode cX1_ring 11 = .ok (.ifCond .lt 16, 3) := by decide +kernel
theorem dX1_ring_14 : decode cX1_ring 14 = .ok (.aload_n 0, 1) := by decide +kernel
theorem dX1_ring_15 : decode cX1_ring 15 = .ok (.getfield 13, 3) := by decide +kernel
theorem dX1_ring_18 : decode cX1_ring 18 = .ok (.iload_n 1, 1) := by decide +kernel
theorem dX1_ring_19 : decode cX1_ring 19 = .ok (.iaload, 1) := by decide +kernel
theorem dX1_ring_20 : decode cX1_ring 20 = .ok (.aload_n 0, 1) := by decide +kernel
theorem dX1_ring_21 : decode cX1_ring 21 = .ok (.getfield 29, 3) := by decide +kernel
theorem dX1_ring_24 : decode cX1_ring 24 = .ok (.if_icmp .le 5, 3) := by decide +kernel
theorem dX1_ring_27 : decode cX1_ring 27 = .ok (.iconst (-1), 1) := by decide +kernel
theorem dX1_ring_28 : decode cX1_ring 28 = .ok (.ireturn, 1) := by decide +kernel
theorem dX1_ring_29 : decode cX1_ring 29 = .ok (.aload_n 0, 1) := by decide +kernel
theorem dX1_ring_30 : decode cX1_ring 30 = .ok (.aload_n 0, 1) := by decide +kernel
theorem dX1_ring_31 : decode cX1_ring 31 = .ok (.getfield 16, 3) := by decide +kernel
theorem dX1_ring_34 : decode cX1_ring 34 = .ok (.iload_n 1, 1) := by decide +kernel
theorem dX1_ring_35 : decode cX1_ring 35 = .ok (.iaload, 1) := by decide +kernel
theorem dX1_ring_36 : decode cX1_ring 36 = .ok (.putfield 46, 3) := by decide +kernel
theorem dX1_ring_39 : decode cX1_ring 39 = .ok (.aload_n 0, 1) := by decide +kernel
theorem dX1_ring_40 : decode cX1_ring 40 = .ok (.aload_n 0, 1) := by decide +kernel
theorem dX1_ring_41 : decode cX1_ring 41 = .ok (.getfield 13, 3) := by decide +kernel
theorem dX1_ring_44 : decode cX1_ring 44 = .ok (.iload_n 1, 1) := by decide +kernel
theorem dX1_ring_45 : decode cX1_ring 45 = .ok (.iaload, 1) := by decide +kernel
theorem dX1_ring_46 : decode cX1_ring 46 = .ok (.putfield 19, 3) := by decide +kernel
theorem dX1_ring_49 : decode cX1_ring 49 = .ok (.aload_n 0, 1) := by decide +kernel
theorem dX1_ring_50 : decode cX1_ring 50 = .ok (.getfield 7, 3) := by decide +kernel
theorem dX1_ring_53 : decode cX1_ring 53 = .ok (.iload_n 1, 1) := by decide +kernel
theorem dX1_ring_54 : decode cX1_ring 54 = .ok (.iconst 0, 1) := by decide +kernel
theorem dX1_ring_55 : decode cX1_ring 55 = .ok (.iastore, 1) := by decide +kernel
theorem dX1_ring_56 : decode cX1_ring 56 = .ok (.iload_n 1, 1) := by decide +kernel
theorem dX1_ring_57 : decode cX1_ring 57 = .ok (.ireturn, 1) := by decide +kernel
theorem dX1_told_0 : decode cX1_told 0 = .ok (.aload_n 0, 1) := by decide +kernel
theorem dX1_told_1 : decode cX1_told 1 = .ok (.iconst 0, 1) := by decide +kernel
theorem dX1_told_2 : decode cX1_told 2 = .ok (.putfield 23, 3) := by decide +kernel
theorem dX1_told_5 : decode cX1_told 5 = .ok (.aload_n 0, 1) := by decide +kernel
theorem dX1_told_6 : decode cX1_told 6 = .ok (.getfield 46, 3) := by decide +kernel
theorem dX1_told_9 : decode cX1_told 9 = .ok (.ireturn, 1) := by decide +kernel
theorem dX1_wasDue_0 : decode cX1_wasDue 0 = .ok (.aload_n 0, 1) := by decide +kernel
theorem dX1_wasDue_1 : decode cX1_wasDue 1 = .ok (.iconst 0, 1) := by decide +kernel
theorem dX1_wasDue_2 : decode cX1_wasDue 2 = .ok (.putfield 23, 3) := by decide +kernel
theorem dX1_wasDue_5 : decode cX1_wasDue 5 = .ok (.aload_n 0, 1) := by decide +kernel
theorem dX1_wasDue_6 : decode cX1_wasDue 6 = .ok (.getfield 19, 3) := by decide +kernel
theorem dX1_wasDue_9 : decode cX1_wasDue 9 = .ok (.ireturn, 1) := by decide +kernel
theorem dX1_next_0 : decode cX1_next 0 = .ok (.aload_n 0, 1) := by decide +kernel
theorem dX1_next_1 : decode cX1_next 1 = .ok (.iconst 0, 1) := by decide +kernel
theorem dX1_next_2 : decode cX1_next 2 = .ok (.putfield 23, 3) := by decide +kernel
theorem dX1_next_5 : decode cX1_next 5 = .ok (.aload_n 0, 1) := by decide +kernel
theorem dX1_next_6 : decode cX1_next 6 = .ok (.invokevirtual 42, 3) := by decide +kernel
theorem dX1_next_9 : decode cX1_next 9 = .ok (.istore_n 1, 1) := by decide +kernel
theorem dX1_next_10 : decode cX1_next 10 = .ok (.iload_n 1, 1) := by decide +kernel
theorem dX1_next_11 : decode cX1_next 11 = .ok (.ifCond .ge 7, 3) := by decide +kernel
theorem dX1_next_14 : decode cX1_next 14 = .ok (.iconst (-1), 1) := by decide +kernel
theorem dX1_next_15 : decode cX1_next 15 = .ok (.goto 9, 3) := by decide +kernel
theorem dX1_next_18 : decode cX1_next 18 = .ok (.aload_n 0, 1) := by decide +kernel
theorem dX1_next_19 : decode cX1_next 19 = .ok (.getfield 13, 3) := by decide +kernel
theorem dX1_next_22 : decode cX1_next 22 = .ok (.iload_n 1, 1) := by decide +kernel
theorem dX1_next_23 : decode cX1_next 23 = .ok (.iaload, 1) := by decide +kernel
theorem dX1_next_24 : decode cX1_next 24 = .ok (.ireturn, 1) := by decide +kernel
theorem dX1_about_0 : decode cX1_about 0 = .ok (.aload_n 0, 1) := by decide +kernel
theorem dX1_about_1 : decode cX1_about 1 = .ok (.aload_n 0, 1) := by decide +kernel
theorem dX1_about_2 : decode cX1_about 2 = .ok (.iload_n 1, 1) := by decide +kernel
theorem dX1_about_3 : decode cX1_about 3 = .ok (.invokevirtual 37, 3) := by decide +kernel
theorem dX1_about_6 : decode cX1_about 6 = .ok (.ifCond .eq 12, 3) := by decide +kernel
theorem dX1_about_9 : decode cX1_about 9 = .ok (.iload_n 2, 1) := by decide +kernel
theorem dX1_about_10 : decode cX1_about 10 = .ok (.ifCond .lt 8, 3) := by decide +kernel
theorem dX1_about_13 : decode cX1_about 13 = .ok (.iload_n 2, 1) := by decide +kernel
theorem dX1_about_14 : decode cX1_about 14 = .ok (.iconst 1, 1) := by decide +kernel
theorem dX1_about_15 : decode cX1_about 15 = .ok (.if_icmp .le 7, 3) := by decide +kernel
theorem dX1_about_18 : decode cX1_about 18 = .ok (.iconst 1, 1) := by decide +kernel
theorem dX1_about_19 : decode cX1_about 19 = .ok (.goto 4, 3) := by decide +kernel
theorem dX1_about_22 : decode cX1_about 22 = .ok (.iconst 0, 1) := by decide +kernel
theorem dX1_about_23 : decode cX1_about 23 = .ok (.putfield 23, 3) := by decide +kernel
theorem dX1_about_26 : decode cX1_about 26 = .ok (.aload_n 0, 1) := by decide +kernel
theorem dX1_about_27 : decode cX1_about 27 = .ok (.getfield 23, 3) := by decide +kernel
theorem dX1_about_30 : decode cX1_about 30 = .ok (.ifCond .le 7, 3) := by decide +kernel
theorem dX1_about_33 : decode cX1_about 33 = .ok (.iconst 0, 1) := by decide +kernel
theorem dX1_about_34 : decode cX1_about 34 = .ok (.goto 22, 3) := by decide +kernel
theorem dX1_about_37 : decode cX1_about 37 = .ok (.iload_n 2, 1) := by decide +kernel
theorem dX1_about_38 : decode cX1_about 38 = .ok (.ifCond .ne 12, 3) := by decide +kernel
theorem dX1_about_41 : decode cX1_about 41 = .ok (.aload_n 0, 1) := by decide +kernel
theorem dX1_about_42 : decode cX1_about 42 = .ok (.getfield 13, 3) := by decide +kernel
theorem dX1_about_45 : decode cX1_about 45 = .ok (.iload_n 1, 1) := by decide +kernel
theorem dX1_about_46 : decode cX1_about 46 = .ok (.iaload, 1) := by decide +kernel
theorem dX1_about_47 : decode cX1_about 47 = .ok (.goto 9, 3) := by decide +kernel
theorem dX1_about_50 : decode cX1_about 50 = .ok (.aload_n 0, 1) := by decide +kernel
theorem dX1_about_51 : decode cX1_about 51 = .ok (.getfield 16, 3) := by decide +kernel
theorem dX1_about_54 : decode cX1_about 54 = .ok (.iload_n 1, 1) := by decide +kernel
theorem dX1_about_55 : decode cX1_about 55 = .ok (.iaload, 1) := by decide +kernel
theorem dX1_about_56 : decode cX1_about 56 = .ok (.ireturn, 1) := by decide +kernel
theorem dX1_count_0 : decode cX1_count 0 = .ok (.aload_n 0, 1) := by decide +kernel
theorem dX1_count_1 : decode cX1_count 1 = .ok (.iconst 0, 1) := by decide +kernel
theorem dX1_count_2 : decode cX1_count 2 = .ok (.putfield 23, 3) := by decide +kernel
theorem dX1_count_5 : decode cX1_count 5 = .ok (.iconst 0, 1) := by decide +kernel
theorem dX1_count_6 : decode cX1_count 6 = .ok (.istore_n 2, 1) := by decide +kernel
theorem dX1_count_7 : decode cX1_count 7 = .ok (.iconst 0, 1) := by decide +kernel
theorem dX1_count_8 : decode cX1_count 8 = .ok (.istore_n 3, 1) := by decide +kernel
theorem dX1_count_9 : decode cX1_count 9 = .ok (.iload_n 3, 1) := by decide +kernel
theorem dX1_count_10 : decode cX1_count 10 = .ok (.sipush 512, 3) := by decide +kernel
theorem dX1_count_13 : decode cX1_count 13 = .ok (.if_icmp .ge 43, 3) := by decide +kernel
theorem dX1_count_16 : decode cX1_count 16 = .ok (.iload_n 2, 1) := by decide +kernel
theorem dX1_count_17 : decode cX1_count 17 = .ok (.aload_n 0, 1) := by decide +kernel
theorem dX1_count_18 : decode cX1_count 18 = .ok (.getfield 7, 3) := by decide +kernel
theorem dX1_count_21 : decode cX1_count 21 = .ok (.iload_n 3, 1) := by decide +kernel
theorem dX1_count_22 : decode cX1_count 22 = .ok (.iaload, 1) := by decide +kernel
theorem dX1_count_23 : decode cX1_count 23 = .ok (.ifCond .le 24, 3) := by decide +kernel
theorem dX1_count_26 : decode cX1_count 26 = .ok (.iload_n 1, 1) := by decide +kernel
theorem dX1_count_27 : decode cX1_count 27 = .ok (.ifCond .eq 16, 3) := by decide +kernel
theorem dX1_count_30 : decode cX1_count 30 = .ok (.aload_n 0, 1) := by decide +kernel
theorem dX1_count_31 : decode cX1_count 31 = .ok (.getfield 13, 3) := by decide +kernel
theorem dX1_count_34 : decode cX1_count 34 = .ok (.iload_n 3, 1) := by decide +kernel
theorem dX1_count_35 : decode cX1_count 35 = .ok (.iaload, 1) := by decide +kernel
theorem dX1_count_36 : decode cX1_count 36 = .ok (.aload_n 0, 1) := by decide +kernel
theorem dX1_count_37 : decode cX1_count 37 = .ok (.getfield 29, 3) := by decide +kernel
theorem dX1_count_40 : decode cX1_count 40 = .ok (.if_icmp .gt 7, 3) := by decide +kernel
theorem dX1_count_43 : decode cX1_count 43 = .ok (.iconst 1, 1) := by decide +kernel
theorem dX1_count_44 : decode cX1_count 44 = .ok (.goto 4, 3) := by decide +kernel
theorem dX1_count_47 : decode cX1_count 47 = .ok (.iconst 0, 1) := by decide +kernel
theorem dX1_count_48 : decode cX1_count 48 = .ok (.iadd, 1) := by decide +kernel
theorem dX1_count_49 : decode cX1_count 49 = .ok (.istore_n 2, 1) := by decide +kernel
theorem dX1_count_50 : decode cX1_count 50 = .ok (.iinc 3 1, 3) := by decide +kernel
theorem dX1_count_53 : decode cX1_count 53 = .ok (.goto (-44), 3) := by decide +kernel
theorem dX1_count_56 : decode cX1_count 56 = .ok (.iload_n 2, 1) := by decide +kernel
theorem dX1_count_57 : decode cX1_count 57 = .ok (.ireturn, 1) := by decide +kernel
theorem dX1_time_0 : decode cX1_time 0 = .ok (.aload_n 0, 1) := by decide +kernel
theorem dX1_time_1 : decode cX1_time 1 = .ok (.iconst 0, 1) := by decide +kernel
theorem dX1_time_2 : decode cX1_time 2 = .ok (.putfield 23, 3) := by decide +kernel
theorem dX1_time_5 : decode cX1_time 5 = .ok (.aload_n 0, 1) := by decide +kernel
theorem dX1_time_6 : decode cX1_time 6 = .ok (.getfield 29, 3) := by decide +kernel
theorem dX1_time_9 : decode cX1_time 9 = .ok (.ireturn, 1) := by decide +kernel
