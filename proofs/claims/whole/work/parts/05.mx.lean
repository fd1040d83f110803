def wsL_law0_r1 : List Cond := [Cond.classLink RL 8 RX0, Cond.instantiable RX0 8, Cond.initialized RX0, Cond.classLink RL 31 RX1, Cond.instantiable RX1 8, Cond.initialized RX1, Cond.methodLink RL 30 yX0_init, Cond.instanceMethod yX0_init, Cond.code yX0_init cX0_init 1 none, Cond.methodLink RX0 1 objectInit, Cond.instanceMethod objectInit, Cond.code objectInit ⟨#[0xb1]⟩ 1 none, Cond.arrayClass .boolean, Cond.fieldLink RX0 9 "AlarmBench" "isSet" "[Z", Cond.arrayClass .int, Cond.fieldLink RX0 13 "AlarmBench" "dueAt" "[I", Cond.fieldLink RX0 17 "AlarmBench" "telling" "[I", Cond.fieldLink RX0 20 "AlarmBench" "rank" "[I", Cond.fieldLink RX0 23 "AlarmBench" "now" "I", Cond.fieldLink RX0 27 "AlarmBench" "lastRank" "I", Cond.fieldLink RX0 30 "AlarmBench" "rungTold" "I", Cond.fieldLink RX0 33 "AlarmBench" "rungDue" "I", Cond.methodLink RL 33 yX1_init, Cond.instanceMethod yX1_init]
def wsL_law0_r2 : List Cond := [Cond.code yX1_init cX1_init 1 none, Cond.methodLink RX1 1 objectInit, Cond.fieldLink RX1 7 "AlarmBenchModel" "rank" "[I", Cond.fieldLink RX1 13 "AlarmBenchModel" "due" "[I", Cond.methodLink RL 34 yL_set, Cond.static yL_set, Cond.initialized RL, Cond.codeWith yL_set cL_set 5 (some .int) [(0, 10, 13, 13), (0, 10, 17, 15)], Cond.classLink RL 13 "java/lang/IllegalArgumentException", Cond.classLink RL 15 "java/lang/IllegalStateException", Cond.methodLink RL 7 yX0_set, Cond.instanceMethod yX0_set, Cond.selects RX0 yX0_set yX0_set, Cond.code yX0_set cX0_set 4 (some .int), Cond.classLink RX0 40 "java/lang/IllegalArgumentException", Cond.initialized "java/lang/IllegalArgumentException", Cond.classLink RX0 51 "java/lang/IllegalStateException", Cond.initialized "java/lang/IllegalStateException", Cond.methodLink RX0 36 yX0_canBeAhead, Cond.static yX0_canBeAhead, Cond.code yX0_canBeAhead cX0_canBeAhead 1 (some .boolean), Cond.constant RX0 83 (1000000000), Cond.methodLink RX0 47 yX0_leastFree, Cond.instanceMethod yX0_leastFree]
def wsL_law0_r3 : List Cond := [Cond.selects RX0 yX0_leastFree yX0_leastFree, Cond.code yX0_leastFree cX0_leastFree 2 (some .int), Cond.methodLink RX0 56 yX0_isBehindLastTime, Cond.instanceMethod yX0_isBehindLastTime, Cond.selects RX0 yX0_isBehindLastTime yX0_isBehindLastTime, Cond.code yX0_isBehindLastTime cX0_isBehindLastTime 2 (some .boolean), Cond.methodLink RX0 61 yX0_putAhead, Cond.instanceMethod yX0_putAhead, Cond.selects RX0 yX0_putAhead yX0_putAhead, Cond.code yX0_putAhead cX0_putAhead 3 none, Cond.methodLink RL 44 yL_shift, Cond.static yL_shift, Cond.codeWith yL_shift cL_shift 5 (some .int) [(0, 10, 13, 13), (0, 10, 17, 15)], Cond.methodLink RL 17 yX0_shift, Cond.instanceMethod yX0_shift, Cond.selects RX0 yX0_shift yX0_shift, Cond.code yX0_shift cX0_shift 4 (some .int), Cond.methodLink RX0 65 yX0_exists, Cond.instanceMethod yX0_exists, Cond.selects RX0 yX0_exists yX0_exists, Cond.code yX0_exists cX0_exists 2 (some .boolean), Cond.methodLink RL 47 yL_stop, Cond.static yL_stop, Cond.codeWith yL_stop cL_stop 4 (some .int) [(0, 9, 12, 13)]]
def wsL_law0_r4 : List Cond := [Cond.methodLink RL 20 yX0_stop, Cond.instanceMethod yX0_stop, Cond.selects RX0 yX0_stop yX0_stop, Cond.code yX0_stop cX0_stop 2 (some .int), Cond.methodLink RL 51 yX0_stopAll, Cond.instanceMethod yX0_stopAll, Cond.selects RX0 yX0_stopAll yX0_stopAll, Cond.code yX0_stopAll cX0_stopAll 4 (some .int), Cond.methodLink RL 55 yL_pass, Cond.static yL_pass, Cond.codeWith yL_pass cL_pass 4 (some .int) [(0, 9, 12, 13), (0, 9, 15, 15)], Cond.methodLink RL 24 yX0_pass, Cond.instanceMethod yX0_pass, Cond.selects RX0 yX0_pass yX0_pass, Cond.code yX0_pass cX0_pass 2 (some .int), Cond.constant RX0 70 (200000), Cond.methodLink RL 58 yX0_ring, Cond.instanceMethod yX0_ring, Cond.selects RX0 yX0_ring yX0_ring, Cond.code yX0_ring cX0_ring 2 (some .int), Cond.methodLink RX0 75 yX0_first, Cond.instanceMethod yX0_first, Cond.selects RX0 yX0_first yX0_first, Cond.code yX0_first cX0_first 3 (some .int)]
def wsL_law0_r5 : List Cond := [Cond.methodLink RX0 84 yX0_isBefore, Cond.instanceMethod yX0_isBefore, Cond.selects RX0 yX0_isBefore yX0_isBefore, Cond.code yX0_isBefore cX0_isBefore 3 (some .boolean), Cond.methodLink RX0 78 yX0_isReady, Cond.instanceMethod yX0_isReady, Cond.selects RX0 yX0_isReady yX0_isReady, Cond.code yX0_isReady cX0_isReady 2 (some .boolean), Cond.methodLink RL 62 yX0_told, Cond.instanceMethod yX0_told, Cond.selects RX0 yX0_told yX0_told, Cond.code yX0_told cX0_told 1 (some .int), Cond.methodLink RL 66 yX0_wasDue, Cond.instanceMethod yX0_wasDue, Cond.selects RX0 yX0_wasDue yX0_wasDue, Cond.code yX0_wasDue cX0_wasDue 1 (some .int), Cond.methodLink RL 70 yX0_next, Cond.instanceMethod yX0_next, Cond.selects RX0 yX0_next yX0_next, Cond.code yX0_next cX0_next 2 (some .int), Cond.methodLink RL 74 yL_about, Cond.static yL_about, Cond.codeWith yL_about cL_about 5 (some .int) [(0, 10, 13, 13)], Cond.methodLink RL 27 yX0_about]
def wsL_law0_r6 : List Cond := [Cond.instanceMethod yX0_about, Cond.selects RX0 yX0_about yX0_about, Cond.code yX0_about cX0_about 3 (some .int), Cond.methodLink RL 77 yX0_count, Cond.instanceMethod yX0_count, Cond.selects RX0 yX0_count yX0_count, Cond.code yX0_count cX0_count 4 (some .int), Cond.methodLink RL 82 yX0_time, Cond.instanceMethod yX0_time, Cond.selects RX0 yX0_time yX0_time, Cond.code yX0_time cX0_time 1 (some .int)]
def wsL_law0 : List Cond := (wsL_law0_r1 ++ (wsL_law0_r2 ++ (wsL_law0_r3 ++ (wsL_law0_r4 ++ (wsL_law0_r5 ++ wsL_law0_r6))))) ++ wsX00 ++ wsX10 ++ ([] : List Cond)
def wsL_law : List Cond := wsL_law0 ++ (vx_atS RX0 44 "java/lang/IllegalArgumentException" ["java/lang/RuntimeException", "java/lang/Exception"]).filter goodWord ++ (vx_atS RX0 55 "java/lang/IllegalStateException" ["java/lang/RuntimeException", "java/lang/Exception"]).filter goodWord
set_option maxRecDepth 20000 in
theorem wsL_law_in0 : ∀ w ∈ wsL_law0, w ∈ lw_tbl := fun w h => (goodIn_p wsL_law0 [23, 26, 244, 102, 105, 177, 197, 202, 209, 213, 221, 57, 228, 61, 65, 69, 73, 77, 81, 85, 238, 89, 93] (by decide +kernel) (by decide +kernel) w h).1
theorem wsL_law_x0 : ∀ w ∈ (vx_atS RX0 44 "java/lang/IllegalArgumentException" ["java/lang/RuntimeException", "java/lang/Exception"]).filter goodWord, w ∈ lw_tbl := by decide +kernel
theorem wsL_law_x1 : ∀ w ∈ (vx_atS RX0 55 "java/lang/IllegalStateException" ["java/lang/RuntimeException", "java/lang/Exception"]).filter goodWord, w ∈ lw_tbl := by decide +kernel
theorem wsL_law_in : ∀ w ∈ wsL_law, w ∈ lw_tbl := fun w h => (List.mem_append.mp h).elim (fun h => (List.mem_append.mp h).elim (fun h => wsL_law_in0 w h) (fun h => wsL_law_x0 w h)) (fun h => wsL_law_x1 w h)
theorem inlX0 : ∀ w ∈ wsX00, w ∈ wsL_law := fun _ h => List.mem_append_left _ (List.mem_append_left _ (List.mem_append_left _ (List.mem_append_left _ (List.mem_append_right _ h))))
theorem inX0 : ∀ w ∈ wsX00, w ∈ lw_tbl := fun w h => wsL_law_in w (inlX0 w h)
set_option maxRecDepth 20000 in
theorem ggL_law_X0_init : GoodIn wsL_law wsX0_init := goodIn_r _ [8, 9, 10, 11, 12, 13, 14, 15, 16, 17, 18, 19, 20, 21, 131, 132, 133, 134, 135, 136, 137, 138] (by decide +kernel) (by decide +kernel)
set_option maxRecDepth 20000 in
theorem gL_law_X0_init : GoodIn wsL_law (wsX0_init) := ggL_law_X0_init
set_option maxRecDepth 20000 in
theorem ggL_law_L_set : GoodIn wsL_law wsL_set := goodIn_ca (goodIn_ca (goodIn_r _ [31, 32, 33, 34, 35, 36, 2, 37, 38, 39, 40, 41, 13, 16, 42, 43, 44, 45, 46, 47, 48, 49, 50, 51, 52, 53, 18, 54, 55, 56, 57, 15, 19, 17, 131, 132, 133, 134, 135, 136, 137, 138] (by decide +kernel) (by decide +kernel)) (goodIn_sub (fun _ h => List.mem_append_left _ (List.mem_append_right _ h)) (by decide +kernel))) (goodIn_sub (fun _ h => List.mem_append_right _ h) (by decide +kernel))
set_option maxRecDepth 20000 in
theorem gL_law_L_set : GoodIn wsL_law (va_wsS RL 34 yL_set wsL_set) := goodIn_app (goodIn_of _ (by decide +kernel)) ggL_law_L_set
set_option maxRecDepth 20000 in
theorem ggL_law_L_shift : GoodIn wsL_law wsL_shift := goodIn_ca (goodIn_ca (goodIn_r _ [60, 32, 33, 61, 62, 63, 2, 64, 38, 39, 40, 41, 15, 18, 65, 66, 67, 68, 13, 42, 43, 44, 45, 50, 51, 52, 53, 54, 55, 56, 57, 19, 17, 131, 132, 133, 134, 135, 136, 137, 138] (by decide +kernel) (by decide +kernel)) (goodIn_sub (fun _ h => List.mem_append_left _ (List.mem_append_right _ h)) (by decide +kernel))) (goodIn_sub (fun _ h => List.mem_append_right _ h) (by decide +kernel))
set_option maxRecDepth 20000 in
theorem gL_law_L_shift : GoodIn wsL_law (va_wsS RL 44 yL_shift wsL_shift) := goodIn_app (goodIn_of _ (by decide +kernel)) ggL_law_L_shift
set_option maxRecDepth 20000 in
theorem ggL_law_L_stop : GoodIn wsL_law wsL_stop := goodIn_ca (goodIn_r _ [71, 32, 72, 73, 74, 2, 75, 38, 39, 13, 16, 65, 66, 67, 68, 131, 132, 133, 134, 135, 136, 137, 138] (by decide +kernel) (by decide +kernel)) (goodIn_sub (fun _ h => List.mem_append_left _ (List.mem_append_right _ h)) (by decide +kernel))
set_option maxRecDepth 20000 in
theorem gL_law_L_stop : GoodIn wsL_law (va_wsS RL 47 yL_stop wsL_stop) := goodIn_app (goodIn_of _ (by decide +kernel)) ggL_law_L_stop
set_option maxRecDepth 20000 in
theorem ggL_law_X0_stopAll : GoodIn wsL_law wsX0_stopAll := goodIn_r _ [79, 13, 16, 131, 132, 133, 134, 135, 136, 137, 138] (by decide +kernel) (by decide +kernel)
set_option maxRecDepth 20000 in
theorem gL_law_X0_stopAll : GoodIn wsL_law (wsV RL 51 RX0 yX0_stopAll wsX0_stopAll) := goodIn_app (goodIn_of _ (by decide +kernel)) ggL_law_X0_stopAll
set_option maxRecDepth 20000 in
theorem ggL_law_L_pass : GoodIn wsL_law wsL_pass := goodIn_ca (goodIn_ca (goodIn_r _ [82, 32, 33, 83, 84, 85, 2, 86, 38, 39, 40, 41, 87, 18, 50, 51, 52, 53, 45, 131, 132, 133, 134, 135, 136, 137, 138] (by decide +kernel) (by decide +kernel)) (goodIn_sub (fun _ h => List.mem_append_left _ (List.mem_append_right _ h)) (by decide +kernel))) (goodIn_sub (fun _ h => List.mem_append_right _ h) (by decide +kernel))
set_option maxRecDepth 20000 in
theorem gL_law_L_pass : GoodIn wsL_law (va_wsS RL 55 yL_pass wsL_pass) := goodIn_app (goodIn_of _ (by decide +kernel)) ggL_law_L_pass
set_option maxRecDepth 20000 in
theorem ggL_law_X0_ring : GoodIn wsL_law wsX0_ring := goodIn_r _ [91, 13, 16, 20, 15, 21, 92, 93, 94, 2, 95, 96, 97, 98, 99, 17, 100, 101, 102, 103, 18, 131, 132, 133, 134, 135, 136, 137, 138] (by decide +kernel) (by decide +kernel)
set_option maxRecDepth 20000 in
theorem gL_law_X0_ring : GoodIn wsL_law (wsV RL 58 RX0 yX0_ring wsX0_ring) := goodIn_app (goodIn_of _ (by decide +kernel)) ggL_law_X0_ring
set_option maxRecDepth 20000 in
theorem ggL_law_X0_told : GoodIn wsL_law wsX0_told := goodIn_r _ [107, 20, 131, 132, 133, 134, 135, 136, 137, 138] (by decide +kernel) (by decide +kernel)
set_option maxRecDepth 20000 in
theorem gL_law_X0_told : GoodIn wsL_law (wsV RL 62 RX0 yX0_told wsX0_told) := goodIn_app (goodIn_of _ (by decide +kernel)) ggL_law_X0_told
set_option maxRecDepth 20000 in
theorem ggL_law_X0_wasDue : GoodIn wsL_law wsX0_wasDue := goodIn_r _ [111, 21, 131, 132, 133, 134, 135, 136, 137, 138] (by decide +kernel) (by decide +kernel)
set_option maxRecDepth 20000 in
theorem gL_law_X0_wasDue : GoodIn wsL_law (wsV RL 66 RX0 yX0_wasDue wsX0_wasDue) := goodIn_app (goodIn_of _ (by decide +kernel)) ggL_law_X0_wasDue
set_option maxRecDepth 20000 in
theorem ggL_law_X0_next : GoodIn wsL_law wsX0_next := goodIn_r _ [115, 15, 92, 93, 94, 2, 95, 13, 96, 97, 98, 99, 17, 131, 132, 133, 134, 135, 136, 137, 138] (by decide +kernel) (by decide +kernel)
set_option maxRecDepth 20000 in
theorem gL_law_X0_next : GoodIn wsL_law (wsV RL 70 RX0 yX0_next wsX0_next) := goodIn_app (goodIn_of _ (by decide +kernel)) ggL_law_X0_next
set_option maxRecDepth 20000 in
theorem ggL_law_L_about : GoodIn wsL_law wsL_about := goodIn_ca (goodIn_r _ [118, 32, 119, 120, 121, 2, 122, 38, 39, 15, 16, 65, 66, 67, 68, 13, 131, 132, 133, 134, 135, 136, 137, 138] (by decide +kernel) (by decide +kernel)) (goodIn_sub (fun _ h => List.mem_append_left _ (List.mem_append_right _ h)) (by decide +kernel))
set_option maxRecDepth 20000 in
theorem gL_law_L_about : GoodIn wsL_law (va_wsS RL 74 yL_about wsL_about) := goodIn_app (goodIn_of _ (by decide +kernel)) ggL_law_L_about
set_option maxRecDepth 20000 in
theorem ggL_law_X0_count : GoodIn wsL_law wsX0_count := goodIn_r _ [126, 13, 100, 101, 102, 2, 103, 15, 18, 131, 132, 133, 134, 135, 136, 137, 138] (by decide +kernel) (by decide +kernel)
set_option maxRecDepth 20000 in
theorem gL_law_X0_count : GoodIn wsL_law (wsV RL 77 RX0 yX0_count wsX0_count) := goodIn_app (goodIn_of _ (by decide +kernel)) ggL_law_X0_count
set_option maxRecDepth 20000 in
theorem ggL_law_X0_time : GoodIn wsL_law wsX0_time := goodIn_r _ [130, 18, 131, 132, 133, 134, 135, 136, 137, 138] (by decide +kernel) (by decide +kernel)
set_option maxRecDepth 20000 in
theorem gL_law_X0_time : GoodIn wsL_law (wsV RL 82 RX0 yX0_time wsX0_time) := goodIn_app (goodIn_of _ (by decide +kernel)) ggL_law_X0_time
set_option maxRecDepth 20000 in
theorem gW_X1_init : GoodIn lw_tbl wsX1_init := goodIn_p _ [244, 26] (by decide +kernel) (by decide +kernel)
set_option maxRecDepth 20000 in
theorem gW_X1_thrown : GoodIn lw_tbl (wsV RL 40 RX1 yX1_thrown wsX1_thrown) := goodIn_p _ [274] (by decide +kernel) (by decide +kernel)
set_option maxRecDepth 20000 in
theorem gW_X1_set : GoodIn lw_tbl (wsV RL 39 RX1 yX1_set wsX1_set) := goodIn_p _ [278, 283] (by decide +kernel) (by decide +kernel)
set_option maxRecDepth 20000 in
theorem gW_X1_shift : GoodIn lw_tbl (wsV RL 46 RX1 yX1_shift wsX1_shift) := goodIn_p _ [287, 291, 283] (by decide +kernel) (by decide +kernel)
set_option maxRecDepth 20000 in
theorem gW_X1_stop : GoodIn lw_tbl (wsV RL 50 RX1 yX1_stop wsX1_stop) := goodIn_p _ [295, 291] (by decide +kernel) (by decide +kernel)
set_option maxRecDepth 20000 in
theorem gW_X1_stopAll : GoodIn lw_tbl (wsV RL 54 RX1 yX1_stopAll wsX1_stopAll) := goodIn_p _ [299] (by decide +kernel) (by decide +kernel)
set_option maxRecDepth 20000 in
theorem gW_X1_pass : GoodIn lw_tbl (wsV RL 57 RX1 yX1_pass wsX1_pass) := goodIn_p _ [303] (by decide +kernel) (by decide +kernel)
set_option maxRecDepth 20000 in
theorem gW_X1_ring : GoodIn lw_tbl (wsV RL 61 RX1 yX1_ring wsX1_ring) := goodIn_p _ [308, 312] (by decide +kernel) (by decide +kernel)
set_option maxRecDepth 20000 in
theorem gW_X1_told : GoodIn lw_tbl (wsV RL 65 RX1 yX1_told wsX1_told) := goodIn_p _ [316] (by decide +kernel) (by decide +kernel)
set_option maxRecDepth 20000 in
theorem gW_X1_wasDue : GoodIn lw_tbl (wsV RL 69 RX1 yX1_wasDue wsX1_wasDue) := goodIn_p _ [320] (by decide +kernel) (by decide +kernel)
set_option maxRecDepth 20000 in
theorem gW_X1_next : GoodIn lw_tbl (wsV RL 73 RX1 yX1_next wsX1_next) := goodIn_p _ [324, 312] (by decide +kernel) (by decide +kernel)
set_option maxRecDepth 20000 in
theorem gW_X1_about : GoodIn lw_tbl (wsV RL 76 RX1 yX1_about wsX1_about) := goodIn_p _ [328, 291] (by decide +kernel) (by decide +kernel)
set_option maxRecDepth 20000 in
theorem gW_X1_count : GoodIn lw_tbl (wsV RL 81 RX1 yX1_count wsX1_count) := goodIn_p _ [332] (by decide +kernel) (by decide +kernel)
set_option maxRecDepth 20000 in
theorem gW_X1_time : GoodIn lw_tbl (wsV RL 85 RX1 yX1_time wsX1_time) := goodIn_p _ [336] (by decide +kernel) (by decide +kernel)
set_option maxRecDepth 20000 in
theorem inX1 : ∀ w ∈ wsX10, w ∈ lw_tbl := by decide +kernel
