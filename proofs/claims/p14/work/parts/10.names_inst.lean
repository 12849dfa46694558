abbrev wsX100 : List Cond := u_ws RX10 TX10 35
abbrev cX10_isJob : ByteArray := prog_12_method_6_code
def yX10_isJob : MethodName := ⟨RX10, "isJob", "(I)Z"⟩
abbrev cX10_isSquare : ByteArray := prog_12_method_7_code
def yX10_isSquare : MethodName := ⟨RX10, "isSquare", "(II)Z"⟩
abbrev cX10_isLine : ByteArray := prog_12_method_14_code
def yX10_isLine : MethodName := ⟨RX10, "isLine", "(III)Z"⟩
abbrev cX10_tell : ByteArray := prog_12_method_15_code
def yX10_tell : MethodName := ⟨RX10, "tell", "(II)V"⟩
abbrev cX10_sum : ByteArray := prog_12_method_16_code
def yX10_sum : MethodName := ⟨RX10, "sum", "(IIII)I"⟩
abbrev cX10_untell : ByteArray := prog_12_method_19_code
def yX10_untell : MethodName := ⟨RX10, "untell", "(II)I"⟩
abbrev cX10_hold : ByteArray := prog_12_method_20_code
def yX10_hold : MethodName := ⟨RX10, "hold", "(III)I"⟩
abbrev cX10_mark : ByteArray := prog_12_method_21_code
def yX10_mark : MethodName := ⟨RX10, "mark", "(III)I"⟩
abbrev cX10_told : ByteArray := prog_12_method_22_code
def yX10_told : MethodName := ⟨RX10, "told", "(III)I"⟩
def wsX10_isJob : List Cond := .code yX10_isJob cX10_isJob 2 (some .boolean) :: ([.fieldLink RX10 93 "ShadowBenchModel" "jobs" "I"] ++ wsX100)
def wsX10_isSquare : List Cond := .code yX10_isSquare cX10_isSquare 3 (some .boolean) :: ([.fieldLink RX10 13 "ShadowBenchModel" "wide" "[I", .fieldLink RX10 16 "ShadowBenchModel" "high" "[I", .methodLink RX10 96 yX10_isJob, .instanceMethod yX10_isJob, .selects RX10 yX10_isJob yX10_isJob, .initialized RX10, .code yX10_isJob cX10_isJob 2 (some .boolean), .fieldLink RX10 93 "ShadowBenchModel" "jobs" "I"] ++ wsX100)
def wsX10_isLine : List Cond := .code yX10_isLine cX10_isLine 4 (some .boolean) :: ([.constantLong RX10 116 (3), .fieldLink RX10 13 "ShadowBenchModel" "wide" "[I", .fieldLink RX10 16 "ShadowBenchModel" "high" "[I", .methodLink RX10 96 yX10_isJob, .instanceMethod yX10_isJob, .selects RX10 yX10_isJob yX10_isJob, .initialized RX10, .code yX10_isJob cX10_isJob 2 (some .boolean), .fieldLink RX10 93 "ShadowBenchModel" "jobs" "I", .methodLink RX10 85 yX10_isIn, .static yX10_isIn, .code yX10_isIn cX10_isIn 6 (some .boolean), .methodLink RX10 108 yX10_linesOf, .static yX10_linesOf, .code yX10_linesOf cX10_linesOf 3 (some .int)] ++ wsX100)
def wsX10_tell : List Cond := .code yX10_tell cX10_tell 4 none :: ([.fieldLink RX10 22 "ShadowBenchModel" "isTold" "[Z", .fieldLink RX10 19 "ShadowBenchModel" "sums" "[I"] ++ wsX100)
def wsX10_sum_r1 : List Cond := [Cond.fieldLink RX10 79 "ShadowBenchModel" "thrown" "I", Cond.constantLong RX10 83 (6), Cond.fieldLink RX10 19 "ShadowBenchModel" "sums" "[I", Cond.methodLink RX10 118 yX10_isLine, Cond.instanceMethod yX10_isLine, Cond.selects RX10 yX10_isLine yX10_isLine, Cond.initialized RX10, Cond.code yX10_isLine cX10_isLine 4 (some .boolean), Cond.constantLong RX10 116 (3), Cond.fieldLink RX10 13 "ShadowBenchModel" "wide" "[I", Cond.fieldLink RX10 16 "ShadowBenchModel" "high" "[I", Cond.methodLink RX10 96 yX10_isJob, Cond.instanceMethod yX10_isJob, Cond.selects RX10 yX10_isJob yX10_isJob, Cond.code yX10_isJob cX10_isJob 2 (some .boolean), Cond.fieldLink RX10 93 "ShadowBenchModel" "jobs" "I", Cond.methodLink RX10 85 yX10_isIn, Cond.static yX10_isIn, Cond.code yX10_isIn cX10_isIn 6 (some .boolean), Cond.methodLink RX10 108 yX10_linesOf, Cond.static yX10_linesOf, Cond.code yX10_linesOf cX10_linesOf 3 (some .int), Cond.methodLink RX10 122 yX10_tell, Cond.instanceMethod yX10_tell]
def wsX10_sum_r2 : List Cond := [Cond.selects RX10 yX10_tell yX10_tell, Cond.code yX10_tell cX10_tell 4 none, Cond.fieldLink RX10 22 "ShadowBenchModel" "isTold" "[Z"]
def wsX10_sum : List Cond := .code yX10_sum cX10_sum 5 (some .int) :: ((wsX10_sum_r1 ++ wsX10_sum_r2) ++ wsX100)
def wsX10_untell : List Cond := .code yX10_untell cX10_untell 4 (some .int) :: ([.fieldLink RX10 79 "ShadowBenchModel" "thrown" "I", .constantLong RX10 134 (2), .constantLong RX10 116 (3), .fieldLink RX10 22 "ShadowBenchModel" "isTold" "[Z", .methodLink RX10 96 yX10_isJob, .instanceMethod yX10_isJob, .selects RX10 yX10_isJob yX10_isJob, .initialized RX10, .code yX10_isJob cX10_isJob 2 (some .boolean), .fieldLink RX10 93 "ShadowBenchModel" "jobs" "I", .methodLink RX10 85 yX10_isIn, .static yX10_isIn, .code yX10_isIn cX10_isIn 6 (some .boolean)] ++ wsX100)
def wsX10_hold : List Cond := .code yX10_hold cX10_hold 5 (some .int) :: ([.fieldLink RX10 79 "ShadowBenchModel" "thrown" "I", .constantLong RX10 134 (2), .fieldLink RX10 26 "ShadowBenchModel" "held" "[I", .methodLink RX10 136 yX10_isSquare, .instanceMethod yX10_isSquare, .selects RX10 yX10_isSquare yX10_isSquare, .initialized RX10, .code yX10_isSquare cX10_isSquare 3 (some .boolean), .fieldLink RX10 13 "ShadowBenchModel" "wide" "[I", .fieldLink RX10 16 "ShadowBenchModel" "high" "[I", .methodLink RX10 96 yX10_isJob, .instanceMethod yX10_isJob, .selects RX10 yX10_isJob yX10_isJob, .code yX10_isJob cX10_isJob 2 (some .boolean), .fieldLink RX10 93 "ShadowBenchModel" "jobs" "I", .methodLink RX10 85 yX10_isIn, .static yX10_isIn, .code yX10_isIn cX10_isIn 6 (some .boolean)] ++ wsX100)
def wsX10_mark : List Cond := .code yX10_mark cX10_mark 5 (some .int) :: ([.fieldLink RX10 79 "ShadowBenchModel" "thrown" "I", .constantLong RX10 139 (-99), .constantLong RX10 141 (99), .fieldLink RX10 7 "ShadowBenchModel" "kind" "[I", .fieldLink RX10 29 "ShadowBenchModel" "weight" "[I", .methodLink RX10 136 yX10_isSquare, .instanceMethod yX10_isSquare, .selects RX10 yX10_isSquare yX10_isSquare, .initialized RX10, .code yX10_isSquare cX10_isSquare 3 (some .boolean), .fieldLink RX10 13 "ShadowBenchModel" "wide" "[I", .fieldLink RX10 16 "ShadowBenchModel" "high" "[I", .methodLink RX10 96 yX10_isJob, .instanceMethod yX10_isJob, .selects RX10 yX10_isJob yX10_isJob, .code yX10_isJob cX10_isJob 2 (some .boolean), .fieldLink RX10 93 "ShadowBenchModel" "jobs" "I", .methodLink RX10 85 yX10_isIn, .static yX10_isIn, .code yX10_isIn cX10_isIn 6 (some .boolean)] ++ wsX100)
def wsX10_told : List Cond := .code yX10_told cX10_told 4 (some .int) :: ([.fieldLink RX10 79 "ShadowBenchModel" "thrown" "I", .fieldLink RX10 13 "ShadowBenchModel" "wide" "[I", .fieldLink RX10 16 "ShadowBenchModel" "high" "[I", .fieldLink RX10 22 "ShadowBenchModel" "isTold" "[Z", .fieldLink RX10 19 "ShadowBenchModel" "sums" "[I", .methodLink RX10 118 yX10_isLine, .instanceMethod yX10_isLine, .selects RX10 yX10_isLine yX10_isLine, .initialized RX10, .code yX10_isLine cX10_isLine 4 (some .boolean), .constantLong RX10 116 (3), .methodLink RX10 96 yX10_isJob, .instanceMethod yX10_isJob, .selects RX10 yX10_isJob yX10_isJob, .code yX10_isJob cX10_isJob 2 (some .boolean), .fieldLink RX10 93 "ShadowBenchModel" "jobs" "I", .methodLink RX10 85 yX10_isIn, .static yX10_isIn, .code yX10_isIn cX10_isIn 6 (some .boolean), .methodLink RX10 108 yX10_linesOf, .static yX10_linesOf, .code yX10_linesOf cX10_linesOf 3 (some .int)] ++ wsX100)
theorem dX10_isJob_0 : decode cX10_isJob 0 = .ok (.iload_n 1, 1) := by decide +kernel
theorem dX10_isJob_1 : decode cX10_isJob 1 = .ok (.ifCond .lt 15, 3) := by decide +kernel
theorem dX10_isJob_4 : decode cX10_isJob 4 = .ok (.iload_n 1, 1) := by decide +kernel
theorem dX10_isJob_5 : decode cX10_isJob 5 = .ok (.aload_n 0, 1) := by decide +kernel
theorem dX10_isJob_6 : decode cX10_isJob 6 = .ok (.getfield 93, 3) := by decide +kernel
theorem dX10_isJob_9 : decode cX10_isJob 9 = .ok (.if_icmp .ge 7, 3) := by decide +kernel
theorem dX10_isJob_12 : decode cX10_isJob 12 = .ok (.iconst 1, 1) := by decide +kernel
theorem dX10_isJob_13 : decode cX10_isJob 13 = .ok (.goto 4, 3) := by decide +kernel
theorem dX10_isJob_16 : decode cX10_isJob 16 = .ok (.iconst 0, 1) := by decide +kernel
theorem dX10_isJob_17 : decode cX10_isJob 17 = .ok (.ireturn, 1) := by decide +kernel
def chX10_isSquare : List (List Cond) := [[.fieldLink RX10 13 "ShadowBenchModel" "wide" "[I", .fieldLink RX10 16 "ShadowBenchModel" "high" "[I", .methodLink RX10 96 yX10_isJob, .instanceMethod yX10_isJob, .selects RX10 yX10_isJob yX10_isJob, .initialized RX10, .code yX10_isJob cX10_isJob 2 (some .boolean), .fieldLink RX10 93 "ShadowBenchModel" "jobs" "I"], wsX100]
set_option maxRecDepth 20000 in
theorem chX10_isSquare_in : ∀ c ∈ chX10_isSquare, ∀ w ∈ c, w ∈ wsX10_isSquare := (all_c (P := fun c => ∀ w ∈ c, w ∈ wsX10_isSquare) (fun w h => List.mem_cons_of_mem _ (List.mem_append_left _ (h))) (all_c (P := fun c => ∀ w ∈ c, w ∈ wsX10_isSquare) (fun w h => List.mem_cons_of_mem _ (List.mem_append_right _ (h))) (fun _ h => nomatch h)))
set_option maxRecDepth 20000 in
theorem ggX10_isSquare_X10_isJob : GoodIn wsX10_isSquare wsX10_isJob := goodIn_ca (goodIn_c chX10_isSquare chX10_isSquare_in _ [(0, 6), (0, 7)] (by rfl) (by decide +kernel)) (goodIn_sub (fun _ h => List.mem_cons_of_mem _ (List.mem_append_right _ (h))) (by decide +kernel))
set_option maxRecDepth 20000 in
theorem gX10_isSquare_X10_isJob : GoodIn wsX10_isSquare (wsV RX10 96 RX10 yX10_isJob wsX10_isJob) := goodIn_app (goodIn_c chX10_isSquare chX10_isSquare_in _ [(0, 2), (0, 3), (0, 4), (0, 5)] (by rfl) (by decide +kernel)) ggX10_isSquare_X10_isJob
theorem dX10_isSquare_0 : decode cX10_isSquare 0 = .ok (.aload_n 0, 1) := by decide +kernel
theorem dX10_isSquare_1 : decode cX10_isSquare 1 = .ok (.iload_n 1, 1) := by decide +kernel
theorem dX10_isSquare_2 : decode cX10_isSquare 2 = .ok (.invokevirtual 96, 3) := by decide +kernel
theorem dX10_isSquare_5 : decode cX10_isSquare 5 = .ok (.ifCond .eq 28, 3) := by decide +kernel
theorem dX10_isSquare_8 : decode cX10_isSquare 8 = .ok (.iload_n 2, 1) := by decide +kernel
theorem dX10_isSquare_9 : decode cX10_isSquare 9 = .ok (.ifCond .lt 24, 3) := by decide +kernel
theorem dX10_isSquare_12 : decode cX10_isSquare 12 = .ok (.iload_n 2, 1) := by decide +kernel
theorem dX10_isSquare_13 : decode cX10_isSquare 13 = .ok (.aload_n 0, 1) := by decide +kernel
theorem dX10_isSquare_14 : decode cX10_isSquare 14 = .ok (.getfield 13, 3) := by decide +kernel
theorem dX10_isSquare_17 : decode cX10_isSquare 17 = .ok (.iload_n 1, 1) := by decide +kernel
theorem dX10_isSquare_18 : decode cX10_isSquare 18 = .ok (.iaload, 1) := by decide +kernel
theorem dX10_isSquare_19 : decode cX10_isSquare 19 = .ok (.aload_n 0, 1) := by decide +kernel
theorem dX10_isSquare_20 : decode cX10_isSquare 20 = .ok (.getfield 16, 3) := by decide +kernel
theorem dX10_isSquare_23 : decode cX10_isSquare 23 = .ok (.iload_n 1, 1) := by decide +kernel
theorem dX10_isSquare_24 : decode cX10_isSquare 24 = .ok (.iaload, 1) := by decide +kernel
theorem dX10_isSquare_25 : decode cX10_isSquare 25 = .ok (.imul, 1) := by decide +kernel
theorem dX10_isSquare_26 : decode cX10_isSquare 26 = .ok (.if_icmp .ge 7, 3) := by decide +kernel
theorem dX10_isSquare_29 : decode cX10_isSquare 29 = .ok (.iconst 1, 1) := by decide +kernel
theorem dX10_isSquare_30 : decode cX10_isSquare 30 = .ok (.goto 4, 3) := by decide +kernel
theorem dX10_isSquare_33 : decode cX10_isSquare 33 = .ok (.iconst 0, 1) := by decide +kernel
theorem dX10_isSquare_34 : decode cX10_isSquare 34 = .ok (.ireturn, 1) := by decide +kernel
def chX10_isLine : List (List Cond) := [[.constantLong RX10 116 (3), .fieldLink RX10 13 "ShadowBenchModel" "wide" "[I", .fieldLink RX10 16 "ShadowBenchModel" "high" "[I", .methodLink RX10 96 yX10_isJob, .instanceMethod yX10_isJob, .selects RX10 yX10_isJob yX10_isJob, .initialized RX10, .code yX10_isJob cX10_isJob 2 (some .boolean), .fieldLink RX10 93 "ShadowBenchModel" "jobs" "I", .methodLink RX10 85 yX10_isIn, .static yX10_isIn, .code yX10_isIn cX10_isIn 6 (some .boolean), .methodLink RX10 108 yX10_linesOf, .static yX10_linesOf, .code yX10_linesOf cX10_linesOf 3 (some .int)], wsX100]
set_option maxRecDepth 20000 in
theorem chX10_isLine_in : ∀ c ∈ chX10_isLine, ∀ w ∈ c, w ∈ wsX10_isLine := (all_c (P := fun c => ∀ w ∈ c, w ∈ wsX10_isLine) (fun w h => List.mem_cons_of_mem _ (List.mem_append_left _ (h))) (all_c (P := fun c => ∀ w ∈ c, w ∈ wsX10_isLine) (fun w h => List.mem_cons_of_mem _ (List.mem_append_right _ (h))) (fun _ h => nomatch h)))
set_option maxRecDepth 20000 in
theorem ggX10_isLine_X10_isJob : GoodIn wsX10_isLine wsX10_isJob := goodIn_ca (goodIn_c chX10_isLine chX10_isLine_in _ [(0, 7), (0, 8)] (by rfl) (by decide +kernel)) (goodIn_sub (fun _ h => List.mem_cons_of_mem _ (List.mem_append_right _ (h))) (by decide +kernel))
set_option maxRecDepth 20000 in
theorem gX10_isLine_X10_isJob : GoodIn wsX10_isLine (wsV RX10 96 RX10 yX10_isJob wsX10_isJob) := goodIn_app (goodIn_c chX10_isLine chX10_isLine_in _ [(0, 3), (0, 4), (0, 5), (0, 6)] (by rfl) (by decide +kernel)) ggX10_isLine_X10_isJob
set_option maxRecDepth 20000 in
theorem ggX10_isLine_X10_isIn : GoodIn wsX10_isLine wsX10_isIn := goodIn_r _ [12] (by decide +kernel) (by decide +kernel)
set_option maxRecDepth 20000 in
theorem gX10_isLine_X10_isIn : GoodIn wsX10_isLine (va_wsS RX10 85 yX10_isIn wsX10_isIn) := goodIn_app (goodIn_c chX10_isLine chX10_isLine_in _ [(0, 9), (0, 10), (0, 6)] (by rfl) (by decide +kernel)) ggX10_isLine_X10_isIn
set_option maxRecDepth 20000 in
theorem ggX10_isLine_X10_linesOf : GoodIn wsX10_isLine wsX10_linesOf := goodIn_r _ [15] (by decide +kernel) (by decide +kernel)
set_option maxRecDepth 20000 in
theorem gX10_isLine_X10_linesOf : GoodIn wsX10_isLine (va_wsS RX10 108 yX10_linesOf wsX10_linesOf) := goodIn_app (goodIn_c chX10_isLine chX10_isLine_in _ [(0, 12), (0, 13), (0, 6)] (by rfl) (by decide +kernel)) ggX10_isLine_X10_linesOf
theorem dX10_isLine_0 : decode cX10_isLine 0 = .ok (.aload_n 0, 1) := by decide +kernel
theorem dX10_isLine_1 : decode cX10_isLine 1 = .ok (.iload_n 1, 1) := by decide +kernel
theorem dX10_isLine_2 : decode cX10_isLine 2 = .ok (.invokevirtual 96, 3) := by decide +kernel
theorem dX10_isLine_5 : decode cX10_isLine 5 = .ok (.ifCond .eq 43, 3) := by decide +kernel
theorem dX10_isLine_8 : decode cX10_isLine 8 = .ok (.iload_n 2, 1) := by decide +kernel
theorem dX10_isLine_9 : decode cX10_isLine 9 = .ok (.i2l, 1) := by decide +kernel
theorem dX10_isLine_10 : decode cX10_isLine 10 = .ok (.lconst 0, 1) := by decide +kernel
theorem dX10_isLine_11 : decode cX10_isLine 11 = .ok (.ldc2_w 116, 3) := by decide +kernel
theorem dX10_isLine_14 : decode cX10_isLine 14 = .ok (.invokestatic 85, 3) := by decide +kernel
theorem dX10_isLine_17 : decode cX10_isLine 17 = .ok (.ifCond .eq 31, 3) := by decide +kernel
theorem dX10_isLine_20 : decode cX10_isLine 20 = .ok (.iload_n 3, 1) := by decide +kernel
theorem dX10_isLine_21 : decode cX10_isLine 21 = .ok (.ifCond .lt 27, 3) := by decide +kernel
theorem dX10_isLine_24 : decode cX10_isLine 24 = .ok (.iload_n 3, 1) := by decide +kernel
theorem dX10_isLine_25 : decode cX10_isLine 25 = .ok (.aload_n 0, 1) := by decide +kernel
theorem dX10_isLine_26 : decode cX10_isLine 26 = .ok (.getfield 13, 3) := by decide +kernel
theorem dX10_isLine_29 : decode cX10_isLine 29 = .ok (.iload_n 1, 1) := by decide +kernel
theorem dX10_isLine_30 : decode cX10_isLine 30 = .ok (.iaload, 1) := by decide +kernel
theorem dX10_isLine_31 : decode cX10_isLine 31 = .ok (.aload_n 0, 1) := by decide +kernel
theorem dX10_isLine_32 : decode cX10_isLine 32 = .ok (.getfield 16, 3) := by decide +kernel
theorem dX10_isLine_35 : decode cX10_isLine 35 = .ok (.iload_n 1, 1) := by decide +kernel
theorem dX10_isLine_36 : decode cX10_isLine 36 = .ok (.iaload, 1) := by decide +kernel
theorem dX10_isLine_37 : decode cX10_isLine 37 = .ok (.iload_n 2, 1) := by decide +kernel
theorem dX10_isLine_38 : decode cX10_isLine 38 = .ok (.invokestatic 108, 3) := by decide +kernel
theorem dX10_isLine_41 : decode cX10_isLine 41 = .ok (.if_icmp .ge 7, 3) := by decide +kernel
theorem dX10_isLine_44 : decode cX10_isLine 44 = .ok (.iconst 1, 1) := by decide +kernel
theorem dX10_isLine_45 : decode cX10_isLine 45 = .ok (.goto 4, 3) := by decide +kernel
theorem dX10_isLine_48 : decode cX10_isLine 48 = .ok (.iconst 0, 1) := by decide +kernel
theorem dX10_isLine_49 : decode cX10_isLine 49 = .ok (.ireturn, 1) := by decide +kernel
theorem dX10_tell_0 : decode cX10_tell 0 = .ok (.iconst 0, 1) := by decide +kernel
theorem dX10_tell_1 : decode cX10_tell 1 = .ok (.istore_n 3, 1) := by decide +kernel
theorem dX10_tell_2 : decode cX10_tell 2 = .ok (.iload_n 3, 1) := by decide +kernel
theorem dX10_tell_3 : decode cX10_tell 3 = .ok (.bipush 11, 2) := by decide +kernel
theorem dX10_tell_5 : decode cX10_tell 5 = .ok (.if_icmp .ge 39, 3) := by decide +kernel
theorem dX10_tell_8 : decode cX10_tell 8 = .ok (.aload_n 0, 1) := by decide +kernel
theorem dX10_tell_9 : decode cX10_tell 9 = .ok (.getfield 22, 3) := by decide +kernel
theorem dX10_tell_12 : decode cX10_tell 12 = .ok (.iconst 4, 1) := by decide +kernel
theorem dX10_tell_13 : decode cX10_tell 13 = .ok (.iload_n 1, 1) := by decide +kernel
theorem dX10_tell_14 : decode cX10_tell 14 = .ok (.imul, 1) := by decide +kernel
theorem dX10_tell_15 : decode cX10_tell 15 = .ok (.iload_n 2, 1) := by decide +kernel
theorem dX10_tell_16 : decode cX10_tell 16 = .ok (.iadd, 1) := by decide +kernel
theorem dX10_tell_17 : decode cX10_tell 17 = .ok (.baload, 1) := by decide +kernel
theorem dX10_tell_18 : decode cX10_tell 18 = .ok (.ifCond .ne 26, 3) := by decide +kernel
theorem dX10_tell_21 : decode cX10_tell 21 = .ok (.aload_n 0, 1) := by decide +kernel
theorem dX10_tell_22 : decode cX10_tell 22 = .ok (.getfield 19, 3) := by decide +kernel
theorem dX10_tell_25 : decode cX10_tell 25 = .ok (.bipush 44, 2) := by decide +kernel
theorem dX10_tell_27 : decode cX10_tell 27 = .ok (.iload_n 1, 1) := by decide +kernel
theorem dX10_tell_28 : decode cX10_tell 28 = .ok (.imul, 1) := by decide +kernel
theorem dX10_tell_29 : decode cX10_tell 29 = .ok (.bipush 11, 2) := by decide +kernel
theorem dX10_tell_31 : decode cX10_tell 31 = .ok (.iload_n 2, 1) := by decide +kernel
theorem dX10_tell_32 : decode cX10_tell 32 = .ok (.imul, 1) := by decide +kernel
theorem dX10_tell_33 : decode cX10_tell 33 = .ok (.iadd, 1) := by decide +kernel
theorem dX10_tell_34 : decode cX10_tell 34 = .ok (.iload_n 3, 1) := by decide +kernel
theorem dX10_tell_35 : decode cX10_tell 35 = .ok (.iadd, 1) := by decide +kernel
theorem dX10_tell_36 : decode cX10_tell 36 = .ok (.iconst 0, 1) := by decide +kernel
theorem dX10_tell_37 : decode cX10_tell 37 = .ok (.iastore, 1) := by decide +kernel
theorem dX10_tell_38 : decode cX10_tell 38 = .ok (.iinc 3 1, 3) := by decide +kernel
theorem dX10_tell_41 : decode cX10_tell 41 = .ok (.goto (-39), 3) := by decide +kernel
theorem dX10_tell_44 : decode cX10_tell 44 = .ok (.aload_n 0, 1) := by decide +kernel
theorem dX10_tell_45 : decode cX10_tell 45 = .ok (.getfield 22, 3) := by decide +kernel
theorem dX10_tell_48 : decode cX10_tell 48 = .ok (.iconst 4, 1) := by decide +kernel
theorem dX10_tell_49 : decode cX10_tell 49 = .ok (.iload_n 1, 1) := by decide +kernel
theorem dX10_tell_50 : decode cX10_tell 50 = .ok (.imul, 1) := by decide +kernel
theorem dX10_tell_51 : decode cX10_tell 51 = .ok (.iload_n 2, 1) := by decide +kernel
theorem dX10_tell_52 : decode cX10_tell 52 = .ok (.iadd, 1) := by decide +kernel
theorem dX10_tell_53 : decode cX10_tell 53 = .ok (.iconst 1, 1) := by decide +kernel
theorem dX10_tell_54 : decode cX10_tell 54 = .ok (.bastore, 1) := by decide +kernel
theorem dX10_tell_55 : decode cX10_tell 55 = .ok (.return_, 1) := by decide +kernel
def chX10_sum : List (List Cond) := [wsX10_sum_r1, wsX10_sum_r2, wsX100]
set_option maxRecDepth 20000 in
theorem chX10_sum_in : ∀ c ∈ chX10_sum, ∀ w ∈ c, w ∈ wsX10_sum := (all_c (P := fun c => ∀ w ∈ c, w ∈ wsX10_sum) (fun w h => List.mem_cons_of_mem _ (List.mem_append_left _ (List.mem_append_left _ (h)))) (all_c (P := fun c => ∀ w ∈ c, w ∈ wsX10_sum) (fun w h => List.mem_cons_of_mem _ (List.mem_append_left _ (List.mem_append_right _ (h)))) (all_c (P := fun c => ∀ w ∈ c, w ∈ wsX10_sum) (fun w h => List.mem_cons_of_mem _ (List.mem_append_right _ (h))) (fun _ h => nomatch h))))
set_option maxRecDepth 20000 in
theorem ggX10_sum_X10_isLine : GoodIn wsX10_sum wsX10_isLine := goodIn_ca (goodIn_c chX10_sum chX10_sum_in _ [(0, 7), (0, 8), (0, 9), (0, 10), (0, 11), (0, 12), (0, 13), (0, 6), (0, 14), (0, 15), (0, 16), (0, 17), (0, 18), (0, 19), (0, 20), (0, 21)] (by rfl) (by decide +kernel)) (goodIn_sub (fun _ h => List.mem_cons_of_mem _ (List.mem_append_right _ (h))) (by decide +kernel))
set_option maxRecDepth 20000 in
theorem gX10_sum_X10_isLine : GoodIn wsX10_sum (wsV RX10 118 RX10 yX10_isLine wsX10_isLine) := goodIn_app (goodIn_c chX10_sum chX10_sum_in _ [(0, 3), (0, 4), (0, 5), (0, 6)] (by rfl) (by decide +kernel)) ggX10_sum_X10_isLine
set_option maxRecDepth 20000 in
theorem ggX10_sum_X10_isIn : GoodIn wsX10_sum wsX10_isIn := goodIn_r _ [19] (by decide +kernel) (by decide +kernel)
set_option maxRecDepth 20000 in
theorem gX10_sum_X10_isIn : GoodIn wsX10_sum (va_wsS RX10 85 yX10_isIn wsX10_isIn) := goodIn_app (goodIn_c chX10_sum chX10_sum_in _ [(0, 16), (0, 17), (0, 6)] (by rfl) (by decide +kernel)) ggX10_sum_X10_isIn
set_option maxRecDepth 20000 in
theorem ggX10_sum_X10_tell : GoodIn wsX10_sum wsX10_tell := goodIn_ca (goodIn_c chX10_sum chX10_sum_in _ [(1, 1), (1, 2), (0, 2)] (by rfl) (by decide +kernel)) (goodIn_sub (fun _ h => List.mem_cons_of_mem _ (List.mem_append_right _ (h))) (by decide +kernel))
set_option maxRecDepth 20000 in
theorem gX10_sum_X10_tell : GoodIn wsX10_sum (wsV RX10 122 RX10 yX10_tell wsX10_tell) := goodIn_app (goodIn_c chX10_sum chX10_sum_in _ [(0, 22), (0, 23), (1, 0), (0, 6)] (by rfl) (by decide +kernel)) ggX10_sum_X10_tell
theorem dX10_sum_0 : decode cX10_sum 0 = .ok (.aload_n 0, 1) := by decide +kernel
theorem dX10_sum_1 : decode cX10_sum 1 = .ok (.iconst 0, 1) := by decide +kernel
theorem dX10_sum_2 : decode cX10_sum 2 = .ok (.putfield 79, 3) := by decide +kernel
theorem dX10_sum_5 : decode cX10_sum 5 = .ok (.aload_n 0, 1) := by decide +kernel
theorem dX10_sum_6 : decode cX10_sum 6 = .ok (.iload_n 1, 1) := by decide +kernel
theorem dX10_sum_7 : decode cX10_sum 7 = .ok (.iload_n 2, 1) := by decide +kernel
theorem dX10_sum_8 : decode cX10_sum 8 = .ok (.iload_n 3, 1) := by decide +kernel
theorem dX10_sum_9 : decode cX10_sum 9 = .ok (.invokevirtual 118, 3) := by decide +kernel
theorem dX10_sum_12 : decode cX10_sum 12 = .ok (.ifCond .eq 16, 3) := by decide +kernel
theorem dX10_sum_15 : decode cX10_sum 15 = .ok (.iload 4, 2) := by decide +kernel
theorem dX10_sum_17 : decode cX10_sum 17 = .ok (.i2l, 1) := by decide +kernel
theorem dX10_sum_18 : decode cX10_sum 18 = .ok (.lconst 0, 1) := by decide +kernel
theorem dX10_sum_19 : decode cX10_sum 19 = .ok (.ldc2_w 83, 3) := by decide +kernel
theorem dX10_sum_22 : decode cX10_sum 22 = .ok (.invokestatic 85, 3) := by decide +kernel
theorem dX10_sum_25 : decode cX10_sum 25 = .ok (.ifCond .ne 5, 3) := by decide +kernel
theorem dX10_sum_28 : decode cX10_sum 28 = .ok (.iconst (-1), 1) := by decide +kernel
theorem dX10_sum_29 : decode cX10_sum 29 = .ok (.ireturn, 1) := by decide +kernel
theorem dX10_sum_30 : decode cX10_sum 30 = .ok (.aload_n 0, 1) := by decide +kernel
theorem dX10_sum_31 : decode cX10_sum 31 = .ok (.iload_n 1, 1) := by decide +kernel
theorem dX10_sum_32 : decode cX10_sum 32 = .ok (.iload_n 2, 1) := by decide +kernel
theorem dX10_sum_33 : decode cX10_sum 33 = .ok (.invokevirtual 122, 3) := by decide +kernel
theorem dX10_sum_36 : decode cX10_sum 36 = .ok (.aload_n 0, 1) := by decide +kernel
theorem dX10_sum_37 : decode cX10_sum 37 = .ok (.getfield 19, 3) := by decide +kernel
theorem dX10_sum_40 : decode cX10_sum 40 = .ok (.bipush 44, 2) := by decide +kernel
theorem dX10_sum_42 : decode cX10_sum 42 = .ok (.iload_n 1, 1) := by decide +kernel
theorem dX10_sum_43 : decode cX10_sum 43 = .ok (.imul, 1) := by decide +kernel
theorem dX10_sum_44 : decode cX10_sum 44 = .ok (.bipush 11, 2) := by decide +kernel
theorem dX10_sum_46 : decode cX10_sum 46 = .ok (.iload_n 2, 1) := by decide +kernel
theorem dX10_sum_47 : decode cX10_sum 47 = .ok (.imul, 1) := by decide +kernel
theorem dX10_sum_48 : decode cX10_sum 48 = .ok (.iadd, 1) := by decide +kernel
theorem dX10_sum_49 : decode cX10_sum 49 = .ok (.iload_n 3, 1) := by decide +kernel
theorem dX10_sum_50 : decode cX10_sum 50 = .ok (.iadd, 1) := by decide +kernel
theorem dX10_sum_51 : decode cX10_sum 51 = .ok (.iload 4, 2) := by decide +kernel
theorem dX10_sum_53 : decode cX10_sum 53 = .ok (.iastore, 1) := by decide +kernel
theorem dX10_sum_54 : decode cX10_sum 54 = .ok (.iconst 0, 1) := by decide +kernel
theorem dX10_sum_55 : decode cX10_sum 55 = .ok (.ireturn, 1) := by decide +kernel
def chX10_untell : List (List Cond) := [[.fieldLink RX10 79 "ShadowBenchModel" "thrown" "I", .constantLong RX10 134 (2), .constantLong RX10 116 (3), .fieldLink RX10 22 "ShadowBenchModel" "isTold" "[Z", .methodLink RX10 96 yX10_isJob, .instanceMethod yX10_isJob, .selects RX10 yX10_isJob yX10_isJob, .initialized RX10, .code yX10_isJob cX10_isJob 2 (some .boolean), .fieldLink RX10 93 "ShadowBenchModel" "jobs" "I", .methodLink RX10 85 yX10_isIn, .static yX10_isIn, .code yX10_isIn cX10_isIn 6 (some .boolean)], wsX100]
set_option maxRecDepth 20000 in
theorem chX10_untell_in : ∀ c ∈ chX10_untell, ∀ w ∈ c, w ∈ wsX10_untell := (all_c (P := fun c => ∀ w ∈ c, w ∈ wsX10_untell) (fun w h => List.mem_cons_of_mem _ (List.mem_append_left _ (h))) (all_c (P := fun c => ∀ w ∈ c, w ∈ wsX10_untell) (fun w h => List.mem_cons_of_mem _ (List.mem_append_right _ (h))) (fun _ h => nomatch h)))
set_option maxRecDepth 20000 in
theorem ggX10_untell_X10_isJob : GoodIn wsX10_untell wsX10_isJob := goodIn_ca (goodIn_c chX10_untell chX10_untell_in _ [(0, 8), (0, 9)] (by rfl) (by decide +kernel)) (goodIn_sub (fun _ h => List.mem_cons_of_mem _ (List.mem_append_right _ (h))) (by decide +kernel))
set_option maxRecDepth 20000 in
theorem gX10_untell_X10_isJob : GoodIn wsX10_untell (wsV RX10 96 RX10 yX10_isJob wsX10_isJob) := goodIn_app (goodIn_c chX10_untell chX10_untell_in _ [(0, 4), (0, 5), (0, 6), (0, 7)] (by rfl) (by decide +kernel)) ggX10_untell_X10_isJob
set_option maxRecDepth 20000 in
theorem ggX10_untell_X10_isIn : GoodIn wsX10_untell wsX10_isIn := goodIn_r _ [13] (by decide +kernel) (by decide +kernel)
set_option maxRecDepth 20000 in
theorem gX10_untell_X10_isIn : GoodIn wsX10_untell (va_wsS RX10 85 yX10_isIn wsX10_isIn) := goodIn_app (goodIn_c chX10_untell chX10_untell_in _ [(0, 10), (0, 11), (0, 7)] (by rfl) (by decide +kernel)) ggX10_untell_X10_isIn
theorem dX10_untell_0 : decode cX10_untell 0 = .ok (.aload_n 0, 1) := by decide +kernel
theorem dX10_untell_1 : decode cX10_untell 1 = .ok (.iconst 0, 1) := by decide +kernel
theorem dX10_untell_2 : decode cX10_untell 2 = .ok (.putfield 79, 3) := by decide +kernel
theorem dX10_untell_5 : decode cX10_untell 5 = .ok (.aload_n 0, 1) := by decide +kernel
theorem dX10_untell_6 : decode cX10_untell 6 = .ok (.iload_n 1, 1) := by decide +kernel
theorem dX10_untell_7 : decode cX10_untell 7 = .ok (.invokevirtual 96, 3) := by decide +kernel
theorem dX10_untell_10 : decode cX10_untell 10 = .ok (.ifCond .eq 17, 3) := by decide +kernel
theorem dX10_untell_13 : decode cX10_untell 13 = .ok (.iload_n 2, 1) := by decide +kernel
theorem dX10_untell_14 : decode cX10_untell 14 = .ok (.i2l, 1) := by decide +kernel
theorem dX10_untell_15 : decode cX10_untell 15 = .ok (.ldc2_w 134, 3) := by decide +kernel
theorem dX10_untell_18 : decode cX10_untell 18 = .ok (.ldc2_w 116, 3) := by decide +kernel
theorem dX10_untell_21 : decode cX10_untell 21 = .ok (.invokestatic 85, 3) := by decide +kernel
theorem dX10_untell_24 : decode cX10_untell 24 = .ok (.ifCond .ne 5, 3) := by decide +kernel
theorem dX10_untell_27 : decode cX10_untell 27 = .ok (.iconst (-1), 1) := by decide +kernel
theorem dX10_untell_28 : decode cX10_untell 28 = .ok (.ireturn, 1) := by decide +kernel
theorem dX10_untell_29 : decode cX10_untell 29 = .ok (.aload_n 0, 1) := by decide +kernel
theorem dX10_untell_30 : decode cX10_untell 30 = .ok (.getfield 22, 3) := by decide +kernel
theorem dX10_untell_33 : decode cX10_untell 33 = .ok (.iconst 4, 1) := by decide +kernel
theorem dX10_untell_34 : decode cX10_untell 34 = .ok (.iload_n 1, 1) := by decide +kernel
theorem dX10_untell_35 : decode cX10_untell 35 = .ok (.imul, 1) := by decide +kernel
theorem dX10_untell_36 : decode cX10_untell 36 = .ok (.iload_n 2, 1) := by decide +kernel
theorem dX10_untell_37 : decode cX10_untell 37 = .ok (.iadd, 1) := by decide +kernel
theorem dX10_untell_38 : decode cX10_untell 38 = .ok (.baload, 1) := by decide +kernel
theorem dX10_untell_39 : decode cX10_untell 39 = .ok (.istore_n 3, 1) := by decide +kernel
theorem dX10_untell_40 : decode cX10_untell 40 = .ok (.aload_n 0, 1) := by decide +kernel
theorem dX10_untell_41 : decode cX10_untell 41 = .ok (.getfield 22, 3) := by decide +kernel
theorem dX10_untell_44 : decode cX10_untell 44 = .ok (.iconst 4, 1) := by decide +kernel
theorem dX10_untell_45 : decode cX10_untell 45 = .ok (.iload_n 1, 1) := by decide +kernel
theorem dX10_untell_46 : decode cX10_untell 46 = .ok (.imul, 1) := by decide +kernel
theorem dX10_untell_47 : decode cX10_untell 47 = .ok (.iload_n 2, 1) := by decide +kernel
theorem dX10_untell_48 : decode cX10_untell 48 = .ok (.iadd, 1) := by decide +kernel
theorem dX10_untell_49 : decode cX10_untell 49 = .ok (.iconst 0, 1) := by decide +kernel
theorem dX10_untell_50 : decode cX10_untell 50 = .ok (.bastore, 1) := by decide +kernel
theorem dX10_untell_51 : decode cX10_untell 51 = .ok (.iload_n 3, 1) := by decide +kernel
theorem dX10_untell_52 : decode cX10_untell 52 = .ok (.ifCond .eq 7, 3) := by decide +kernel
theorem dX10_untell_55 : decode cX10_untell 55 = .ok (.iconst 1, 1) := by decide +kernel
theorem dX10_untell_56 : decode cX10_untell 56 = .ok (.goto 4, 3) := by decide +kernel
theorem dX10_untell_59 : decode cX10_untell 59 = .ok (.iconst 0, 1) := by decide +kernel
theorem dX10_untell_60 : decode cX10_untell 60 = .ok (.ireturn, 1) := by decide +kernel
def chX10_hold : List (List Cond) := [[.fieldLink RX10 79 "ShadowBenchModel" "thrown" "I", .constantLong RX10 134 (2), .fieldLink RX10 26 "ShadowBenchModel" "held" "[I", .methodLink RX10 136 yX10_isSquare, .instanceMethod yX10_isSquare, .selects RX10 yX10_isSquare yX10_isSquare, .initialized RX10, .code yX10_isSquare cX10_isSquare 3 (some .boolean), .fieldLink RX10 13 "ShadowBenchModel" "wide" "[I", .fieldLink RX10 16 "ShadowBenchModel" "high" "[I", .methodLink RX10 96 yX10_isJob, .instanceMethod yX10_isJob, .selects RX10 yX10_isJob yX10_isJob, .code yX10_isJob cX10_isJob 2 (some .boolean), .fieldLink RX10 93 "ShadowBenchModel" "jobs" "I", .methodLink RX10 85 yX10_isIn, .static yX10_isIn, .code yX10_isIn cX10_isIn 6 (some .boolean)], wsX100]
set_option maxRecDepth 20000 in
theorem chX10_hold_in : ∀ c ∈ chX10_hold, ∀ w ∈ c, w ∈ wsX10_hold := (all_c (P := fun c => ∀ w ∈ c, w ∈ wsX10_hold) (fun w h => List.mem_cons_of_mem _ (List.mem_append_left _ (h))) (all_c (P := fun c => ∀ w ∈ c, w ∈ wsX10_hold) (fun w h => List.mem_cons_of_mem _ (List.mem_append_right _ (h))) (fun _ h => nomatch h)))
set_option maxRecDepth 20000 in
theorem ggX10_hold_X10_isSquare : GoodIn wsX10_hold wsX10_isSquare := goodIn_ca (goodIn_c chX10_hold chX10_hold_in _ [(0, 7), (0, 8), (0, 9), (0, 10), (0, 11), (0, 12), (0, 6), (0, 13), (0, 14)] (by rfl) (by decide +kernel)) (goodIn_sub (fun _ h => List.mem_cons_of_mem _ (List.mem_append_right _ (h))) (by decide +kernel))
set_option maxRecDepth 20000 in
theorem gX10_hold_X10_isSquare : GoodIn wsX10_hold (wsV RX10 136 RX10 yX10_isSquare wsX10_isSquare) := goodIn_app (goodIn_c chX10_hold chX10_hold_in _ [(0, 3), (0, 4), (0, 5), (0, 6)] (by rfl) (by decide +kernel)) ggX10_hold_X10_isSquare
set_option maxRecDepth 20000 in
theorem ggX10_hold_X10_isIn : GoodIn wsX10_hold wsX10_isIn := goodIn_r _ [18] (by decide +kernel) (by decide +kernel)
set_option maxRecDepth 20000 in
theorem gX10_hold_X10_isIn : GoodIn wsX10_hold (va_wsS RX10 85 yX10_isIn wsX10_isIn) := goodIn_app (goodIn_c chX10_hold chX10_hold_in _ [(0, 15), (0, 16), (0, 6)] (by rfl) (by decide +kernel)) ggX10_hold_X10_isIn
theorem dX10_hold_0 : decode cX10_hold 0 = .ok (.aload_n 0, 1) := by decide +kernel
theorem dX10_hold_1 : decode cX10_hold 1 = .ok (.iconst 0, 1) := by decide +kernel
theorem dX10_hold_2 : decode cX10_hold 2 = .ok (.putfield 79, 3) := by decide +kernel
theorem dX10_hold_5 : decode cX10_hold 5 = .ok (.aload_n 0, 1) := by decide +kernel
theorem dX10_hold_6 : decode cX10_hold 6 = .ok (.iload_n 1, 1) := by decide +kernel
theorem dX10_hold_7 : decode cX10_hold 7 = .ok (.iload_n 2, 1) := by decide +kernel
theorem dX10_hold_8 : decode cX10_hold 8 = .ok (.invokevirtual 136, 3) := by decide +kernel
theorem dX10_hold_11 : decode cX10_hold 11 = .ok (.ifCond .eq 15, 3) := by decide +kernel
theorem dX10_hold_14 : decode cX10_hold 14 = .ok (.iload_n 3, 1) := by decide +kernel
theorem dX10_hold_15 : decode cX10_hold 15 = .ok (.i2l, 1) := by decide +kernel
theorem dX10_hold_16 : decode cX10_hold 16 = .ok (.lconst 0, 1) := by decide +kernel
theorem dX10_hold_17 : decode cX10_hold 17 = .ok (.ldc2_w 134, 3) := by decide +kernel
theorem dX10_hold_20 : decode cX10_hold 20 = .ok (.invokestatic 85, 3) := by decide +kernel
theorem dX10_hold_23 : decode cX10_hold 23 = .ok (.ifCond .ne 5, 3) := by decide +kernel
theorem dX10_hold_26 : decode cX10_hold 26 = .ok (.iconst (-1), 1) := by decide +kernel
theorem dX10_hold_27 : decode cX10_hold 27 = .ok (.ireturn, 1) := by decide +kernel
theorem dX10_hold_28 : decode cX10_hold 28 = .ok (.aload_n 0, 1) := by decide +kernel
theorem dX10_hold_29 : decode cX10_hold 29 = .ok (.getfield 26, 3) := by decide +kernel
theorem dX10_hold_32 : decode cX10_hold 32 = .ok (.bipush 36, 2) := by decide +kernel
theorem dX10_hold_34 : decode cX10_hold 34 = .ok (.iload_n 1, 1) := by decide +kernel
theorem dX10_hold_35 : decode cX10_hold 35 = .ok (.imul, 1) := by decide +kernel
theorem dX10_hold_36 : decode cX10_hold 36 = .ok (.iload_n 2, 1) := by decide +kernel
theorem dX10_hold_37 : decode cX10_hold 37 = .ok (.iadd, 1) := by decide +kernel
theorem dX10_hold_38 : decode cX10_hold 38 = .ok (.iaload, 1) := by decide +kernel
theorem dX10_hold_39 : decode cX10_hold 39 = .ok (.istore 4, 2) := by decide +kernel
theorem dX10_hold_41 : decode cX10_hold 41 = .ok (.aload_n 0, 1) := by decide +kernel
theorem dX10_hold_42 : decode cX10_hold 42 = .ok (.getfield 26, 3) := by decide +kernel
theorem dX10_hold_45 : decode cX10_hold 45 = .ok (.bipush 36, 2) := by decide +kernel
theorem dX10_hold_47 : decode cX10_hold 47 = .ok (.iload_n 1, 1) := by decide +kernel
theorem dX10_hold_48 : decode cX10_hold 48 = .ok (.imul, 1) := by decide +kernel
theorem dX10_hold_49 : decode cX10_hold 49 = .ok (.iload_n 2, 1) := by decide +kernel
theorem dX10_hold_50 : decode cX10_hold 50 = .ok (.iadd, 1) := by decide +kernel
theorem dX10_hold_51 : decode cX10_hold 51 = .ok (.iload_n 3, 1) := by decide +kernel
theorem dX10_hold_52 : decode cX10_hold 52 = .ok (.iastore, 1) := by decide +kernel
theorem dX10_hold_53 : decode cX10_hold 53 = .ok (.iload 4, 2) := by decide +kernel
theorem dX10_hold_55 : decode cX10_hold 55 = .ok (.ireturn, 1) := by decide +kernel
def chX10_mark : List (List Cond) := [[.fieldLink RX10 79 "ShadowBenchModel" "thrown" "I", .constantLong RX10 139 (-99), .constantLong RX10 141 (99), .fieldLink RX10 7 "ShadowBenchModel" "kind" "[I", .fieldLink RX10 29 "ShadowBenchModel" "weight" "[I", .methodLink RX10 136 yX10_isSquare, .instanceMethod yX10_isSquare, .selects RX10 yX10_isSquare yX10_isSquare, .initialized RX10, .code yX10_isSquare cX10_isSquare 3 (some .boolean), .fieldLink RX10 13 "ShadowBenchModel" "wide" "[I", .fieldLink RX10 16 "ShadowBenchModel" "high" "[I", .methodLink RX10 96 yX10_isJob, .instanceMethod yX10_isJob, .selects RX10 yX10_isJob yX10_isJob, .code yX10_isJob cX10_isJob 2 (some .boolean), .fieldLink RX10 93 "ShadowBenchModel" "jobs" "I", .methodLink RX10 85 yX10_isIn, .static yX10_isIn, .code yX10_isIn cX10_isIn 6 (some .boolean)], wsX100]
set_option maxRecDepth 20000 in
theorem chX10_mark_in : ∀ c ∈ chX10_mark, ∀ w ∈ c, w ∈ wsX10_mark := (all_c (P := fun c => ∀ w ∈ c, w ∈ wsX10_mark) (fun w h => List.mem_cons_of_mem _ (List.mem_append_left _ (h))) (all_c (P := fun c => ∀ w ∈ c, w ∈ wsX10_mark) (fun w h => List.mem_cons_of_mem _ (List.mem_append_right _ (h))) (fun _ h => nomatch h)))
set_option maxRecDepth 20000 in
theorem ggX10_mark_X10_isSquare : GoodIn wsX10_mark wsX10_isSquare := goodIn_ca (goodIn_c chX10_mark chX10_mark_in _ [(0, 9), (0, 10), (0, 11), (0, 12), (0, 13), (0, 14), (0, 8), (0, 15), (0, 16)] (by rfl) (by decide +kernel)) (goodIn_sub (fun _ h => List.mem_cons_of_mem _ (List.mem_append_right _ (h))) (by decide +kernel))
set_option maxRecDepth 20000 in
theorem gX10_mark_X10_isSquare : GoodIn wsX10_mark (wsV RX10 136 RX10 yX10_isSquare wsX10_isSquare) := goodIn_app (goodIn_c chX10_mark chX10_mark_in _ [(0, 5), (0, 6), (0, 7), (0, 8)] (by rfl) (by decide +kernel)) ggX10_mark_X10_isSquare
set_option maxRecDepth 20000 in
theorem ggX10_mark_X10_isIn : GoodIn wsX10_mark wsX10_isIn := goodIn_r _ [20] (by decide +kernel) (by decide +kernel)
set_option maxRecDepth 20000 in
theorem gX10_mark_X10_isIn : GoodIn wsX10_mark (va_wsS RX10 85 yX10_isIn wsX10_isIn) := goodIn_app (goodIn_c chX10_mark chX10_mark_in _ [(0, 17), (0, 18), (0, 8)] (by rfl) (by decide +kernel)) ggX10_mark_X10_isIn
theorem dX10_mark_0 : decode cX10_mark 0 = .ok (.aload_n 0, 1) := by decide +kernel
theorem dX10_mark_1 : decode cX10_mark 1 = .ok (.iconst 0, 1) := by decide +kernel
theorem dX10_mark_2 : decode cX10_mark 2 = .ok (.putfield 79, 3) := by decide +kernel
theorem dX10_mark_5 : decode cX10_mark 5 = .ok (.aload_n 0, 1) := by decide +kernel
theorem dX10_mark_6 : decode cX10_mark 6 = .ok (.iload_n 1, 1) := by decide +kernel
theorem dX10_mark_7 : decode cX10_mark 7 = .ok (.iload_n 2, 1) := by decide +kernel
theorem dX10_mark_8 : decode cX10_mark 8 = .ok (.invokevirtual 136, 3) := by decide +kernel
theorem dX10_mark_11 : decode cX10_mark 11 = .ok (.ifCond .eq 17, 3) := by decide +kernel
theorem dX10_mark_14 : decode cX10_mark 14 = .ok (.iload_n 3, 1) := by decide +kernel
theorem dX10_mark_15 : decode cX10_mark 15 = .ok (.i2l, 1) := by decide +kernel
theorem dX10_mark_16 : decode cX10_mark 16 = .ok (.ldc2_w 139, 3) := by decide +kernel
theorem dX10_mark_19 : decode cX10_mark 19 = .ok (.ldc2_w 141, 3) := by decide +kernel
theorem dX10_mark_22 : decode cX10_mark 22 = .ok (.invokestatic 85, 3) := by decide +kernel
theorem dX10_mark_25 : decode cX10_mark 25 = .ok (.ifCond .ne 5, 3) := by decide +kernel
theorem dX10_mark_28 : decode cX10_mark 28 = .ok (.iconst (-1), 1) := by decide +kernel
theorem dX10_mark_29 : decode cX10_mark 29 = .ok (.ireturn, 1) := by decide +kernel
theorem dX10_mark_30 : decode cX10_mark 30 = .ok (.aload_n 0, 1) := by decide +kernel
theorem dX10_mark_31 : decode cX10_mark 31 = .ok (.getfield 7, 3) := by decide +kernel
theorem dX10_mark_34 : decode cX10_mark 34 = .ok (.iload_n 1, 1) := by decide +kernel
theorem dX10_mark_35 : decode cX10_mark 35 = .ok (.iaload, 1) := by decide +kernel
theorem dX10_mark_36 : decode cX10_mark 36 = .ok (.iconst 3, 1) := by decide +kernel
theorem dX10_mark_37 : decode cX10_mark 37 = .ok (.if_icmp .eq 6, 3) := by decide +kernel
theorem dX10_mark_40 : decode cX10_mark 40 = .ok (.bipush (-4), 2) := by decide +kernel
theorem dX10_mark_42 : decode cX10_mark 42 = .ok (.ireturn, 1) := by decide +kernel
theorem dX10_mark_43 : decode cX10_mark 43 = .ok (.aload_n 0, 1) := by decide +kernel
theorem dX10_mark_44 : decode cX10_mark 44 = .ok (.getfield 29, 3) := by decide +kernel
theorem dX10_mark_47 : decode cX10_mark 47 = .ok (.bipush 36, 2) := by decide +kernel
theorem dX10_mark_49 : decode cX10_mark 49 = .ok (.iload_n 1, 1) := by decide +kernel
theorem dX10_mark_50 : decode cX10_mark 50 = .ok (.imul, 1) := by decide +kernel
theorem dX10_mark_51 : decode cX10_mark 51 = .ok (.iload_n 2, 1) := by decide +kernel
theorem dX10_mark_52 : decode cX10_mark 52 = .ok (.iadd, 1) := by decide +kernel
theorem dX10_mark_53 : decode cX10_mark 53 = .ok (.iaload, 1) := by decide +kernel
theorem dX10_mark_54 : decode cX10_mark 54 = .ok (.iload_n 3, 1) := by decide +kernel
theorem dX10_mark_55 : decode cX10_mark 55 = .ok (.if_icmp .eq 7, 3) := by decide +kernel
theorem dX10_mark_58 : decode cX10_mark 58 = .ok (.iconst 1, 1) := by decide +kernel
theorem dX10_mark_59 : decode cX10_mark 59 = .ok (.goto 4, 3) := by decide +kernel
theorem dX10_mark_62 : decode cX10_mark 62 = .ok (.iconst 0, 1) := by decide +kernel
theorem dX10_mark_63 : decode cX10_mark 63 = .ok (.istore 4, 2) := by decide +kernel
theorem dX10_mark_65 : decode cX10_mark 65 = .ok (.aload_n 0, 1) := by decide +kernel
theorem dX10_mark_66 : decode cX10_mark 66 = .ok (.getfield 29, 3) := by decide +kernel
theorem dX10_mark_69 : decode cX10_mark 69 = .ok (.bipush 36, 2) := by decide +kernel
theorem dX10_mark_71 : decode cX10_mark 71 = .ok (.iload_n 1, 1) := by decide +kernel
theorem dX10_mark_72 : decode cX10_mark 72 = .ok (.imul, 1) := by decide +kernel
theorem dX10_mark_73 : decode cX10_mark 73 = .ok (.iload_n 2, 1) := by decide +kernel
theorem dX10_mark_74 : decode cX10_mark 74 = .ok (.iadd, 1) := by decide +kernel
theorem dX10_mark_75 : decode cX10_mark 75 = .ok (.iload_n 3, 1) := by decide +kernel
theorem dX10_mark_76 : decode cX10_mark 76 = .ok (.iastore, 1) := by decide +kernel
theorem dX10_mark_77 : decode cX10_mark 77 = .ok (.iload 4, 2) := by decide +kernel
theorem dX10_mark_79 : decode cX10_mark 79 = .ok (.ifCond .eq 7, 3) := by decide +kernel
theorem dX10_mark_82 : decode cX10_mark 82 = .ok (.iconst 1, 1) := by decide +kernel
theorem dX10_mark_83 : decode cX10_mark 83 = .ok (.goto 4, 3) := by decide +kernel
theorem dX10_mark_86 : decode cX10_mark 86 = .ok (.iconst 0, 1) := by decide +kernel
theorem dX10_mark_87 : decode cX10_mark 87 = .ok (.ireturn, 1) := by decide +kernel
def chX10_told : List (List Cond) := [[.fieldLink RX10 79 "ShadowBenchModel" "thrown" "I", .fieldLink RX10 13 "ShadowBenchModel" "wide" "[I", .fieldLink RX10 16 "ShadowBenchModel" "high" "[I", .fieldLink RX10 22 "ShadowBenchModel" "isTold" "[Z", .fieldLink RX10 19 "ShadowBenchModel" "sums" "[I", .methodLink RX10 118 yX10_isLine, .instanceMethod yX10_isLine, .selects RX10 yX10_isLine yX10_isLine, .initialized RX10, .code yX10_isLine cX10_isLine 4 (some .boolean), .constantLong RX10 116 (3), .methodLink RX10 96 yX10_isJob, .instanceMethod yX10_isJob, .selects RX10 yX10_isJob yX10_isJob, .code yX10_isJob cX10_isJob 2 (some .boolean), .fieldLink RX10 93 "ShadowBenchModel" "jobs" "I", .methodLink RX10 85 yX10_isIn, .static yX10_isIn, .code yX10_isIn cX10_isIn 6 (some .boolean), .methodLink RX10 108 yX10_linesOf, .static yX10_linesOf, .code yX10_linesOf cX10_linesOf 3 (some .int)], wsX100]
set_option maxRecDepth 20000 in
theorem chX10_told_in : ∀ c ∈ chX10_told, ∀ w ∈ c, w ∈ wsX10_told := (all_c (P := fun c => ∀ w ∈ c, w ∈ wsX10_told) (fun w h => List.mem_cons_of_mem _ (List.mem_append_left _ (h))) (all_c (P := fun c => ∀ w ∈ c, w ∈ wsX10_told) (fun w h => List.mem_cons_of_mem _ (List.mem_append_right _ (h))) (fun _ h => nomatch h)))
set_option maxRecDepth 20000 in
theorem ggX10_told_X10_isLine : GoodIn wsX10_told wsX10_isLine := goodIn_ca (goodIn_c chX10_told chX10_told_in _ [(0, 9), (0, 10), (0, 1), (0, 2), (0, 11), (0, 12), (0, 13), (0, 8), (0, 14), (0, 15), (0, 16), (0, 17), (0, 18), (0, 19), (0, 20), (0, 21)] (by rfl) (by decide +kernel)) (goodIn_sub (fun _ h => List.mem_cons_of_mem _ (List.mem_append_right _ (h))) (by decide +kernel))
set_option maxRecDepth 20000 in
theorem gX10_told_X10_isLine : GoodIn wsX10_told (wsV RX10 118 RX10 yX10_isLine wsX10_isLine) := goodIn_app (goodIn_c chX10_told chX10_told_in _ [(0, 5), (0, 6), (0, 7), (0, 8)] (by rfl) (by decide +kernel)) ggX10_told_X10_isLine
set_option maxRecDepth 20000 in
theorem ggX10_told_X10_linesOf : GoodIn wsX10_told wsX10_linesOf := goodIn_r _ [22] (by decide +kernel) (by decide +kernel)
set_option maxRecDepth 20000 in
theorem gX10_told_X10_linesOf : GoodIn wsX10_told (va_wsS RX10 108 yX10_linesOf wsX10_linesOf) := goodIn_app (goodIn_c chX10_told chX10_told_in _ [(0, 19), (0, 20), (0, 8)] (by rfl) (by decide +kernel)) ggX10_told_X10_linesOf
theorem dX10_told_0 : decode cX10_told 0 = .ok (.aload_n 0, 1) := by decide +kernel
theorem dX10_told_1 : decode cX10_told 1 = .ok (.iconst 0, 1) := by decide +kernel
theorem dX10_told_2 : decode cX10_told 2 = .ok (.putfield 79, 3) := by decide +kernel
theorem dX10_told_5 : decode cX10_told 5 = .ok (.aload_n 0, 1) := by decide +kernel
theorem dX10_told_6 : decode cX10_told 6 = .ok (.iload_n 1, 1) := by decide +kernel
theorem dX10_told_7 : decode cX10_told 7 = .ok (.iload_n 2, 1) := by decide +kernel
theorem dX10_told_8 : decode cX10_told 8 = .ok (.iload_n 3, 1) := by decide +kernel
theorem dX10_told_9 : decode cX10_told 9 = .ok (.iconst (-1), 1) := by decide +kernel
theorem dX10_told_10 : decode cX10_told 10 = .ok (.if_icmp .ne 7, 3) := by decide +kernel
theorem dX10_told_13 : decode cX10_told 13 = .ok (.iconst 0, 1) := by decide +kernel
theorem dX10_told_14 : decode cX10_told 14 = .ok (.goto 4, 3) := by decide +kernel
theorem dX10_told_17 : decode cX10_told 17 = .ok (.iload_n 3, 1) := by decide +kernel
theorem dX10_told_18 : decode cX10_told 18 = .ok (.invokevirtual 118, 3) := by decide +kernel
theorem dX10_told_21 : decode cX10_told 21 = .ok (.ifCond .ne 5, 3) := by decide +kernel
theorem dX10_told_24 : decode cX10_told 24 = .ok (.iconst (-1), 1) := by decide +kernel
theorem dX10_told_25 : decode cX10_told 25 = .ok (.ireturn, 1) := by decide +kernel
theorem dX10_told_26 : decode cX10_told 26 = .ok (.iload_n 3, 1) := by decide +kernel
theorem dX10_told_27 : decode cX10_told 27 = .ok (.iconst (-1), 1) := by decide +kernel
theorem dX10_told_28 : decode cX10_told 28 = .ok (.if_icmp .ne 20, 3) := by decide +kernel
theorem dX10_told_31 : decode cX10_told 31 = .ok (.aload_n 0, 1) := by decide +kernel
theorem dX10_told_32 : decode cX10_told 32 = .ok (.getfield 13, 3) := by decide +kernel
theorem dX10_told_35 : decode cX10_told 35 = .ok (.iload_n 1, 1) := by decide +kernel
theorem dX10_told_36 : decode cX10_told 36 = .ok (.iaload, 1) := by decide +kernel
theorem dX10_told_37 : decode cX10_told 37 = .ok (.aload_n 0, 1) := by decide +kernel
theorem dX10_told_38 : decode cX10_told 38 = .ok (.getfield 16, 3) := by decide +kernel
theorem dX10_told_41 : decode cX10_told 41 = .ok (.iload_n 1, 1) := by decide +kernel
theorem dX10_told_42 : decode cX10_told 42 = .ok (.iaload, 1) := by decide +kernel
theorem dX10_told_43 : decode cX10_told 43 = .ok (.iload_n 2, 1) := by decide +kernel
theorem dX10_told_44 : decode cX10_told 44 = .ok (.invokestatic 108, 3) := by decide +kernel
theorem dX10_told_47 : decode cX10_told 47 = .ok (.ireturn, 1) := by decide +kernel
theorem dX10_told_48 : decode cX10_told 48 = .ok (.aload_n 0, 1) := by decide +kernel
theorem dX10_told_49 : decode cX10_told 49 = .ok (.getfield 22, 3) := by decide +kernel
theorem dX10_told_52 : decode cX10_told 52 = .ok (.iconst 4, 1) := by decide +kernel
theorem dX10_told_53 : decode cX10_told 53 = .ok (.iload_n 1, 1) := by decide +kernel
theorem dX10_told_54 : decode cX10_told 54 = .ok (.imul, 1) := by decide +kernel
theorem dX10_told_55 : decode cX10_told 55 = .ok (.iload_n 2, 1) := by decide +kernel
theorem dX10_told_56 : decode cX10_told 56 = .ok (.iadd, 1) := by decide +kernel
theorem dX10_told_57 : decode cX10_told 57 = .ok (.baload, 1) := by decide +kernel
theorem dX10_told_58 : decode cX10_told 58 = .ok (.ifCond .eq 22, 3) := by decide +kernel
theorem dX10_told_61 : decode cX10_told 61 = .ok (.aload_n 0, 1) := by decide +kernel
theorem dX10_told_62 : decode cX10_told 62 = .ok (.getfield 19, 3) := by decide +kernel
theorem dX10_told_65 : decode cX10_told 65 = .ok (.bipush 44, 2) := by decide +kernel
theorem dX10_told_67 : decode cX10_told 67 = .ok (.iload_n 1, 1) := by decide +kernel
theorem dX10_told_68 : decode cX10_told 68 = .ok (.imul, 1) := by decide +kernel
theorem dX10_told_69 : decode cX10_told 69 = .ok (.bipush 11, 2) := by decide +kernel
theorem dX10_told_71 : decode cX10_told 71 = .ok (.iload_n 2, 1) := by decide +kernel
theorem dX10_told_72 : decode cX10_told 72 = .ok (.imul, 1) := by decide +kernel
theorem dX10_told_73 : decode cX10_told 73 = .ok (.iadd, 1) := by decide +kernel
theorem dX10_told_74 : decode cX10_told 74 = .ok (.iload_n 3, 1) := by decide +kernel
theorem dX10_told_75 : decode cX10_told 75 = .ok (.iadd, 1) := by decide +kernel
theorem dX10_told_76 : decode cX10_told 76 = .ok (.iaload, 1) := by decide +kernel
theorem dX10_told_77 : decode cX10_told 77 = .ok (.goto 5, 3) := by decide +kernel
theorem dX10_told_80 : decode cX10_told 80 = .ok (.bipush (-2), 2) := by decide +kernel
theorem dX10_told_82 : decode cX10_told 82 = .ok (.ireturn, 1) := by decide +kernel
