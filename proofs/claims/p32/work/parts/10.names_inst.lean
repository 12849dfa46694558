abbrev wsX100 : List Cond := u_ws RX10 TX10 35
abbrev cX10_isJob : ByteArray := prog_12_method_6_code
def yX10_isJob : MethodName := ⟨RX10, "isJob", "(I)Z"⟩
abbrev cX10_isSquare : ByteArray := prog_12_method_7_code
def yX10_isSquare : MethodName := ⟨RX10, "isSquare", "(II)Z"⟩
abbrev cX10_isLine : ByteArray := prog_12_method_14_code
def yX10_isLine : MethodName := ⟨RX10, "isLine", "(III)Z"⟩
def wsX10_isJob : List Cond := .code yX10_isJob cX10_isJob 2 (some .boolean) :: ([.fieldLink RX10 93 "ShadowBenchModel" "jobs" "I"] ++ wsX100)
def wsX10_isSquare : List Cond := .code yX10_isSquare cX10_isSquare 3 (some .boolean) :: ([.fieldLink RX10 13 "ShadowBenchModel" "wide" "[I", .fieldLink RX10 16 "ShadowBenchModel" "high" "[I", .methodLink RX10 96 yX10_isJob, .instanceMethod yX10_isJob, .selects RX10 yX10_isJob yX10_isJob, .initialized RX10, .code yX10_isJob cX10_isJob 2 (some .boolean), .fieldLink RX10 93 "ShadowBenchModel" "jobs" "I"] ++ wsX100)
def wsX10_isLine : List Cond := .code yX10_isLine cX10_isLine 4 (some .boolean) :: ([.constantLong RX10 116 (3), .fieldLink RX10 13 "ShadowBenchModel" "wide" "[I", .fieldLink RX10 16 "ShadowBenchModel" "high" "[I", .methodLink RX10 96 yX10_isJob, .instanceMethod yX10_isJob, .selects RX10 yX10_isJob yX10_isJob, .initialized RX10, .code yX10_isJob cX10_isJob 2 (some .boolean), .fieldLink RX10 93 "ShadowBenchModel" "jobs" "I", .methodLink RX10 85 yX10_isIn, .static yX10_isIn, .code yX10_isIn cX10_isIn 6 (some .boolean), .methodLink RX10 108 yX10_linesOf, .static yX10_linesOf, .code yX10_linesOf cX10_linesOf 3 (some .int)] ++ wsX100)
theorem dX10_isJob_0 : decode cX10_isJob 0 = .ok (.iload_n 1, 1) := by decide +kernel
theorem dX10_isJob_1 : decode cX10_isJob 1 = .ok (.ifCond .lt 15, 3) := by decide +kernel
theorem dX10_isJob_4 : decode cX10_isJob 4 = .ok (.iload_n 1, 1) := by decide +kernel
theorem dX10_isJob_5 : decode cX10_isJob 5 = .ok (.aload_n 0, 1) := by decide +kernel
theorem dX10_isJob_6 : decode cX10_isJob 6 = .ok (.getfield 93, 3) := by decide +kernel
theorem dX10_isJob_9 : decode cX10_isJob 9 = .ok (.if_icmp .ge 7, 3) := by decide +kernel
theorem dX10_isJob_12 : decode cX10_isJob 12 = .ok (.iconst 1, 1) := by decide +kernel
theorem dX10_isJob_13 : decode cX10_isJob 13 = .ok (.goto 4, 3) := by decide +kernel
theorem dX10_isJob_16 : decode cX10_isJob 16 = .ok (.iconst 0, 1) := by decide +kernel
theorem dX10_isJob_17 : decode cX10_isJob 17 = .ok (.ireturn, 1) := by decide +kernel
set_option maxRecDepth 20000 in
theorem ggX10_isSquare_X10_isJob : GoodIn wsX10_isSquare wsX10_isJob := goodIn_r _ [7, 8, 9, 10, 11, 12, 13, 14, 15, 16, 17, 18, 19, 20, 21, 22, 23, 24, 25, 26, 27, 28, 29, 30, 31, 32, 33, 34, 35, 36, 37, 38, 39, 40, 41, 42, 43] (by decide +kernel) (by decide +kernel)
set_option maxRecDepth 20000 in
theorem gX10_isSquare_X10_isJob : GoodIn wsX10_isSquare (wsV RX10 96 RX10 yX10_isJob wsX10_isJob) := goodIn_app (goodIn_of _ (by decide +kernel)) ggX10_isSquare_X10_isJob
theorem dX10_isSquare_0 : decode cX10_isSquare 0 = .ok (.aload_n 0, 1) := by decide +kernel
theorem dX10_isSquare_1 : decode cX10_isSquare 1 = .ok (.iload_n 1, 1) := by decide +kernel
theorem dX10_isSquare_2 : decode cX10_isSquare 2 = .ok (.invokevirtual 96, 3) := by decide +kernel
theorem dX10_isSquare_5 : decode cX10_isSquare 5 = .ok (.ifCond .eq 28, 3) := by decide +kernel
theorem dX10_isSquare_8 : decode cX10_isSquare 8 = .ok (.iload_n 2, 1) := by decide +kernel
theorem dX10_isSquare_9 : decode cX10_isSquare 9 = .ok (.ifCond .lt 24, 3) := by decide +kernel
theorem dX10_isSquare_12 : decode cX10_isSquare 12 = .ok (.iload_n 2, 1) := by decide +kernel
theorem dX10_isSquare_13 : decode cX10_isSquare 13 = .ok (.aload_n 0, 1) := by decide +kernel
theorem dX10_isSquare_14 : decode cX10_isSquare 14 = .ok (.getfield 13, 3) := by decide +kernel
theorem dX10_isSquare_17 : decode cX10_isSquare 17 = .ok (.iload_n 1, 1) := by decide +kernel
theorem dX10_isSquare_18 : decode cX10_isSquare 18 = .ok (.iaload, 1) := by decide +kernel
theorem dX10_isSquare_19 : decode cX10_isSquare 19 = .ok (.aload_n 0, 1) := by decide +kernel
theorem dX10_isSquare_20 : decode cX10_isSquare 20 = .ok (.getfield 16, 3) := by decide +kernel
theorem dX10_isSquare_23 : decode cX10_isSquare 23 = .ok (.iload_n 1, 1) := by decide +kernel
theorem dX10_isSquare_24 : decode cX10_isSquare 24 = .ok (.iaload, 1) := by decide +kernel
theorem dX10_isSquare_25 : decode cX10_isSquare 25 = .ok (.imul, 1) := by decide +kernel
theorem dX10_isSquare_26 : decode cX10_isSquare 26 = .ok (.if_icmp .ge 7, 3) := by decide +kernel
theorem dX10_isSquare_29 : decode cX10_isSquare 29 = .ok (.iconst 1, 1) := by decide +kernel
theorem dX10_isSquare_30 : decode cX10_isSquare 30 = .ok (.goto 4, 3) := by decide +kernel
theorem dX10_isSquare_33 : decode cX10_isSquare 33 = .ok (.iconst 0, 1) := by decide +kernel
theorem dX10_isSquare_34 : decode cX10_isSquare 34 = .ok (.ireturn, 1) := by decide +kernel
set_option maxRecDepth 20000 in
theorem ggX10_isLine_X10_isJob : GoodIn wsX10_isLine wsX10_isJob := goodIn_r _ [8, 9, 16, 17, 18, 19, 20, 21, 22, 23, 24, 25, 26, 27, 28, 29, 30, 31, 32, 33, 34, 35, 36, 37, 38, 39, 40, 41, 42, 43, 44, 45, 46, 47, 48, 49, 50] (by decide +kernel) (by decide +kernel)
set_option maxRecDepth 20000 in
theorem gX10_isLine_X10_isJob : GoodIn wsX10_isLine (wsV RX10 96 RX10 yX10_isJob wsX10_isJob) := goodIn_app (goodIn_of _ (by decide +kernel)) ggX10_isLine_X10_isJob
set_option maxRecDepth 20000 in
theorem ggX10_isLine_X10_isIn : GoodIn wsX10_isLine wsX10_isIn := goodIn_r _ [12] (by decide +kernel) (by decide +kernel)
set_option maxRecDepth 20000 in
theorem gX10_isLine_X10_isIn : GoodIn wsX10_isLine (va_wsS RX10 85 yX10_isIn wsX10_isIn) := goodIn_app (goodIn_of _ (by decide +kernel)) ggX10_isLine_X10_isIn
set_option maxRecDepth 20000 in
theorem ggX10_isLine_X10_linesOf : GoodIn wsX10_isLine wsX10_linesOf := goodIn_r _ [15] (by decide +kernel) (by decide +kernel)
set_option maxRecDepth 20000 in
theorem gX10_isLine_X10_linesOf : GoodIn wsX10_isLine (va_wsS RX10 108 yX10_linesOf wsX10_linesOf) := goodIn_app (goodIn_of _ (by decide +kernel)) ggX10_isLine_X10_linesOf
theorem dX10_isLine_0 : decode cX10_isLine 0 = .ok (.aload_n 0, 1) := by decide +kernel
theorem dX10_isLine_1 : decode cX10_isLine 1 = .ok (.iload_n 1, 1) := by decide +kernel
theorem dX10_isLine_2 : decode cX10_isLine 2 = .ok (.invokevirtual 96, 3) := by decide +kernel
theorem dX10_isLine_5 : decode cX10_isLine 5 = .ok (.ifCond .eq 43, 3) := by decide +kernel
theorem dX10_isLine_8 : decode cX10_isLine 8 = .ok (.iload_n 2, 1) := by decide +kernel
theorem dX10_isLine_9 : decode cX10_isLine 9 = .ok (.i2l, 1) := by decide +kernel
theorem dX10_isLine_10 : decode cX10_isLine 10 = .ok (.lconst 0, 1) := by decide +kernel
theorem dX10_isLine_11 : decode cX10_isLine 11 = .ok (.ldc2_w 116, 3) := by decide +kernel
theorem dX10_isLine_14 : decode cX10_isLine 14 = .ok (.invokestatic 85, 3) := by decide +kernel
theorem dX10_isLine_17 : decode cX10_isLine 17 = .ok (.ifCond .eq 31, 3) := by decide +kernel
theorem dX10_isLine_20 : decode cX10_isLine 20 = .ok (.iload_n 3, 1) := by decide +kernel
theorem dX10_isLine_21 : decode cX10_isLine 21 = .ok (.ifCond .lt 27, 3) := by decide +kernel
theorem dX10_isLine_24 : decode cX10_isLine 24 = .ok (.iload_n 3, 1) := by decide +kernel
theorem dX10_isLine_25 : decode cX10_isLine 25 = .ok (.aload_n 0, 1) := by decide +kernel
theorem dX10_isLine_26 : decode cX10_isLine 26 = .ok (.getfield 13, 3) := by decide +kernel
theorem dX10_isLine_29 : decode cX10_isLine 29 = .ok (.iload_n 1, 1) := by decide +kernel
theorem dX10_isLine_30 : decode cX10_isLine 30 = .ok (.iaload, 1) := by decide +kernel
theorem dX10_isLine_31 : decode cX10_isLine 31 = .ok (.aload_n 0, 1) := by decide +kernel
theorem dX10_isLine_32 : decode cX10_isLine 32 = .ok (.getfield 16, 3) := by decide +kernel
theorem dX10_isLine_35 : decode cX10_isLine 35 = .ok (.iload_n 1, 1) := by decide +kernel
theorem dX10_isLine_36 : decode cX10_isLine 36 = .ok (.iaload, 1) := by decide +kernel
theorem dX10_isLine_37 : decode cX10_isLine 37 = .ok (.iload_n 2, 1) := by decide +kernel
theorem dX10_isLine_38 : decode cX10_isLine 38 = .ok (.invokestatic 108, 3) := by decide +kernel
theorem dX10_isLine_41 : decode cX10_isLine 41 = .ok (.if_icmp .ge 7, 3) := by decide +kernel
theorem dX10_isLine_44 : decode cX10_isLine 44 = .ok (.iconst 1, 1) := by decide +kernel
theorem dX10_isLine_45 : decode cX10_isLine 45 = .ok (.goto 4, 3) := by decide +kernel
theorem dX10_isLine_48 : decode cX10_isLine 48 = .ok (.iconst 0, 1) := by decide +kernel
theorem dX10_isLine_49 : decode cX10_isLine 49 = .ok (.ireturn, 1) := by decide +kernel
