abbrev cX10_areAlike : ByteArray := prog_12_method_12_code
def yX10_areAlike : MethodName := ⟨RX10, "areAlike", "(IIJJI)Z"⟩
abbrev cX10_cast : ByteArray := prog_12_method_18_code
def yX10_cast : MethodName := ⟨RX10, "cast", "(IIJ)I"⟩
abbrev cX10_shadow : ByteArray := prog_12_method_23_code
def yX10_shadow : MethodName := ⟨RX10, "shadow", "(IIJII)I"⟩
abbrev cX10_isEven : ByteArray := prog_12_method_25_code
def yX10_isEven : MethodName := ⟨RX10, "isEven", "(IIJZ)Z"⟩
def wsX10_areAlike : List Cond := .code yX10_areAlike cX10_areAlike 9 (some .boolean) :: ([.methodLink RX10 108 yX10_linesOf, .static yX10_linesOf, .initialized RX10, .code yX10_linesOf cX10_linesOf 3 (some .int), .methodLink RX10 112 yX10_shadowOf, .static yX10_shadowOf, .code yX10_shadowOf cX10_shadowOf 8 (some .int), .methodLink RX10 100 yX10_lineOf, .static yX10_lineOf, .code yX10_lineOf cX10_lineOf 4 (some .int), .methodLink RX10 104 yX10_one, .static yX10_one, .code yX10_one cX10_one 3 (some .int)])
def wsX10_cast_r1 : List Cond := [Cond.fieldLink RX10 79 "ShadowBenchModel" "thrown" "I", Cond.fieldLink RX10 13 "ShadowBenchModel" "wide" "[I", Cond.fieldLink RX10 16 "ShadowBenchModel" "high" "[I", Cond.fieldLink RX10 19 "ShadowBenchModel" "sums" "[I", Cond.methodLink RX10 118 yX10_isLine, Cond.instanceMethod yX10_isLine, Cond.selects RX10 yX10_isLine yX10_isLine, Cond.initialized RX10, Cond.code yX10_isLine cX10_isLine 4 (some .boolean), Cond.constantLong RX10 116 (3), Cond.methodLink RX10 96 yX10_isJob, Cond.instanceMethod yX10_isJob, Cond.selects RX10 yX10_isJob yX10_isJob, Cond.code yX10_isJob cX10_isJob 2 (some .boolean), Cond.fieldLink RX10 93 "ShadowBenchModel" "jobs" "I", Cond.methodLink RX10 85 yX10_isIn, Cond.static yX10_isIn, Cond.code yX10_isIn cX10_isIn 6 (some .boolean), Cond.methodLink RX10 108 yX10_linesOf, Cond.static yX10_linesOf, Cond.code yX10_linesOf cX10_linesOf 3 (some .int), Cond.methodLink RX10 126 yX10_isPicture, Cond.static yX10_isPicture, Cond.code yX10_isPicture cX10_isPicture 4 (some .boolean)]
def wsX10_cast_r2 : List Cond := [Cond.methodLink RX10 89 yX10_isBoard, Cond.static yX10_isBoard, Cond.code yX10_isBoard cX10_isBoard 2 (some .boolean), Cond.constantLong RX10 83 (6), Cond.methodLink RX10 122 yX10_tell, Cond.instanceMethod yX10_tell, Cond.selects RX10 yX10_tell yX10_tell, Cond.code yX10_tell cX10_tell 4 none, Cond.fieldLink RX10 22 "ShadowBenchModel" "isTold" "[Z", Cond.methodLink RX10 112 yX10_shadowOf, Cond.static yX10_shadowOf, Cond.code yX10_shadowOf cX10_shadowOf 8 (some .int), Cond.methodLink RX10 100 yX10_lineOf, Cond.static yX10_lineOf, Cond.code yX10_lineOf cX10_lineOf 4 (some .int), Cond.methodLink RX10 104 yX10_one, Cond.static yX10_one, Cond.code yX10_one cX10_one 3 (some .int), Cond.methodLink RX10 130 yX10_countOnes, Cond.static yX10_countOnes, Cond.code yX10_countOnes cX10_countOnes 4 (some .int)]
def wsX10_cast : List Cond := .code yX10_cast cX10_cast 6 (some .int) :: ((wsX10_cast_r1 ++ wsX10_cast_r2) ++ wsX100)
def wsX10_shadow_r1 : List Cond := [Cond.fieldLink RX10 79 "ShadowBenchModel" "thrown" "I", Cond.constantLong RX10 116 (3), Cond.methodLink RX10 126 yX10_isPicture, Cond.static yX10_isPicture, Cond.initialized RX10, Cond.code yX10_isPicture cX10_isPicture 4 (some .boolean), Cond.methodLink RX10 89 yX10_isBoard, Cond.static yX10_isBoard, Cond.code yX10_isBoard cX10_isBoard 2 (some .boolean), Cond.constantLong RX10 83 (6), Cond.methodLink RX10 85 yX10_isIn, Cond.static yX10_isIn, Cond.code yX10_isIn cX10_isIn 6 (some .boolean), Cond.methodLink RX10 108 yX10_linesOf, Cond.static yX10_linesOf, Cond.code yX10_linesOf cX10_linesOf 3 (some .int), Cond.methodLink RX10 112 yX10_shadowOf, Cond.static yX10_shadowOf, Cond.code yX10_shadowOf cX10_shadowOf 8 (some .int), Cond.methodLink RX10 100 yX10_lineOf, Cond.static yX10_lineOf, Cond.code yX10_lineOf cX10_lineOf 4 (some .int), Cond.methodLink RX10 104 yX10_one, Cond.static yX10_one]
def wsX10_shadow_r2 : List Cond := [Cond.code yX10_one cX10_one 3 (some .int)]
def wsX10_shadow : List Cond := .code yX10_shadow cX10_shadow 8 (some .int) :: ((wsX10_shadow_r1 ++ wsX10_shadow_r2) ++ wsX100)
def wsX10_isEven : List Cond := .code yX10_isEven cX10_isEven 13 (some .boolean) :: ([.methodLink RX10 104 yX10_one, .static yX10_one, .initialized RX10, .code yX10_one cX10_one 3 (some .int)])
set_option maxRecDepth 20000 in
theorem ggX10_areAlike_X10_linesOf : GoodIn wsX10_areAlike wsX10_linesOf := goodIn_r _ [4] (by decide +kernel) (by decide +kernel)
def chX10_areAlike : List (List Cond) := [[.methodLink RX10 108 yX10_linesOf, .static yX10_linesOf, .initialized RX10, .code yX10_linesOf cX10_linesOf 3 (some .int), .methodLink RX10 112 yX10_shadowOf, .static yX10_shadowOf, .code yX10_shadowOf cX10_shadowOf 8 (some .int), .methodLink RX10 100 yX10_lineOf, .static yX10_lineOf, .code yX10_lineOf cX10_lineOf 4 (some .int), .methodLink RX10 104 yX10_one, .static yX10_one, .code yX10_one cX10_one 3 (some .int)]]
set_option maxRecDepth 20000 in
theorem chX10_areAlike_in : ∀ c ∈ chX10_areAlike, ∀ w ∈ c, w ∈ wsX10_areAlike := (all_c (P := fun c => ∀ w ∈ c, w ∈ wsX10_areAlike) (fun w h => List.mem_cons_of_mem _ (h)) (fun _ h => nomatch h))
set_option maxRecDepth 20000 in
theorem gX10_areAlike_X10_linesOf : GoodIn wsX10_areAlike (va_wsS RX10 108 yX10_linesOf wsX10_linesOf) := goodIn_app (goodIn_c chX10_areAlike chX10_areAlike_in _ [(0, 0), (0, 1), (0, 2)] (by rfl) (by decide +kernel)) ggX10_areAlike_X10_linesOf
set_option maxRecDepth 20000 in
theorem ggX10_areAlike_X10_shadowOf : GoodIn wsX10_areAlike wsX10_shadowOf := goodIn_c chX10_areAlike chX10_areAlike_in _ [(0, 6), (0, 7), (0, 8), (0, 2), (0, 9), (0, 10), (0, 11), (0, 12)] (by rfl) (by decide +kernel)
set_option maxRecDepth 20000 in
theorem gX10_areAlike_X10_shadowOf : GoodIn wsX10_areAlike (va_wsS RX10 112 yX10_shadowOf wsX10_shadowOf) := goodIn_app (goodIn_c chX10_areAlike chX10_areAlike_in _ [(0, 4), (0, 5), (0, 2)] (by rfl) (by decide +kernel)) ggX10_areAlike_X10_shadowOf
theorem dX10_areAlike_0 : decode cX10_areAlike 0 = .ok (.iconst 1, 1) := by decide +kernel
theorem dX10_areAlike_1 : decode cX10_areAlike 1 = .ok (.istore 7, 2) := by decide +kernel
theorem dX10_areAlike_3 : decode cX10_areAlike 3 = .ok (.iconst 0, 1) := by decide +kernel
theorem dX10_areAlike_4 : decode cX10_areAlike 4 = .ok (.istore 8, 2) := by decide +kernel
theorem dX10_areAlike_6 : decode cX10_areAlike 6 = .ok (.iload 8, 2) := by decide +kernel
theorem dX10_areAlike_8 : decode cX10_areAlike 8 = .ok (.iload_n 0, 1) := by decide +kernel
theorem dX10_areAlike_9 : decode cX10_areAlike 9 = .ok (.iload_n 1, 1) := by decide +kernel
theorem dX10_areAlike_10 : decode cX10_areAlike 10 = .ok (.iload 6, 2) := by decide +kernel
theorem dX10_areAlike_12 : decode cX10_areAlike 12 = .ok (.invokestatic 108, 3) := by decide +kernel
theorem dX10_areAlike_15 : decode cX10_areAlike 15 = .ok (.if_icmp .ge 45, 3) := by decide +kernel
theorem dX10_areAlike_18 : decode cX10_areAlike 18 = .ok (.iload 7, 2) := by decide +kernel
theorem dX10_areAlike_20 : decode cX10_areAlike 20 = .ok (.ifCond .eq 31, 3) := by decide +kernel
theorem dX10_areAlike_23 : decode cX10_areAlike 23 = .ok (.iload_n 0, 1) := by decide +kernel
theorem dX10_areAlike_24 : decode cX10_areAlike 24 = .ok (.iload_n 1, 1) := by decide +kernel
theorem dX10_areAlike_25 : decode cX10_areAlike 25 = .ok (.lload_n 2, 1) := by decide +kernel
theorem dX10_areAlike_26 : decode cX10_areAlike 26 = .ok (.iload 6, 2) := by decide +kernel
theorem dX10_areAlike_28 : decode cX10_areAlike 28 = .ok (.iload 8, 2) := by decide +kernel
theorem dX10_areAlike_30 : decode cX10_areAlike 30 = .ok (.invokestatic 112, 3) := by decide +kernel
theorem dX10_areAlike_33 : decode cX10_areAlike 33 = .ok (.iload_n 0, 1) := by decide +kernel
theorem dX10_areAlike_34 : decode cX10_areAlike 34 = .ok (.iload_n 1, 1) := by decide +kernel
theorem dX10_areAlike_35 : decode cX10_areAlike 35 = .ok (.lload 4, 2) := by decide +kernel
theorem dX10_areAlike_37 : decode cX10_areAlike 37 = .ok (.iload 6, 2) := by decide +kernel
theorem dX10_areAlike_39 : decode cX10_areAlike 39 = .ok (.iload 8, 2) := by decide +kernel
theorem dX10_areAlike_41 : decode cX10_areAlike 41 = .ok (.invokestatic 112, 3) := by decide +kernel
theorem dX10_areAlike_44 : decode cX10_areAlike 44 = .ok (.if_icmp .ne 7, 3) := by decide +kernel
theorem dX10_areAlike_47 : decode cX10_areAlike 47 = .ok (.iconst 1, 1) := by decide +kernel
theorem dX10_areAlike_48 : decode cX10_areAlike 48 = .ok (.goto 4, 3) := by decide +kernel
theorem dX10_areAlike_51 : decode cX10_areAlike 51 = .ok (.iconst 0, 1) := by decide +kernel
theorem dX10_areAlike_52 : decode cX10_areAlike 52 = .ok (.istore 7, 2) := by decide +kernel
theorem dX10_areAlike_54 : decode cX10_areAlike 54 = .ok (.iinc 8 1, 3) := by decide +kernel
theorem dX10_areAlike_57 : decode cX10_areAlike 57 = .ok (.goto (-51), 3) := by decide +kernel
theorem dX10_areAlike_60 : decode cX10_areAlike 60 = .ok (.iload 7, 2) := by decide +kernel
theorem dX10_areAlike_62 : decode cX10_areAlike 62 = .ok (.ireturn, 1) := by decide +kernel
def chX10_cast : List (List Cond) := [wsX10_cast_r1, wsX10_cast_r2, wsX100]
set_option maxRecDepth 20000 in
theorem chX10_cast_in : ∀ c ∈ chX10_cast, ∀ w ∈ c, w ∈ wsX10_cast := (all_c (P := fun c => ∀ w ∈ c, w ∈ wsX10_cast) (fun w h => List.mem_cons_of_mem _ (List.mem_append_left _ (List.mem_append_left _ (h)))) (all_c (P := fun c => ∀ w ∈ c, w ∈ wsX10_cast) (fun w h => List.mem_cons_of_mem _ (List.mem_append_left _ (List.mem_append_right _ (h)))) (all_c (P := fun c => ∀ w ∈ c, w ∈ wsX10_cast) (fun w h => List.mem_cons_of_mem _ (List.mem_append_right _ (h))) (fun _ h => nomatch h))))
set_option maxRecDepth 20000 in
theorem ggX10_cast_X10_isLine : GoodIn wsX10_cast wsX10_isLine := goodIn_ca (goodIn_c chX10_cast chX10_cast_in _ [(0, 8), (0, 9), (0, 1), (0, 2), (0, 10), (0, 11), (0, 12), (0, 7), (0, 13), (0, 14), (0, 15), (0, 16), (0, 17), (0, 18), (0, 19), (0, 20)] (by rfl) (by decide +kernel)) (goodIn_sub (fun _ h => List.mem_cons_of_mem _ (List.mem_append_right _ (h))) (by decide +kernel))
set_option maxRecDepth 20000 in
theorem gX10_cast_X10_isLine : GoodIn wsX10_cast (wsV RX10 118 RX10 yX10_isLine wsX10_isLine) := goodIn_app (goodIn_c chX10_cast chX10_cast_in _ [(0, 4), (0, 5), (0, 6), (0, 7)] (by rfl) (by decide +kernel)) ggX10_cast_X10_isLine
set_option maxRecDepth 20000 in
theorem ggX10_cast_X10_isPicture : GoodIn wsX10_cast wsX10_isPicture := goodIn_c chX10_cast chX10_cast_in _ [(0, 23), (1, 0), (1, 1), (0, 7), (1, 2), (1, 3), (0, 15), (0, 16), (0, 17)] (by rfl) (by decide +kernel)
set_option maxRecDepth 20000 in
theorem gX10_cast_X10_isPicture : GoodIn wsX10_cast (va_wsS RX10 126 yX10_isPicture wsX10_isPicture) := goodIn_app (goodIn_c chX10_cast chX10_cast_in _ [(0, 21), (0, 22), (0, 7)] (by rfl) (by decide +kernel)) ggX10_cast_X10_isPicture
set_option maxRecDepth 20000 in
theorem ggX10_cast_X10_tell : GoodIn wsX10_cast wsX10_tell := goodIn_ca (goodIn_c chX10_cast chX10_cast_in _ [(1, 7), (1, 8), (0, 3)] (by rfl) (by decide +kernel)) (goodIn_sub (fun _ h => List.mem_cons_of_mem _ (List.mem_append_right _ (h))) (by decide +kernel))
set_option maxRecDepth 20000 in
theorem gX10_cast_X10_tell : GoodIn wsX10_cast (wsV RX10 122 RX10 yX10_tell wsX10_tell) := goodIn_app (goodIn_c chX10_cast chX10_cast_in _ [(1, 4), (1, 5), (1, 6), (0, 7)] (by rfl) (by decide +kernel)) ggX10_cast_X10_tell
set_option maxRecDepth 20000 in
theorem ggX10_cast_X10_linesOf : GoodIn wsX10_cast wsX10_linesOf := goodIn_r _ [21] (by decide +kernel) (by decide +kernel)
set_option maxRecDepth 20000 in
theorem gX10_cast_X10_linesOf : GoodIn wsX10_cast (va_wsS RX10 108 yX10_linesOf wsX10_linesOf) := goodIn_app (goodIn_c chX10_cast chX10_cast_in _ [(0, 18), (0, 19), (0, 7)] (by rfl) (by decide +kernel)) ggX10_cast_X10_linesOf
set_option maxRecDepth 20000 in
theorem ggX10_cast_X10_shadowOf : GoodIn wsX10_cast wsX10_shadowOf := goodIn_c chX10_cast chX10_cast_in _ [(1, 11), (1, 12), (1, 13), (0, 7), (1, 14), (1, 15), (1, 16), (1, 17)] (by rfl) (by decide +kernel)
set_option maxRecDepth 20000 in
theorem gX10_cast_X10_shadowOf : GoodIn wsX10_cast (va_wsS RX10 112 yX10_shadowOf wsX10_shadowOf) := goodIn_app (goodIn_c chX10_cast chX10_cast_in _ [(1, 9), (1, 10), (0, 7)] (by rfl) (by decide +kernel)) ggX10_cast_X10_shadowOf
set_option maxRecDepth 20000 in
theorem ggX10_cast_X10_countOnes : GoodIn wsX10_cast wsX10_countOnes := goodIn_r _ [45, 40, 41, 8, 42] (by decide +kernel) (by decide +kernel)
set_option maxRecDepth 20000 in
theorem gX10_cast_X10_countOnes : GoodIn wsX10_cast (va_wsS RX10 130 yX10_countOnes wsX10_countOnes) := goodIn_app (goodIn_c chX10_cast chX10_cast_in _ [(1, 18), (1, 19), (0, 7)] (by rfl) (by decide +kernel)) ggX10_cast_X10_countOnes
theorem dX10_cast_0 : decode cX10_cast 0 = .ok (.aload_n 0, 1) := by decide +kernel
theorem dX10_cast_1 : decode cX10_cast 1 = .ok (.iconst 0, 1) := by decide +kernel
theorem dX10_cast_2 : decode cX10_cast 2 = .ok (.putfield 79, 3) := by decide +kernel
theorem dX10_cast_5 : decode cX10_cast 5 = .ok (.aload_n 0, 1) := by decide +kernel
theorem dX10_cast_6 : decode cX10_cast 6 = .ok (.iload_n 1, 1) := by decide +kernel
theorem dX10_cast_7 : decode cX10_cast 7 = .ok (.iload_n 2, 1) := by decide +kernel
theorem dX10_cast_8 : decode cX10_cast 8 = .ok (.iconst 0, 1) := by decide +kernel
theorem dX10_cast_9 : decode cX10_cast 9 = .ok (.invokevirtual 118, 3) := by decide +kernel
theorem dX10_cast_12 : decode cX10_cast 12 = .ok (.ifCond .eq 22, 3) := by decide +kernel
theorem dX10_cast_15 : decode cX10_cast 15 = .ok (.aload_n 0, 1) := by decide +kernel
theorem dX10_cast_16 : decode cX10_cast 16 = .ok (.getfield 13, 3) := by decide +kernel
theorem dX10_cast_19 : decode cX10_cast 19 = .ok (.iload_n 1, 1) := by decide +kernel
theorem dX10_cast_20 : decode cX10_cast 20 = .ok (.iaload, 1) := by decide +kernel
theorem dX10_cast_21 : decode cX10_cast 21 = .ok (.aload_n 0, 1) := by decide +kernel
theorem dX10_cast_22 : decode cX10_cast 22 = .ok (.getfield 16, 3) := by decide +kernel
theorem dX10_cast_25 : decode cX10_cast 25 = .ok (.iload_n 1, 1) := by decide +kernel
theorem dX10_cast_26 : decode cX10_cast 26 = .ok (.iaload, 1) := by decide +kernel
theorem dX10_cast_27 : decode cX10_cast 27 = .ok (.lload_n 3, 1) := by decide +kernel
theorem dX10_cast_28 : decode cX10_cast 28 = .ok (.invokestatic 126, 3) := by decide +kernel
theorem dX10_cast_31 : decode cX10_cast 31 = .ok (.ifCond .ne 5, 3) := by decide +kernel
theorem dX10_cast_34 : decode cX10_cast 34 = .ok (.iconst (-1), 1) := by decide +kernel
theorem dX10_cast_35 : decode cX10_cast 35 = .ok (.ireturn, 1) := by decide +kernel
theorem dX10_cast_36 : decode cX10_cast 36 = .ok (.aload_n 0, 1) := by decide +kernel
theorem dX10_cast_37 : decode cX10_cast 37 = .ok (.iload_n 1, 1) := by decide +kernel
theorem dX10_cast_38 : decode cX10_cast 38 = .ok (.iload_n 2, 1) := by decide +kernel
theorem dX10_cast_39 : decode cX10_cast 39 = .ok (.invokevirtual 122, 3) := by decide +kernel
theorem dX10_cast_42 : decode cX10_cast 42 = .ok (.iconst 0, 1) := by decide +kernel
theorem dX10_cast_43 : decode cX10_cast 43 = .ok (.istore 5, 2) := by decide +kernel
theorem dX10_cast_45 : decode cX10_cast 45 = .ok (.iload 5, 2) := by decide +kernel
theorem dX10_cast_47 : decode cX10_cast 47 = .ok (.aload_n 0, 1) := by decide +kernel
theorem dX10_cast_48 : decode cX10_cast 48 = .ok (.getfield 13, 3) := by decide +kernel
theorem dX10_cast_51 : decode cX10_cast 51 = .ok (.iload_n 1, 1) := by decide +kernel
theorem dX10_cast_52 : decode cX10_cast 52 = .ok (.iaload, 1) := by decide +kernel
theorem dX10_cast_53 : decode cX10_cast 53 = .ok (.aload_n 0, 1) := by decide +kernel
theorem dX10_cast_54 : decode cX10_cast 54 = .ok (.getfield 16, 3) := by decide +kernel
theorem dX10_cast_57 : decode cX10_cast 57 = .ok (.iload_n 1, 1) := by decide +kernel
theorem dX10_cast_58 : decode cX10_cast 58 = .ok (.iaload, 1) := by decide +kernel
theorem dX10_cast_59 : decode cX10_cast 59 = .ok (.iload_n 2, 1) := by decide +kernel
theorem dX10_cast_60 : decode cX10_cast 60 = .ok (.invokestatic 108, 3) := by decide +kernel
theorem dX10_cast_63 : decode cX10_cast 63 = .ok (.if_icmp .ge 45, 3) := by decide +kernel
theorem dX10_cast_66 : decode cX10_cast 66 = .ok (.aload_n 0, 1) := by decide +kernel
theorem dX10_cast_67 : decode cX10_cast 67 = .ok (.getfield 19, 3) := by decide +kernel
theorem dX10_cast_70 : decode cX10_cast 70 = .ok (.bipush 44, 2) := by decide +kernel
theorem dX10_cast_72 : decode cX10_cast 72 = .ok (.iload_n 1, 1) := by decide +kernel
theorem dX10_cast_73 : decode cX10_cast 73 = .ok (.imul, 1) := by decide +kernel
theorem dX10_cast_74 : decode cX10_cast 74 = .ok (.bipush 11, 2) := by decide +kernel
theorem dX10_cast_76 : decode cX10_cast 76 = .ok (.iload_n 2, 1) := by decide +kernel
theorem dX10_cast_77 : decode cX10_cast 77 = .ok (.imul, 1) := by decide +kernel
theorem dX10_cast_78 : decode cX10_cast 78 = .ok (.iadd, 1) := by decide +kernel
theorem dX10_cast_79 : decode cX10_cast 79 = .ok (.iload 5, 2) := by decide +kernel
theorem dX10_cast_81 : decode cX10_cast 81 = .ok (.iadd, 1) := by decide +kernel
theorem dX10_cast_82 : decode cX10_cast 82 = .ok (.aload_n 0, 1) := by decide +kernel
theorem dX10_cast_83 : decode cX10_cast 83 = .ok (.getfield 13, 3) := by decide +kernel
theorem dX10_cast_86 : decode cX10_cast 86 = .ok (.iload_n 1, 1) := by decide +kernel
theorem dX10_cast_87 : decode cX10_cast 87 = .ok (.iaload, 1) := by decide +kernel
theorem dX10_cast_88 : decode cX10_cast 88 = .ok (.aload_n 0, 1) := by decide +kernel
theorem dX10_cast_89 : decode cX10_cast 89 = .ok (.getfield 16, 3) := by decide +kernel
theorem dX10_cast_92 : decode cX10_cast 92 = .ok (.iload_n 1, 1) := by decide +kernel
theorem dX10_cast_93 : decode cX10_cast 93 = .ok (.iaload, 1) := by decide +kernel
theorem dX10_cast_94 : decode cX10_cast 94 = .ok (.lload_n 3, 1) := by decide +kernel
theorem dX10_cast_95 : decode cX10_cast 95 = .ok (.iload_n 2, 1) := by decide +kernel
theorem dX10_cast_96 : decode cX10_cast 96 = .ok (.iload 5, 2) := by decide +kernel
theorem dX10_cast_98 : decode cX10_cast 98 = .ok (.invokestatic 112, 3) := by decide +kernel
theorem dX10_cast_101 : decode cX10_cast 101 = .ok (.iastore, 1) := by decide +kernel
theorem dX10_cast_102 : decode cX10_cast 102 = .ok (.iinc 5 1, 3) := by decide +kernel
theorem dX10_cast_105 : decode cX10_cast 105 = .ok (.goto (-60), 3) := by decide +kernel
theorem dX10_cast_108 : decode cX10_cast 108 = .ok (.lload_n 3, 1) := by decide +kernel
theorem dX10_cast_109 : decode cX10_cast 109 = .ok (.invokestatic 130, 3) := by decide +kernel
theorem dX10_cast_112 : decode cX10_cast 112 = .ok (.ireturn, 1) := by decide +kernel
def chX10_shadow : List (List Cond) := [wsX10_shadow_r1, wsX10_shadow_r2, wsX100]
set_option maxRecDepth 20000 in
theorem chX10_shadow_in : ∀ c ∈ chX10_shadow, ∀ w ∈ c, w ∈ wsX10_shadow := (all_c (P := fun c => ∀ w ∈ c, w ∈ wsX10_shadow) (fun w h => List.mem_cons_of_mem _ (List.mem_append_left _ (List.mem_append_left _ (h)))) (all_c (P := fun c => ∀ w ∈ c, w ∈ wsX10_shadow) (fun w h => List.mem_cons_of_mem _ (List.mem_append_left _ (List.mem_append_right _ (h)))) (all_c (P := fun c => ∀ w ∈ c, w ∈ wsX10_shadow) (fun w h => List.mem_cons_of_mem _ (List.mem_append_right _ (h))) (fun _ h => nomatch h))))
set_option maxRecDepth 20000 in
theorem ggX10_shadow_X10_isPicture : GoodIn wsX10_shadow wsX10_isPicture := goodIn_c chX10_shadow chX10_shadow_in _ [(0, 5), (0, 6), (0, 7), (0, 4), (0, 8), (0, 9), (0, 10), (0, 11), (0, 12)] (by rfl) (by decide +kernel)
set_option maxRecDepth 20000 in
theorem gX10_shadow_X10_isPicture : GoodIn wsX10_shadow (va_wsS RX10 126 yX10_isPicture wsX10_isPicture) := goodIn_app (goodIn_c chX10_shadow chX10_shadow_in _ [(0, 2), (0, 3), (0, 4)] (by rfl) (by decide +kernel)) ggX10_shadow_X10_isPicture
set_option maxRecDepth 20000 in
theorem ggX10_shadow_X10_isIn : GoodIn wsX10_shadow wsX10_isIn := goodIn_r _ [13] (by decide +kernel) (by decide +kernel)
set_option maxRecDepth 20000 in
theorem gX10_shadow_X10_isIn : GoodIn wsX10_shadow (va_wsS RX10 85 yX10_isIn wsX10_isIn) := goodIn_app (goodIn_c chX10_shadow chX10_shadow_in _ [(0, 10), (0, 11), (0, 4)] (by rfl) (by decide +kernel)) ggX10_shadow_X10_isIn
set_option maxRecDepth 20000 in
theorem ggX10_shadow_X10_linesOf : GoodIn wsX10_shadow wsX10_linesOf := goodIn_r _ [16] (by decide +kernel) (by decide +kernel)
set_option maxRecDepth 20000 in
theorem gX10_shadow_X10_linesOf : GoodIn wsX10_shadow (va_wsS RX10 108 yX10_linesOf wsX10_linesOf) := goodIn_app (goodIn_c chX10_shadow chX10_shadow_in _ [(0, 13), (0, 14), (0, 4)] (by rfl) (by decide +kernel)) ggX10_shadow_X10_linesOf
set_option maxRecDepth 20000 in
theorem ggX10_shadow_X10_shadowOf : GoodIn wsX10_shadow wsX10_shadowOf := goodIn_c chX10_shadow chX10_shadow_in _ [(0, 18), (0, 19), (0, 20), (0, 4), (0, 21), (0, 22), (0, 23), (1, 0)] (by rfl) (by decide +kernel)
set_option maxRecDepth 20000 in
theorem gX10_shadow_X10_shadowOf : GoodIn wsX10_shadow (va_wsS RX10 112 yX10_shadowOf wsX10_shadowOf) := goodIn_app (goodIn_c chX10_shadow chX10_shadow_in _ [(0, 16), (0, 17), (0, 4)] (by rfl) (by decide +kernel)) ggX10_shadow_X10_shadowOf
theorem dX10_shadow_0 : decode cX10_shadow 0 = .ok (.aload_n 0, 1) := by decide +kernel
theorem dX10_shadow_1 : decode cX10_shadow 1 = .ok (.iconst 0, 1) := by decide +kernel
theorem dX10_shadow_2 : decode cX10_shadow 2 = .ok (.putfield 79, 3) := by decide +kernel
theorem dX10_shadow_5 : decode cX10_shadow 5 = .ok (.iload_n 1, 1) := by decide +kernel
theorem dX10_shadow_6 : decode cX10_shadow 6 = .ok (.iload_n 2, 1) := by decide +kernel
theorem dX10_shadow_7 : decode cX10_shadow 7 = .ok (.lload_n 3, 1) := by decide +kernel
theorem dX10_shadow_8 : decode cX10_shadow 8 = .ok (.invokestatic 126, 3) := by decide +kernel
theorem dX10_shadow_11 : decode cX10_shadow 11 = .ok (.ifCond .eq 37, 3) := by decide +kernel
theorem dX10_shadow_14 : decode cX10_shadow 14 = .ok (.iload 5, 2) := by decide +kernel
theorem dX10_shadow_16 : decode cX10_shadow 16 = .ok (.i2l, 1) := by decide +kernel
theorem dX10_shadow_17 : decode cX10_shadow 17 = .ok (.lconst 0, 1) := by decide +kernel
theorem dX10_shadow_18 : decode cX10_shadow 18 = .ok (.ldc2_w 116, 3) := by decide +kernel
theorem dX10_shadow_21 : decode cX10_shadow 21 = .ok (.invokestatic 85, 3) := by decide +kernel
theorem dX10_shadow_24 : decode cX10_shadow 24 = .ok (.ifCond .eq 24, 3) := by decide +kernel
theorem dX10_shadow_27 : decode cX10_shadow 27 = .ok (.iload 6, 2) := by decide +kernel
theorem dX10_shadow_29 : decode cX10_shadow 29 = .ok (.ifCond .lt 19, 3) := by decide +kernel
theorem dX10_shadow_32 : decode cX10_shadow 32 = .ok (.iload 6, 2) := by decide +kernel
theorem dX10_shadow_34 : decode cX10_shadow 34 = .ok (.iload_n 1, 1) := by decide +kernel
theorem dX10_shadow_35 : decode cX10_shadow 35 = .ok (.iload_n 2, 1) := by decide +kernel
theorem dX10_shadow_36 : decode cX10_shadow 36 = .ok (.iload 5, 2) := by decide +kernel
theorem dX10_shadow_38 : decode cX10_shadow 38 = .ok (.invokestatic 108, 3) := by decide +kernel
theorem dX10_shadow_41 : decode cX10_shadow 41 = .ok (.if_icmp .ge 7, 3) := by decide +kernel
theorem dX10_shadow_44 : decode cX10_shadow 44 = .ok (.iconst 1, 1) := by decide +kernel
theorem dX10_shadow_45 : decode cX10_shadow 45 = .ok (.goto 4, 3) := by decide +kernel
theorem dX10_shadow_48 : decode cX10_shadow 48 = .ok (.iconst 0, 1) := by decide +kernel
theorem dX10_shadow_49 : decode cX10_shadow 49 = .ok (.istore 7, 2) := by decide +kernel
theorem dX10_shadow_51 : decode cX10_shadow 51 = .ok (.iload 7, 2) := by decide +kernel
theorem dX10_shadow_53 : decode cX10_shadow 53 = .ok (.ifCond .eq 16, 3) := by decide +kernel
theorem dX10_shadow_56 : decode cX10_shadow 56 = .ok (.iload_n 1, 1) := by decide +kernel
theorem dX10_shadow_57 : decode cX10_shadow 57 = .ok (.iload_n 2, 1) := by decide +kernel
theorem dX10_shadow_58 : decode cX10_shadow 58 = .ok (.lload_n 3, 1) := by decide +kernel
theorem dX10_shadow_59 : decode cX10_shadow 59 = .ok (.iload 5, 2) := by decide +kernel
theorem dX10_shadow_61 : decode cX10_shadow 61 = .ok (.iload 6, 2) := by decide +kernel
theorem dX10_shadow_63 : decode cX10_shadow 63 = .ok (.invokestatic 112, 3) := by decide +kernel
theorem dX10_shadow_66 : decode cX10_shadow 66 = .ok (.goto 4, 3) := by decide +kernel
theorem dX10_shadow_69 : decode cX10_shadow 69 = .ok (.iconst (-1), 1) := by decide +kernel
theorem dX10_shadow_70 : decode cX10_shadow 70 = .ok (.ireturn, 1) := by decide +kernel
set_option maxRecDepth 20000 in
theorem ggX10_isEven_X10_one : GoodIn wsX10_isEven wsX10_one := goodIn_r _ [4] (by decide +kernel) (by decide +kernel)
def chX10_isEven : List (List Cond) := [[.methodLink RX10 104 yX10_one, .static yX10_one, .initialized RX10, .code yX10_one cX10_one 3 (some .int)]]
set_option maxRecDepth 20000 in
theorem chX10_isEven_in : ∀ c ∈ chX10_isEven, ∀ w ∈ c, w ∈ wsX10_isEven := (all_c (P := fun c => ∀ w ∈ c, w ∈ wsX10_isEven) (fun w h => List.mem_cons_of_mem _ (h)) (fun _ h => nomatch h))
set_option maxRecDepth 20000 in
theorem gX10_isEven_X10_one : GoodIn wsX10_isEven (va_wsS RX10 104 yX10_one wsX10_one) := goodIn_app (goodIn_c chX10_isEven chX10_isEven_in _ [(0, 0), (0, 1), (0, 2)] (by rfl) (by decide +kernel)) ggX10_isEven_X10_one
theorem dX10_isEven_0 : decode cX10_isEven 0 = .ok (.iload 4, 2) := by decide +kernel
theorem dX10_isEven_2 : decode cX10_isEven 2 = .ok (.ifCond .eq 7, 3) := by decide +kernel
theorem dX10_isEven_5 : decode cX10_isEven 5 = .ok (.iload_n 0, 1) := by decide +kernel
theorem dX10_isEven_6 : decode cX10_isEven 6 = .ok (.goto 4, 3) := by decide +kernel
theorem dX10_isEven_9 : decode cX10_isEven 9 = .ok (.iload_n 1, 1) := by decide +kernel
theorem dX10_isEven_10 : decode cX10_isEven 10 = .ok (.istore 5, 2) := by decide +kernel
theorem dX10_isEven_12 : decode cX10_isEven 12 = .ok (.iload 4, 2) := by decide +kernel
theorem dX10_isEven_14 : decode cX10_isEven 14 = .ok (.ifCond .eq 7, 3) := by decide +kernel
theorem dX10_isEven_17 : decode cX10_isEven 17 = .ok (.iload_n 1, 1) := by decide +kernel
theorem dX10_isEven_18 : decode cX10_isEven 18 = .ok (.goto 4, 3) := by decide +kernel
theorem dX10_isEven_21 : decode cX10_isEven 21 = .ok (.iload_n 0, 1) := by decide +kernel
theorem dX10_isEven_22 : decode cX10_isEven 22 = .ok (.istore 6, 2) := by decide +kernel
theorem dX10_isEven_24 : decode cX10_isEven 24 = .ok (.iconst 1, 1) := by decide +kernel
theorem dX10_isEven_25 : decode cX10_isEven 25 = .ok (.istore 7, 2) := by decide +kernel
theorem dX10_isEven_27 : decode cX10_isEven 27 = .ok (.iconst 0, 1) := by decide +kernel
theorem dX10_isEven_28 : decode cX10_isEven 28 = .ok (.istore 8, 2) := by decide +kernel
theorem dX10_isEven_30 : decode cX10_isEven 30 = .ok (.iload 8, 2) := by decide +kernel
theorem dX10_isEven_32 : decode cX10_isEven 32 = .ok (.iload 5, 2) := by decide +kernel
theorem dX10_isEven_34 : decode cX10_isEven 34 = .ok (.if_icmp .ge 102, 3) := by decide +kernel
theorem dX10_isEven_37 : decode cX10_isEven 37 = .ok (.iconst 0, 1) := by decide +kernel
theorem dX10_isEven_38 : decode cX10_isEven 38 = .ok (.istore 9, 2) := by decide +kernel
theorem dX10_isEven_40 : decode cX10_isEven 40 = .ok (.iconst 0, 1) := by decide +kernel
theorem dX10_isEven_41 : decode cX10_isEven 41 = .ok (.istore 10, 2) := by decide +kernel
theorem dX10_isEven_43 : decode cX10_isEven 43 = .ok (.iconst 0, 1) := by decide +kernel
theorem dX10_isEven_44 : decode cX10_isEven 44 = .ok (.istore 11, 2) := by decide +kernel
theorem dX10_isEven_46 : decode cX10_isEven 46 = .ok (.iload 11, 2) := by decide +kernel
theorem dX10_isEven_48 : decode cX10_isEven 48 = .ok (.iload 6, 2) := by decide +kernel
theorem dX10_isEven_50 : decode cX10_isEven 50 = .ok (.if_icmp .ge 62, 3) := by decide +kernel
theorem dX10_isEven_53 : decode cX10_isEven 53 = .ok (.lload_n 2, 1) := by decide +kernel
theorem dX10_isEven_54 : decode cX10_isEven 54 = .ok (.iload 4, 2) := by decide +kernel
theorem dX10_isEven_56 : decode cX10_isEven 56 = .ok (.ifCond .eq 13, 3) := by decide +kernel
theorem dX10_isEven_59 : decode cX10_isEven 59 = .ok (.iload 11, 2) := by decide +kernel
theorem dX10_isEven_61 : decode cX10_isEven 61 = .ok (.iload_n 0, 1) := by decide +kernel
theorem dX10_isEven_62 : decode cX10_isEven 62 = .ok (.imul, 1) := by decide +kernel
theorem dX10_isEven_63 : decode cX10_isEven 63 = .ok (.iload 8, 2) := by decide +kernel
theorem dX10_isEven_65 : decode cX10_isEven 65 = .ok (.iadd, 1) := by decide +kernel
theorem dX10_isEven_66 : decode cX10_isEven 66 = .ok (.goto 10, 3) := by decide +kernel
theorem dX10_isEven_69 : decode cX10_isEven 69 = .ok (.iload 8, 2) := by decide +kernel
theorem dX10_isEven_71 : decode cX10_isEven 71 = .ok (.iload_n 0, 1) := by decide +kernel
theorem dX10_isEven_72 : decode cX10_isEven 72 = .ok (.imul, 1) := by decide +kernel
theorem dX10_isEven_73 : decode cX10_isEven 73 = .ok (.iload 11, 2) := by decide +kernel
theorem dX10_isEven_75 : decode cX10_isEven 75 = .ok (.iadd, 1) := by decide +kernel
theorem dX10_isEven_76 : decode cX10_isEven 76 = .ok (.invokestatic 104, 3) := by decide +kernel
theorem dX10_isEven_79 : decode cX10_isEven 79 = .ok (.istore 12, 2) := by decide +kernel
theorem dX10_isEven_81 : decode cX10_isEven 81 = .ok (.iload 9, 2) := by decide +kernel
theorem dX10_isEven_83 : decode cX10_isEven 83 = .ok (.iload 12, 2) := by decide +kernel
theorem dX10_isEven_85 : decode cX10_isEven 85 = .ok (.iconst 1, 1) := by decide +kernel
theorem dX10_isEven_86 : decode cX10_isEven 86 = .ok (.if_icmp .ne 12, 3) := by decide +kernel
theorem dX10_isEven_89 : decode cX10_isEven 89 = .ok (.iload 10, 2) := by decide +kernel
theorem dX10_isEven_91 : decode cX10_isEven 91 = .ok (.ifCond .ne 7, 3) := by decide +kernel
theorem dX10_isEven_94 : decode cX10_isEven 94 = .ok (.iconst 1, 1) := by decide +kernel
theorem dX10_isEven_95 : decode cX10_isEven 95 = .ok (.goto 4, 3) := by decide +kernel
theorem dX10_isEven_98 : decode cX10_isEven 98 = .ok (.iconst 0, 1) := by decide +kernel
theorem dX10_isEven_99 : decode cX10_isEven 99 = .ok (.iadd, 1) := by decide +kernel
theorem dX10_isEven_100 : decode cX10_isEven 100 = .ok (.istore 9, 2) := by decide +kernel
theorem dX10_isEven_102 : decode cX10_isEven 102 = .ok (.iload 12, 2) := by decide +kernel
theorem dX10_isEven_104 : decode cX10_isEven 104 = .ok (.istore 10, 2) := by decide +kernel
theorem dX10_isEven_106 : decode cX10_isEven 106 = .ok (.iinc 11 1, 3) := by decide +kernel
theorem dX10_isEven_109 : decode cX10_isEven 109 = .ok (.goto (-63), 3) := by decide +kernel
theorem dX10_isEven_112 : decode cX10_isEven 112 = .ok (.iload 7, 2) := by decide +kernel
theorem dX10_isEven_114 : decode cX10_isEven 114 = .ok (.ifCond .eq 13, 3) := by decide +kernel
theorem dX10_isEven_117 : decode cX10_isEven 117 = .ok (.iload 9, 2) := by decide +kernel
theorem dX10_isEven_119 : decode cX10_isEven 119 = .ok (.iconst 2, 1) := by decide +kernel
theorem dX10_isEven_120 : decode cX10_isEven 120 = .ok (.if_icmp .ge 7, 3) := by decide +kernel
theorem dX10_isEven_123 : decode cX10_isEven 123 = .ok (.iconst 1, 1) := by decide +kernel
theorem dX10_isEven_124 : decode cX10_isEven 124 = .ok (.goto 4, 3) := by decide +kernel
theorem dX10_isEven_127 : decode cX10_isEven 127 = .ok (.iconst 0, 1) := by decide +kernel
theorem dX10_isEven_128 : decode cX10_isEven 128 = .ok (.istore 7, 2) := by decide +kernel
theorem dX10_isEven_130 : decode cX10_isEven 130 = .ok (.iinc 8 1, 3) := by decide +kernel
theorem dX10_isEven_133 : decode cX10_isEven 133 = .ok (.goto (-103), 3) := by decide +kernel
theorem dX10_isEven_136 : decode cX10_isEven 136 = .ok (.iload 7, 2) := by decide +kernel
theorem dX10_isEven_138 : decode cX10_isEven 138 = .ok (.ireturn, 1) := by decide +kernel
