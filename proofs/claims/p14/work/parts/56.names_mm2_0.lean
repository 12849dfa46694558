abbrev cX10_placeOf : ByteArray := prog_12_method_44_code
def yX10_placeOf : MethodName := ⟨RX10, "placeOf", "(J)I"⟩
abbrev cX10_far : ByteArray := prog_12_method_45_code
def yX10_far : MethodName := ⟨RX10, "far", "(IIJJ)I"⟩
abbrev cX10_meetAll : ByteArray := prog_12_method_46_code
def yX10_meetAll : MethodName := ⟨RX10, "meetAll", "(IIIJ)I"⟩
abbrev cX10_meet : ByteArray := prog_12_method_47_code
def yX10_meet : MethodName := ⟨RX10, "meet", "(JIJ)I"⟩
abbrev cX10_ghosts : ByteArray := prog_12_method_62_code
def yX10_ghosts : MethodName := ⟨RX10, "ghosts", "(III)I"⟩
abbrev cX10_weightOf : ByteArray := prog_12_method_64_code
def yX10_weightOf : MethodName := ⟨RX10, "weightOf", "(I)I"⟩
abbrev cX10_keep : ByteArray := prog_12_method_65_code
def yX10_keep : MethodName := ⟨RX10, "keep", "(IIIJ)I"⟩
abbrev cX10_make : ByteArray := prog_12_method_66_code
def yX10_make : MethodName := ⟨RX10, "make", "(III)I"⟩
abbrev cX10_element : ByteArray := prog_12_method_67_code
def yX10_element : MethodName := ⟨RX10, "element", "(II)J"⟩
abbrev cX10_hasPlaces : ByteArray := prog_12_method_68_code
def yX10_hasPlaces : MethodName := ⟨RX10, "hasPlaces", "(III)Z"⟩
abbrev cX10_copy : ByteArray := prog_12_method_69_code
def yX10_copy : MethodName := ⟨RX10, "copy", "(IIIII)I"⟩
abbrev cX10_layer : ByteArray := prog_12_method_70_code
def yX10_layer : MethodName := ⟨RX10, "layer", "(II)J"⟩
abbrev cX10_weight : ByteArray := prog_12_method_71_code
def yX10_weight : MethodName := ⟨RX10, "weight", "(I)I"⟩
abbrev cX10_toss : ByteArray := prog_12_method_72_code
def yX10_toss : MethodName := ⟨RX10, "toss", "(I)I"⟩
def wsX10_placeOf : List Cond := .code yX10_placeOf cX10_placeOf 4 (some .int) :: ([.constantLong RX10 208 (-7046029254386353131), .fieldLink RX10 49 "ShadowBenchModel" "place" "[I", .fieldLink RX10 41 "ShadowBenchModel" "row" "[J", .constant RX10 48 (65536)] ++ wsX100)
def wsX10_meet : List Cond := .code yX10_meet cX10_meet 7 (some .int) :: ([.fieldLink RX10 49 "ShadowBenchModel" "place" "[I", .fieldLink RX10 217 "ShadowBenchModel" "many" "I", .fieldLink RX10 41 "ShadowBenchModel" "row" "[J", .fieldLink RX10 45 "ShadowBenchModel" "steps" "[I", .methodLink RX10 214 yX10_placeOf, .instanceMethod yX10_placeOf, .selects RX10 yX10_placeOf yX10_placeOf, .initialized RX10, .code yX10_placeOf cX10_placeOf 4 (some .int), .constantLong RX10 208 (-7046029254386353131), .constant RX10 48 (65536)] ++ wsX100)
def wsX10_meetAll : List Cond := .code yX10_meetAll cX10_meetAll 17 (some .int) :: ([.fieldLink RX10 41 "ShadowBenchModel" "row" "[J", .fieldLink RX10 45 "ShadowBenchModel" "steps" "[I", .methodLink RX10 104 yX10_one, .static yX10_one, .initialized RX10, .code yX10_one cX10_one 3 (some .int), .methodLink RX10 224 yX10_meet, .instanceMethod yX10_meet, .selects RX10 yX10_meet yX10_meet, .code yX10_meet cX10_meet 7 (some .int), .fieldLink RX10 49 "ShadowBenchModel" "place" "[I", .fieldLink RX10 217 "ShadowBenchModel" "many" "I", .methodLink RX10 214 yX10_placeOf, .instanceMethod yX10_placeOf, .selects RX10 yX10_placeOf yX10_placeOf, .code yX10_placeOf cX10_placeOf 4 (some .int), .constantLong RX10 208 (-7046029254386353131), .constant RX10 48 (65536)] ++ wsX100)
def wsX10_far_r1 : List Cond := [Cond.fieldLink RX10 79 "ShadowBenchModel" "thrown" "I", Cond.constant RX10 48 (65536), Cond.fieldLink RX10 49 "ShadowBenchModel" "place" "[I", Cond.fieldLink RX10 41 "ShadowBenchModel" "row" "[J", Cond.fieldLink RX10 45 "ShadowBenchModel" "steps" "[I", Cond.fieldLink RX10 217 "ShadowBenchModel" "many" "I", Cond.methodLink RX10 126 yX10_isPicture, Cond.static yX10_isPicture, Cond.initialized RX10, Cond.code yX10_isPicture cX10_isPicture 4 (some .boolean), Cond.methodLink RX10 89 yX10_isBoard, Cond.static yX10_isBoard, Cond.code yX10_isBoard cX10_isBoard 2 (some .boolean), Cond.constantLong RX10 83 (6), Cond.methodLink RX10 85 yX10_isIn, Cond.static yX10_isIn, Cond.code yX10_isIn cX10_isIn 6 (some .boolean), Cond.methodLink RX10 210 yX10_areAlike, Cond.static yX10_areAlike, Cond.code yX10_areAlike cX10_areAlike 9 (some .boolean), Cond.methodLink RX10 108 yX10_linesOf, Cond.static yX10_linesOf, Cond.code yX10_linesOf cX10_linesOf 3 (some .int), Cond.methodLink RX10 112 yX10_shadowOf]
def wsX10_far_r2 : List Cond := [Cond.static yX10_shadowOf, Cond.code yX10_shadowOf cX10_shadowOf 8 (some .int), Cond.methodLink RX10 100 yX10_lineOf, Cond.static yX10_lineOf, Cond.code yX10_lineOf cX10_lineOf 4 (some .int), Cond.methodLink RX10 104 yX10_one, Cond.static yX10_one, Cond.code yX10_one cX10_one 3 (some .int), Cond.methodLink RX10 214 yX10_placeOf, Cond.instanceMethod yX10_placeOf, Cond.selects RX10 yX10_placeOf yX10_placeOf, Cond.code yX10_placeOf cX10_placeOf 4 (some .int), Cond.constantLong RX10 208 (-7046029254386353131), Cond.methodLink RX10 220 yX10_meetAll, Cond.instanceMethod yX10_meetAll, Cond.selects RX10 yX10_meetAll yX10_meetAll, Cond.code yX10_meetAll cX10_meetAll 17 (some .int), Cond.methodLink RX10 224 yX10_meet, Cond.instanceMethod yX10_meet, Cond.selects RX10 yX10_meet yX10_meet, Cond.code yX10_meet cX10_meet 7 (some .int)]
def wsX10_far : List Cond := .code yX10_far cX10_far 9 (some .int) :: ((wsX10_far_r1 ++ wsX10_far_r2) ++ wsX100)
def wsX10_ghosts : List Cond := .code yX10_ghosts cX10_ghosts 4 (some .int) :: ([.fieldLink RX10 79 "ShadowBenchModel" "thrown" "I", .constantLong RX10 228 (15), .methodLink RX10 85 yX10_isIn, .static yX10_isIn, .initialized RX10, .code yX10_isIn cX10_isIn 6 (some .boolean), .methodLink RX10 89 yX10_isBoard, .static yX10_isBoard, .code yX10_isBoard cX10_isBoard 2 (some .boolean), .constantLong RX10 83 (6), .methodLink RX10 256 yX10_placesOf, .instanceMethod yX10_placesOf, .selects RX10 yX10_placesOf yX10_placesOf, .code yX10_placesOf cX10_placesOf 8 (some .int), .methodLink RX10 242 yX10_across, .static yX10_across, .code yX10_across cX10_across 1 (some .int)] ++ wsX100)
def wsX10_weightOf : List Cond := .code yX10_weightOf cX10_weightOf 5 (some .int) :: ([.fieldLink RX10 13 "ShadowBenchModel" "wide" "[I", .fieldLink RX10 16 "ShadowBenchModel" "high" "[I", .fieldLink RX10 29 "ShadowBenchModel" "weight" "[I", .fieldLink RX10 7 "ShadowBenchModel" "kind" "[I"] ++ wsX100)
def wsX10_keep_r1 : List Cond := [Cond.fieldLink RX10 79 "ShadowBenchModel" "thrown" "I", Cond.fieldLink RX10 13 "ShadowBenchModel" "wide" "[I", Cond.fieldLink RX10 16 "ShadowBenchModel" "high" "[I", Cond.fieldLink RX10 61 "ShadowBenchModel" "shelf" "[I", Cond.fieldLink RX10 64 "ShadowBenchModel" "shelfSize" "[I", Cond.fieldLink RX10 67 "ShadowBenchModel" "shelfWeight" "[I", Cond.fieldLink RX10 70 "ShadowBenchModel" "shelfFailure" "[I", Cond.fieldLink RX10 7 "ShadowBenchModel" "kind" "[I", Cond.fieldLink RX10 73 "ShadowBenchModel" "shelfRow" "[J", Cond.fieldLink RX10 19 "ShadowBenchModel" "sums" "[I", Cond.methodLink RX10 259 yX10_isShelf, Cond.static yX10_isShelf, Cond.initialized RX10, Cond.code yX10_isShelf cX10_isShelf 1 (some .boolean), Cond.methodLink RX10 96 yX10_isJob, Cond.instanceMethod yX10_isJob, Cond.selects RX10 yX10_isJob yX10_isJob, Cond.code yX10_isJob cX10_isJob 2 (some .boolean), Cond.fieldLink RX10 93 "ShadowBenchModel" "jobs" "I", Cond.methodLink RX10 126 yX10_isPicture, Cond.static yX10_isPicture, Cond.code yX10_isPicture cX10_isPicture 4 (some .boolean), Cond.methodLink RX10 89 yX10_isBoard, Cond.static yX10_isBoard]
def wsX10_keep_r2 : List Cond := [Cond.code yX10_isBoard cX10_isBoard 2 (some .boolean), Cond.constantLong RX10 83 (6), Cond.methodLink RX10 85 yX10_isIn, Cond.static yX10_isIn, Cond.code yX10_isIn cX10_isIn 6 (some .boolean), Cond.methodLink RX10 262 yX10_weightOf, Cond.instanceMethod yX10_weightOf, Cond.selects RX10 yX10_weightOf yX10_weightOf, Cond.code yX10_weightOf cX10_weightOf 5 (some .int), Cond.fieldLink RX10 29 "ShadowBenchModel" "weight" "[I", Cond.methodLink RX10 104 yX10_one, Cond.static yX10_one, Cond.code yX10_one cX10_one 3 (some .int)]
def wsX10_keep : List Cond := .code yX10_keep cX10_keep 8 (some .int) :: ((wsX10_keep_r1 ++ wsX10_keep_r2) ++ wsX100)
def wsX10_make : List Cond := .code yX10_make cX10_make 5 (some .int) :: ([.fieldLink RX10 79 "ShadowBenchModel" "thrown" "I", .constantLong RX10 116 (3), .constantLong RX10 265 (4), .fieldLink RX10 61 "ShadowBenchModel" "shelf" "[I", .fieldLink RX10 64 "ShadowBenchModel" "shelfSize" "[I", .fieldLink RX10 73 "ShadowBenchModel" "shelfRow" "[J", .methodLink RX10 259 yX10_isShelf, .static yX10_isShelf, .initialized RX10, .code yX10_isShelf cX10_isShelf 1 (some .boolean), .methodLink RX10 85 yX10_isIn, .static yX10_isIn, .code yX10_isIn cX10_isIn 6 (some .boolean)] ++ wsX100)
def wsX10_element : List Cond := .code yX10_element cX10_element 4 (some .long) :: ([.fieldLink RX10 61 "ShadowBenchModel" "shelf" "[I", .fieldLink RX10 64 "ShadowBenchModel" "shelfSize" "[I", .fieldLink RX10 79 "ShadowBenchModel" "thrown" "I", .fieldLink RX10 73 "ShadowBenchModel" "shelfRow" "[J", .methodLink RX10 259 yX10_isShelf, .static yX10_isShelf, .initialized RX10, .code yX10_isShelf cX10_isShelf 1 (some .boolean), .methodLink RX10 85 yX10_isIn, .static yX10_isIn, .code yX10_isIn cX10_isIn 6 (some .boolean)] ++ wsX100)
def wsX10_hasPlaces : List Cond := .code yX10_hasPlaces cX10_hasPlaces 4 (some .boolean) :: ([.fieldLink RX10 64 "ShadowBenchModel" "shelfSize" "[I"] ++ wsX100)
def wsX10_copy : List Cond := .code yX10_copy cX10_copy 7 (some .int) :: ([.fieldLink RX10 79 "ShadowBenchModel" "thrown" "I", .fieldLink RX10 61 "ShadowBenchModel" "shelf" "[I", .fieldLink RX10 76 "ShadowBenchModel" "between" "[J", .fieldLink RX10 73 "ShadowBenchModel" "shelfRow" "[J", .methodLink RX10 259 yX10_isShelf, .static yX10_isShelf, .initialized RX10, .code yX10_isShelf cX10_isShelf 1 (some .boolean), .methodLink RX10 267 yX10_hasPlaces, .instanceMethod yX10_hasPlaces, .selects RX10 yX10_hasPlaces yX10_hasPlaces, .code yX10_hasPlaces cX10_hasPlaces 4 (some .boolean), .fieldLink RX10 64 "ShadowBenchModel" "shelfSize" "[I"] ++ wsX100)
def wsX10_layer : List Cond := .code yX10_layer cX10_layer 8 (some .long) :: ([.fieldLink RX10 79 "ShadowBenchModel" "thrown" "I", .constantLong RX10 250 (8), .constantLong RX10 185 (-1), .fieldLink RX10 61 "ShadowBenchModel" "shelf" "[I", .constantLong RX10 270 (-11), .constantLong RX10 272 (-12), .fieldLink RX10 64 "ShadowBenchModel" "shelfSize" "[I", .constantLong RX10 274 (-13), .fieldLink RX10 73 "ShadowBenchModel" "shelfRow" "[J", .constantLong RX10 276 (9), .constantLong RX10 189 (-2), .methodLink RX10 259 yX10_isShelf, .static yX10_isShelf, .initialized RX10, .code yX10_isShelf cX10_isShelf 1 (some .boolean), .methodLink RX10 85 yX10_isIn, .static yX10_isIn, .code yX10_isIn cX10_isIn 6 (some .boolean)] ++ wsX100)
def wsX10_weight : List Cond := .code yX10_weight cX10_weight 2 (some .int) :: ([.fieldLink RX10 61 "ShadowBenchModel" "shelf" "[I", .fieldLink RX10 79 "ShadowBenchModel" "thrown" "I", .fieldLink RX10 67 "ShadowBenchModel" "shelfWeight" "[I", .methodLink RX10 259 yX10_isShelf, .static yX10_isShelf, .initialized RX10, .code yX10_isShelf cX10_isShelf 1 (some .boolean)] ++ wsX100)
def wsX10_toss : List Cond := .code yX10_toss cX10_toss 2 (some .int) :: ([.fieldLink RX10 79 "ShadowBenchModel" "thrown" "I", .fieldLink RX10 61 "ShadowBenchModel" "shelf" "[I", .fieldLink RX10 70 "ShadowBenchModel" "shelfFailure" "[I", .methodLink RX10 259 yX10_isShelf, .static yX10_isShelf, .initialized RX10, .code yX10_isShelf cX10_isShelf 1 (some .boolean)] ++ wsX100)
theorem dX10_placeOf_0 : decode cX10_placeOf 0 = .ok (.lload_n 1, 1) := by decide +kernel
theorem dX10_placeOf_1 : decode cX10_placeOf 1 = .ok (.ldc2_w 208, 3) := by decide +kernel
theorem dX10_placeOf_4 : decode cX10_placeOf 4 = .ok (.lmul, 1) := by decide +kernel
theorem dX10_placeOf_5 : decode cX10_placeOf 5 = .ok (.bipush 48, 2) := by decide +kernel
theorem dX10_placeOf_7 : decode cX10_placeOf 7 = .ok (.lushr, 1) := by decide +kernel
theorem dX10_placeOf_8 : decode cX10_placeOf 8 = .ok (.l2i, 1) := by decide +kernel
theorem dX10_placeOf_9 : decode cX10_placeOf 9 = .ok (.istore_n 3, 1) := by decide +kernel
theorem dX10_placeOf_10 : decode cX10_placeOf 10 = .ok (.aload_n 0, 1) := by decide +kernel
theorem dX10_placeOf_11 : decode cX10_placeOf 11 = .ok (.getfield 49, 3) := by decide +kernel
theorem dX10_placeOf_14 : decode cX10_placeOf 14 = .ok (.iload_n 3, 1) := by decide +kernel
theorem dX10_placeOf_15 : decode cX10_placeOf 15 = .ok (.iaload, 1) := by decide +kernel
theorem dX10_placeOf_16 : decode cX10_placeOf 16 = .ok (.ifCond .lt 29, 3) := by decide +kernel
theorem dX10_placeOf_19 : decode cX10_placeOf 19 = .ok (.aload_n 0, 1) := by decide +kernel
theorem dX10_placeOf_20 : decode cX10_placeOf 20 = .ok (.getfield 41, 3) := by decide +kernel
theorem dX10_placeOf_23 : decode cX10_placeOf 23 = .ok (.aload_n 0, 1) := by decide +kernel
theorem dX10_placeOf_24 : decode cX10_placeOf 24 = .ok (.getfield 49, 3) := by decide +kernel
theorem dX10_placeOf_27 : decode cX10_placeOf 27 = .ok (.iload_n 3, 1) := by decide +kernel
theorem dX10_placeOf_28 : decode cX10_placeOf 28 = .ok (.iaload, 1) := by decide +kernel
theorem dX10_placeOf_29 : decode cX10_placeOf 29 = .ok (.laload, 1) := by decide +kernel
theorem dX10_placeOf_30 : decode cX10_placeOf 30 = .ok (.lload_n 1, 1) := by decide +kernel
theorem dX10_placeOf_31 : decode cX10_placeOf 31 = .ok (.lcmp, 1) := by decide +kernel
theorem dX10_placeOf_32 : decode cX10_placeOf 32 = .ok (.ifCond .eq 13, 3) := by decide +kernel
theorem dX10_placeOf_35 : decode cX10_placeOf 35 = .ok (.iload_n 3, 1) := by decide +kernel
theorem dX10_placeOf_36 : decode cX10_placeOf 36 = .ok (.iconst 1, 1) := by decide +kernel
theorem dX10_placeOf_37 : decode cX10_placeOf 37 = .ok (.iadd, 1) := by decide +kernel
theorem dX10_placeOf_38 : decode cX10_placeOf 38 = .ok (.ldc 48, 2) := by decide +kernel
theorem dX10_placeOf_40 : decode cX10_placeOf 40 = .ok (.irem, 1) := by decide +kernel
theorem dX10_placeOf_41 : decode cX10_placeOf 41 = .ok (.istore_n 3, 1) := by decide +kernel
theorem dX10_placeOf_42 : decode cX10_placeOf 42 = .ok (.goto (-32), 3) := by decide +kernel
theorem dX10_placeOf_45 : decode cX10_placeOf 45 = .ok (.iload_n 3, 1) := by decide +kernel
theorem dX10_placeOf_46 : decode cX10_placeOf 46 = .ok (.ireturn, 1) := by decide +kernel
def chX10_far : List (List Cond) := [wsX10_far_r1, wsX10_far_r2, wsX100]
set_option maxRecDepth 20000 in
theorem chX10_far_in : ∀ c ∈ chX10_far, ∀ w ∈ c, w ∈ wsX10_far := (all_c (P := fun c => ∀ w ∈ c, w ∈ wsX10_far) (fun w h => List.mem_cons_of_mem _ (List.mem_append_left _ (List.mem_append_left _ (h)))) (all_c (P := fun c => ∀ w ∈ c, w ∈ wsX10_far) (fun w h => List.mem_cons_of_mem _ (List.mem_append_left _ (List.mem_append_right _ (h)))) (all_c (P := fun c => ∀ w ∈ c, w ∈ wsX10_far) (fun w h => List.mem_cons_of_mem _ (List.mem_append_right _ (h))) (fun _ h => nomatch h))))
set_option maxRecDepth 20000 in
theorem ggX10_far_X10_isPicture : GoodIn wsX10_far wsX10_isPicture := goodIn_c chX10_far chX10_far_in _ [(0, 9), (0, 10), (0, 11), (0, 8), (0, 12), (0, 13), (0, 14), (0, 15), (0, 16)] (by rfl) (by decide +kernel)
set_option maxRecDepth 20000 in
theorem gX10_far_X10_isPicture : GoodIn wsX10_far (va_wsS RX10 126 yX10_isPicture wsX10_isPicture) := goodIn_app (goodIn_c chX10_far chX10_far_in _ [(0, 6), (0, 7), (0, 8)] (by rfl) (by decide +kernel)) ggX10_far_X10_isPicture
set_option maxRecDepth 20000 in
theorem ggX10_far_X10_areAlike : GoodIn wsX10_far wsX10_areAlike := goodIn_c chX10_far chX10_far_in _ [(0, 19), (0, 20), (0, 21), (0, 8), (0, 22), (0, 23), (1, 0), (1, 1), (1, 2), (1, 3), (1, 4), (1, 5), (1, 6), (1, 7)] (by rfl) (by decide +kernel)
set_option maxRecDepth 20000 in
theorem gX10_far_X10_areAlike : GoodIn wsX10_far (va_wsS RX10 210 yX10_areAlike wsX10_areAlike) := goodIn_app (goodIn_c chX10_far chX10_far_in _ [(0, 17), (0, 18), (0, 8)] (by rfl) (by decide +kernel)) ggX10_far_X10_areAlike
set_option maxRecDepth 20000 in
theorem ggX10_far_X10_placeOf : GoodIn wsX10_far wsX10_placeOf := goodIn_ca (goodIn_c chX10_far chX10_far_in _ [(1, 11), (1, 12), (0, 2), (0, 3), (0, 1)] (by rfl) (by decide +kernel)) (goodIn_sub (fun _ h => List.mem_cons_of_mem _ (List.mem_append_right _ (h))) (by decide +kernel))
set_option maxRecDepth 20000 in
theorem gX10_far_X10_placeOf : GoodIn wsX10_far (wsV RX10 214 RX10 yX10_placeOf wsX10_placeOf) := goodIn_app (goodIn_c chX10_far chX10_far_in _ [(1, 8), (1, 9), (1, 10), (0, 8)] (by rfl) (by decide +kernel)) ggX10_far_X10_placeOf
set_option maxRecDepth 20000 in
theorem ggX10_far_X10_meetAll : GoodIn wsX10_far wsX10_meetAll := goodIn_ca (goodIn_c chX10_far chX10_far_in _ [(1, 16), (0, 3), (0, 4), (1, 5), (1, 6), (0, 8), (1, 7), (1, 17), (1, 18), (1, 19), (1, 20), (0, 2), (0, 5), (1, 8), (1, 9), (1, 10), (1, 11), (1, 12), (0, 1)] (by rfl) (by decide +kernel)) (goodIn_sub (fun _ h => List.mem_cons_of_mem _ (List.mem_append_right _ (h))) (by decide +kernel))
set_option maxRecDepth 20000 in
theorem gX10_far_X10_meetAll : GoodIn wsX10_far (wsV RX10 220 RX10 yX10_meetAll wsX10_meetAll) := goodIn_app (goodIn_c chX10_far chX10_far_in _ [(1, 13), (1, 14), (1, 15), (0, 8)] (by rfl) (by decide +kernel)) ggX10_far_X10_meetAll
theorem dX10_far_0 : decode cX10_far 0 = .ok (.aload_n 0, 1) := by decide +kernel
theorem dX10_far_1 : decode cX10_far 1 = .ok (.iconst 0, 1) := by decide +kernel
theorem dX10_far_2 : decode cX10_far 2 = .ok (.putfield 79, 3) := by decide +kernel
theorem dX10_far_5 : decode cX10_far 5 = .ok (.iload_n 1, 1) := by decide +kernel
theorem dX10_far_6 : decode cX10_far 6 = .ok (.iload_n 2, 1) := by decide +kernel
theorem dX10_far_7 : decode cX10_far 7 = .ok (.lload_n 3, 1) := by decide +kernel
theorem dX10_far_8 : decode cX10_far 8 = .ok (.invokestatic 126, 3) := by decide +kernel
theorem dX10_far_11 : decode cX10_far 11 = .ok (.ifCond .eq 13, 3) := by decide +kernel
theorem dX10_far_14 : decode cX10_far 14 = .ok (.iload_n 1, 1) := by decide +kernel
theorem dX10_far_15 : decode cX10_far 15 = .ok (.iload_n 2, 1) := by decide +kernel
theorem dX10_far_16 : decode cX10_far 16 = .ok (.lload 5, 2) := by decide +kernel
theorem dX10_far_18 : decode cX10_far 18 = .ok (.invokestatic 126, 3) := by decide +kernel
theorem dX10_far_21 : decode cX10_far 21 = .ok (.ifCond .ne 5, 3) := by decide +kernel
theorem dX10_far_24 : decode cX10_far 24 = .ok (.iconst (-1), 1) := by decide +kernel
theorem dX10_far_25 : decode cX10_far 25 = .ok (.ireturn, 1) := by decide +kernel
theorem dX10_far_26 : decode cX10_far 26 = .ok (.iload_n 1, 1) := by decide +kernel
theorem dX10_far_27 : decode cX10_far 27 = .ok (.iload_n 2, 1) := by decide +kernel
theorem dX10_far_28 : decode cX10_far 28 = .ok (.lload_n 3, 1) := by decide +kernel
theorem dX10_far_29 : decode cX10_far 29 = .ok (.lload 5, 2) := by decide +kernel
theorem dX10_far_31 : decode cX10_far 31 = .ok (.iconst 0, 1) := by decide +kernel
theorem dX10_far_32 : decode cX10_far 32 = .ok (.invokestatic 210, 3) := by decide +kernel
theorem dX10_far_35 : decode cX10_far 35 = .ok (.ifCond .eq 15, 3) := by decide +kernel
theorem dX10_far_38 : decode cX10_far 38 = .ok (.iload_n 1, 1) := by decide +kernel
theorem dX10_far_39 : decode cX10_far 39 = .ok (.iload_n 2, 1) := by decide +kernel
theorem dX10_far_40 : decode cX10_far 40 = .ok (.lload_n 3, 1) := by decide +kernel
theorem dX10_far_41 : decode cX10_far 41 = .ok (.lload 5, 2) := by decide +kernel
theorem dX10_far_43 : decode cX10_far 43 = .ok (.iconst 1, 1) := by decide +kernel
theorem dX10_far_44 : decode cX10_far 44 = .ok (.invokestatic 210, 3) := by decide +kernel
theorem dX10_far_47 : decode cX10_far 47 = .ok (.ifCond .ne 6, 3) := by decide +kernel
theorem dX10_far_50 : decode cX10_far 50 = .ok (.bipush (-2), 2) := by decide +kernel
theorem dX10_far_52 : decode cX10_far 52 = .ok (.ireturn, 1) := by decide +kernel
theorem dX10_far_53 : decode cX10_far 53 = .ok (.lload_n 3, 1) := by decide +kernel
theorem dX10_far_54 : decode cX10_far 54 = .ok (.lload 5, 2) := by decide +kernel
theorem dX10_far_56 : decode cX10_far 56 = .ok (.lcmp, 1) := by decide +kernel
theorem dX10_far_57 : decode cX10_far 57 = .ok (.ifCond .ne 5, 3) := by decide +kernel
theorem dX10_far_60 : decode cX10_far 60 = .ok (.iconst 0, 1) := by decide +kernel
theorem dX10_far_61 : decode cX10_far 61 = .ok (.ireturn, 1) := by decide +kernel
theorem dX10_far_62 : decode cX10_far 62 = .ok (.iconst 0, 1) := by decide +kernel
theorem dX10_far_63 : decode cX10_far 63 = .ok (.istore 7, 2) := by decide +kernel
theorem dX10_far_65 : decode cX10_far 65 = .ok (.iload 7, 2) := by decide +kernel
theorem dX10_far_67 : decode cX10_far 67 = .ok (.ldc 48, 2) := by decide +kernel
theorem dX10_far_69 : decode cX10_far 69 = .ok (.if_icmp .ge 17, 3) := by decide +kernel
theorem dX10_far_72 : decode cX10_far 72 = .ok (.aload_n 0, 1) := by decide +kernel
theorem dX10_far_73 : decode cX10_far 73 = .ok (.getfield 49, 3) := by decide +kernel
theorem dX10_far_76 : decode cX10_far 76 = .ok (.iload 7, 2) := by decide +kernel
theorem dX10_far_78 : decode cX10_far 78 = .ok (.iconst (-1), 1) := by decide +kernel
theorem dX10_far_79 : decode cX10_far 79 = .ok (.iastore, 1) := by decide +kernel
theorem dX10_far_80 : decode cX10_far 80 = .ok (.iinc 7 1, 3) := by decide +kernel
theorem dX10_far_83 : decode cX10_far 83 = .ok (.goto (-18), 3) := by decide +kernel
theorem dX10_far_86 : decode cX10_far 86 = .ok (.aload_n 0, 1) := by decide +kernel
theorem dX10_far_87 : decode cX10_far 87 = .ok (.getfield 41, 3) := by decide +kernel
theorem dX10_far_90 : decode cX10_far 90 = .ok (.iconst 0, 1) := by decide +kernel
theorem dX10_far_91 : decode cX10_far 91 = .ok (.lload_n 3, 1) := by decide +kernel
theorem dX10_far_92 : decode cX10_far 92 = .ok (.lastore, 1) := by decide +kernel
theorem dX10_far_93 : decode cX10_far 93 = .ok (.aload_n 0, 1) := by decide +kernel
theorem dX10_far_94 : decode cX10_far 94 = .ok (.getfield 45, 3) := by decide +kernel
theorem dX10_far_97 : decode cX10_far 97 = .ok (.iconst 0, 1) := by decide +kernel
theorem dX10_far_98 : decode cX10_far 98 = .ok (.iconst 0, 1) := by decide +kernel
theorem dX10_far_99 : decode cX10_far 99 = .ok (.iastore, 1) := by decide +kernel
theorem dX10_far_100 : decode cX10_far 100 = .ok (.aload_n 0, 1) := by decide +kernel
theorem dX10_far_101 : decode cX10_far 101 = .ok (.getfield 49, 3) := by decide +kernel
theorem dX10_far_104 : decode cX10_far 104 = .ok (.aload_n 0, 1) := by decide +kernel
theorem dX10_far_105 : decode cX10_far 105 = .ok (.lload_n 3, 1) := by decide +kernel
theorem dX10_far_106 : decode cX10_far 106 = .ok (.invokevirtual 214, 3) := by decide +kernel
theorem dX10_far_109 : decode cX10_far 109 = .ok (.iconst 0, 1) := by decide +kernel
theorem dX10_far_110 : decode cX10_far 110 = .ok (.iastore, 1) := by decide +kernel
theorem dX10_far_111 : decode cX10_far 111 = .ok (.aload_n 0, 1) := by decide +kernel
theorem dX10_far_112 : decode cX10_far 112 = .ok (.iconst 1, 1) := by decide +kernel
theorem dX10_far_113 : decode cX10_far 113 = .ok (.putfield 217, 3) := by decide +kernel
theorem dX10_far_116 : decode cX10_far 116 = .ok (.iconst 0, 1) := by decide +kernel
theorem dX10_far_117 : decode cX10_far 117 = .ok (.istore 7, 2) := by decide +kernel
theorem dX10_far_119 : decode cX10_far 119 = .ok (.iconst 0, 1) := by decide +kernel
theorem dX10_far_120 : decode cX10_far 120 = .ok (.istore 8, 2) := by decide +kernel
theorem dX10_far_122 : decode cX10_far 122 = .ok (.iload 8, 2) := by decide +kernel
theorem dX10_far_124 : decode cX10_far 124 = .ok (.aload_n 0, 1) := by decide +kernel
theorem dX10_far_125 : decode cX10_far 125 = .ok (.getfield 217, 3) := by decide +kernel
theorem dX10_far_128 : decode cX10_far 128 = .ok (.if_icmp .ge 26, 3) := by decide +kernel
theorem dX10_far_131 : decode cX10_far 131 = .ok (.iload 7, 2) := by decide +kernel
theorem dX10_far_133 : decode cX10_far 133 = .ok (.ifCond .ne 21, 3) := by decide +kernel
theorem dX10_far_136 : decode cX10_far 136 = .ok (.aload_n 0, 1) := by decide +kernel
theorem dX10_far_137 : decode cX10_far 137 = .ok (.iload_n 1, 1) := by decide +kernel
theorem dX10_far_138 : decode cX10_far 138 = .ok (.iload_n 2, 1) := by decide +kernel
theorem dX10_far_139 : decode cX10_far 139 = .ok (.iload 8, 2) := by decide +kernel
theorem dX10_far_141 : decode cX10_far 141 = .ok (.lload 5, 2) := by decide +kernel
theorem dX10_far_143 : decode cX10_far 143 = .ok (.invokevirtual 220, 3) := by decide +kernel
theorem dX10_far_146 : decode cX10_far 146 = .ok (.istore 7, 2) := by decide +kernel
theorem dX10_far_148 : decode cX10_far 148 = .ok (.iinc 8 1, 3) := by decide +kernel
theorem dX10_far_151 : decode cX10_far 151 = .ok (.goto (-29), 3) := by decide +kernel
theorem dX10_far_154 : decode cX10_far 154 = .ok (.iload 7, 2) := by decide +kernel
theorem dX10_far_156 : decode cX10_far 156 = .ok (.ifCond .le 8, 3) := by decide +kernel
theorem dX10_far_159 : decode cX10_far 159 = .ok (.iload 7, 2) := by decide +kernel
theorem dX10_far_161 : decode cX10_far 161 = .ok (.goto 15, 3) := by decide +kernel
theorem dX10_far_164 : decode cX10_far 164 = .ok (.iload 7, 2) := by decide +kernel
theorem dX10_far_166 : decode cX10_far 166 = .ok (.ifCond .ge 8, 3) := by decide +kernel
theorem dX10_far_169 : decode cX10_far 169 = .ok (.bipush (-5), 2) := by decide +kernel
theorem dX10_far_171 : decode cX10_far 171 = .ok (.goto 5, 3) := by decide +kernel
theorem dX10_far_174 : decode cX10_far 174 = .ok (.bipush (-2), 2) := by decide +kernel
theorem dX10_far_176 : decode cX10_far 176 = .ok (.ireturn, 1) := by decide +kernel
set_option maxRecDepth 20000 in
theorem ggX10_meetAll_X10_one : GoodIn wsX10_meetAll wsX10_one := goodIn_r _ [6] (by decide +kernel) (by decide +kernel)
def chX10_meetAll : List (List Cond) := [[.fieldLink RX10 41 "ShadowBenchModel" "row" "[J", .fieldLink RX10 45 "ShadowBenchModel" "steps" "[I", .methodLink RX10 104 yX10_one, .static yX10_one, .initialized RX10, .code yX10_one cX10_one 3 (some .int), .methodLink RX10 224 yX10_meet, .instanceMethod yX10_meet, .selects RX10 yX10_meet yX10_meet, .code yX10_meet cX10_meet 7 (some .int), .fieldLink RX10 49 "ShadowBenchModel" "place" "[I", .fieldLink RX10 217 "ShadowBenchModel" "many" "I", .methodLink RX10 214 yX10_placeOf, .instanceMethod yX10_placeOf, .selects RX10 yX10_placeOf yX10_placeOf, .code yX10_placeOf cX10_placeOf 4 (some .int), .constantLong RX10 208 (-7046029254386353131), .constant RX10 48 (65536)], wsX100]
set_option maxRecDepth 20000 in
theorem chX10_meetAll_in : ∀ c ∈ chX10_meetAll, ∀ w ∈ c, w ∈ wsX10_meetAll := (all_c (P := fun c => ∀ w ∈ c, w ∈ wsX10_meetAll) (fun w h => List.mem_cons_of_mem _ (List.mem_append_left _ (h))) (all_c (P := fun c => ∀ w ∈ c, w ∈ wsX10_meetAll) (fun w h => List.mem_cons_of_mem _ (List.mem_append_right _ (h))) (fun _ h => nomatch h)))
set_option maxRecDepth 20000 in
theorem gX10_meetAll_X10_one : GoodIn wsX10_meetAll (va_wsS RX10 104 yX10_one wsX10_one) := goodIn_app (goodIn_c chX10_meetAll chX10_meetAll_in _ [(0, 2), (0, 3), (0, 4)] (by rfl) (by decide +kernel)) ggX10_meetAll_X10_one
set_option maxRecDepth 20000 in
theorem ggX10_meetAll_X10_meet : GoodIn wsX10_meetAll wsX10_meet := goodIn_ca (goodIn_c chX10_meetAll chX10_meetAll_in _ [(0, 9), (0, 10), (0, 11), (0, 0), (0, 1), (0, 12), (0, 13), (0, 14), (0, 4), (0, 15), (0, 16), (0, 17)] (by rfl) (by decide +kernel)) (goodIn_sub (fun _ h => List.mem_cons_of_mem _ (List.mem_append_right _ (h))) (by decide +kernel))
set_option maxRecDepth 20000 in
theorem gX10_meetAll_X10_meet : GoodIn wsX10_meetAll (wsV RX10 224 RX10 yX10_meet wsX10_meet) := goodIn_app (goodIn_c chX10_meetAll chX10_meetAll_in _ [(0, 6), (0, 7), (0, 8), (0, 4)] (by rfl) (by decide +kernel)) ggX10_meetAll_X10_meet
theorem dX10_meetAll_0 : decode cX10_meetAll 0 = .ok (.aload_n 0, 1) := by decide +kernel
theorem dX10_meetAll_1 : decode cX10_meetAll 1 = .ok (.getfield 41, 3) := by decide +kernel
theorem dX10_meetAll_4 : decode cX10_meetAll 4 = .ok (.iload_n 3, 1) := by decide +kernel
theorem dX10_meetAll_5 : decode cX10_meetAll 5 = .ok (.laload, 1) := by decide +kernel
theorem dX10_meetAll_6 : decode cX10_meetAll 6 = .ok (.lstore 6, 2) := by decide +kernel
theorem dX10_meetAll_8 : decode cX10_meetAll 8 = .ok (.iconst 0, 1) := by decide +kernel
theorem dX10_meetAll_9 : decode cX10_meetAll 9 = .ok (.istore 8, 2) := by decide +kernel
theorem dX10_meetAll_11 : decode cX10_meetAll 11 = .ok (.iload 8, 2) := by decide +kernel
theorem dX10_meetAll_13 : decode cX10_meetAll 13 = .ok (.iload_n 1, 1) := by decide +kernel
theorem dX10_meetAll_14 : decode cX10_meetAll 14 = .ok (.iload_n 2, 1) := by decide +kernel
theorem dX10_meetAll_15 : decode cX10_meetAll 15 = .ok (.imul, 1) := by decide +kernel
theorem dX10_meetAll_16 : decode cX10_meetAll 16 = .ok (.iload_n 1, 1) := by decide +kernel
theorem dX10_meetAll_17 : decode cX10_meetAll 17 = .ok (.imul, 1) := by decide +kernel
theorem dX10_meetAll_18 : decode cX10_meetAll 18 = .ok (.iload_n 2, 1) := by decide +kernel
theorem dX10_meetAll_19 : decode cX10_meetAll 19 = .ok (.imul, 1) := by decide +kernel
theorem dX10_meetAll_20 : decode cX10_meetAll 20 = .ok (.if_icmp .ge 220, 3) := by decide +kernel
theorem dX10_meetAll_23 : decode cX10_meetAll 23 = .ok (.iload 8, 2) := by decide +kernel
theorem dX10_meetAll_25 : decode cX10_meetAll 25 = .ok (.iload_n 1, 1) := by decide +kernel
theorem dX10_meetAll_26 : decode cX10_meetAll 26 = .ok (.iload_n 1, 1) := by decide +kernel
theorem dX10_meetAll_27 : decode cX10_meetAll 27 = .ok (.imul, 1) := by decide +kernel
theorem dX10_meetAll_28 : decode cX10_meetAll 28 = .ok (.iload_n 2, 1) := by decide +kernel
theorem dX10_meetAll_29 : decode cX10_meetAll 29 = .ok (.imul, 1) := by decide +kernel
theorem dX10_meetAll_30 : decode cX10_meetAll 30 = .ok (.idiv, 1) := by decide +kernel
theorem dX10_meetAll_31 : decode cX10_meetAll 31 = .ok (.istore 9, 2) := by decide +kernel
theorem dX10_meetAll_33 : decode cX10_meetAll 33 = .ok (.iload 8, 2) := by decide +kernel
theorem dX10_meetAll_35 : decode cX10_meetAll 35 = .ok (.iload_n 1, 1) := by decide +kernel
theorem dX10_meetAll_36 : decode cX10_meetAll 36 = .ok (.iload_n 1, 1) := by decide +kernel
theorem dX10_meetAll_37 : decode cX10_meetAll 37 = .ok (.imul, 1) := by decide +kernel
theorem dX10_meetAll_38 : decode cX10_meetAll 38 = .ok (.idiv, 1) := by decide +kernel
theorem dX10_meetAll_39 : decode cX10_meetAll 39 = .ok (.iload_n 2, 1) := by decide +kernel
theorem dX10_meetAll_40 : decode cX10_meetAll 40 = .ok (.irem, 1) := by decide +kernel
theorem dX10_meetAll_41 : decode cX10_meetAll 41 = .ok (.istore 10, 2) := by decide +kernel
theorem dX10_meetAll_43 : decode cX10_meetAll 43 = .ok (.iload 8, 2) := by decide +kernel
theorem dX10_meetAll_45 : decode cX10_meetAll 45 = .ok (.iload_n 1, 1) := by decide +kernel
theorem dX10_meetAll_46 : decode cX10_meetAll 46 = .ok (.idiv, 1) := by decide +kernel
theorem dX10_meetAll_47 : decode cX10_meetAll 47 = .ok (.iload_n 1, 1) := by decide +kernel
theorem dX10_meetAll_48 : decode cX10_meetAll 48 = .ok (.irem, 1) := by decide +kernel
theorem dX10_meetAll_49 : decode cX10_meetAll 49 = .ok (.istore 11, 2) := by decide +kernel
theorem dX10_meetAll_51 : decode cX10_meetAll 51 = .ok (.iload 8, 2) := by decide +kernel
theorem dX10_meetAll_53 : decode cX10_meetAll 53 = .ok (.iload_n 1, 1) := by decide +kernel
theorem dX10_meetAll_54 : decode cX10_meetAll 54 = .ok (.irem, 1) := by decide +kernel
theorem dX10_meetAll_55 : decode cX10_meetAll 55 = .ok (.istore 12, 2) := by decide +kernel
theorem dX10_meetAll_57 : decode cX10_meetAll 57 = .ok (.iload 9, 2) := by decide +kernel
theorem dX10_meetAll_59 : decode cX10_meetAll 59 = .ok (.iload 10, 2) := by decide +kernel
theorem dX10_meetAll_61 : decode cX10_meetAll 61 = .ok (.if_icmp .ge 95, 3) := by decide +kernel
theorem dX10_meetAll_64 : decode cX10_meetAll 64 = .ok (.iload 11, 2) := by decide +kernel
theorem dX10_meetAll_66 : decode cX10_meetAll 66 = .ok (.iload 12, 2) := by decide +kernel
theorem dX10_meetAll_68 : decode cX10_meetAll 68 = .ok (.if_icmp .ge 88, 3) := by decide +kernel
theorem dX10_meetAll_71 : decode cX10_meetAll 71 = .ok (.lload 6, 2) := by decide +kernel
theorem dX10_meetAll_73 : decode cX10_meetAll 73 = .ok (.iload 9, 2) := by decide +kernel
theorem dX10_meetAll_75 : decode cX10_meetAll 75 = .ok (.iload_n 1, 1) := by decide +kernel
theorem dX10_meetAll_76 : decode cX10_meetAll 76 = .ok (.imul, 1) := by decide +kernel
theorem dX10_meetAll_77 : decode cX10_meetAll 77 = .ok (.iload 11, 2) := by decide +kernel
theorem dX10_meetAll_79 : decode cX10_meetAll 79 = .ok (.iadd, 1) := by decide +kernel
theorem dX10_meetAll_80 : decode cX10_meetAll 80 = .ok (.invokestatic 104, 3) := by decide +kernel
theorem dX10_meetAll_83 : decode cX10_meetAll 83 = .ok (.lload 6, 2) := by decide +kernel
theorem dX10_meetAll_85 : decode cX10_meetAll 85 = .ok (.iload 10, 2) := by decide +kernel
theorem dX10_meetAll_87 : decode cX10_meetAll 87 = .ok (.iload_n 1, 1) := by decide +kernel
theorem dX10_meetAll_88 : decode cX10_meetAll 88 = .ok (.imul, 1) := by decide +kernel
theorem dX10_meetAll_89 : decode cX10_meetAll 89 = .ok (.iload 12, 2) := by decide +kernel
theorem dX10_meetAll_91 : decode cX10_meetAll 91 = .ok (.iadd, 1) := by decide +kernel
theorem dX10_meetAll_92 : decode cX10_meetAll 92 = .ok (.invokestatic 104, 3) := by decide +kernel
theorem dX10_meetAll_95 : decode cX10_meetAll 95 = .ok (.if_icmp .ne 61, 3) := by decide +kernel
theorem dX10_meetAll_98 : decode cX10_meetAll 98 = .ok (.lload 6, 2) := by decide +kernel
theorem dX10_meetAll_100 : decode cX10_meetAll 100 = .ok (.iload 9, 2) := by decide +kernel
theorem dX10_meetAll_102 : decode cX10_meetAll 102 = .ok (.iload_n 1, 1) := by decide +kernel
theorem dX10_meetAll_103 : decode cX10_meetAll 103 = .ok (.imul, 1) := by decide +kernel
theorem dX10_meetAll_104 : decode cX10_meetAll 104 = .ok (.iload 12, 2) := by decide +kernel
theorem dX10_meetAll_106 : decode cX10_meetAll 106 = .ok (.iadd, 1) := by decide +kernel
theorem dX10_meetAll_107 : decode cX10_meetAll 107 = .ok (.invokestatic 104, 3) := by decide +kernel
theorem dX10_meetAll_110 : decode cX10_meetAll 110 = .ok (.lload 6, 2) := by decide +kernel
theorem dX10_meetAll_112 : decode cX10_meetAll 112 = .ok (.iload 10, 2) := by decide +kernel
theorem dX10_meetAll_114 : decode cX10_meetAll 114 = .ok (.iload_n 1, 1) := by decide +kernel
theorem dX10_meetAll_115 : decode cX10_meetAll 115 = .ok (.imul, 1) := by decide +kernel
theorem dX10_meetAll_116 : decode cX10_meetAll 116 = .ok (.iload 11, 2) := by decide +kernel
theorem dX10_meetAll_118 : decode cX10_meetAll 118 = .ok (.iadd, 1) := by decide +kernel
theorem dX10_meetAll_119 : decode cX10_meetAll 119 = .ok (.invokestatic 104, 3) := by decide +kernel
theorem dX10_meetAll_122 : decode cX10_meetAll 122 = .ok (.if_icmp .ne 34, 3) := by decide +kernel
theorem dX10_meetAll_125 : decode cX10_meetAll 125 = .ok (.lload 6, 2) := by decide +kernel
theorem dX10_meetAll_127 : decode cX10_meetAll 127 = .ok (.iload 9, 2) := by decide +kernel
theorem dX10_meetAll_129 : decode cX10_meetAll 129 = .ok (.iload_n 1, 1) := by decide +kernel
theorem dX10_meetAll_130 : decode cX10_meetAll 130 = .ok (.imul, 1) := by decide +kernel
theorem dX10_meetAll_131 : decode cX10_meetAll 131 = .ok (.iload 11, 2) := by decide +kernel
theorem dX10_meetAll_133 : decode cX10_meetAll 133 = .ok (.iadd, 1) := by decide +kernel
theorem dX10_meetAll_134 : decode cX10_meetAll 134 = .ok (.invokestatic 104, 3) := by decide +kernel
theorem dX10_meetAll_137 : decode cX10_meetAll 137 = .ok (.lload 6, 2) := by decide +kernel
theorem dX10_meetAll_139 : decode cX10_meetAll 139 = .ok (.iload 9, 2) := by decide +kernel
theorem dX10_meetAll_141 : decode cX10_meetAll 141 = .ok (.iload_n 1, 1) := by decide +kernel
theorem dX10_meetAll_142 : decode cX10_meetAll 142 = .ok (.imul, 1) := by decide +kernel
theorem dX10_meetAll_143 : decode cX10_meetAll 143 = .ok (.iload 12, 2) := by decide +kernel
theorem dX10_meetAll_145 : decode cX10_meetAll 145 = .ok (.iadd, 1) := by decide +kernel
theorem dX10_meetAll_146 : decode cX10_meetAll 146 = .ok (.invokestatic 104, 3) := by decide +kernel
theorem dX10_meetAll_149 : decode cX10_meetAll 149 = .ok (.if_icmp .eq 7, 3) := by decide +kernel
theorem dX10_meetAll_152 : decode cX10_meetAll 152 = .ok (.iconst 1, 1) := by decide +kernel
theorem dX10_meetAll_153 : decode cX10_meetAll 153 = .ok (.goto 4, 3) := by decide +kernel
theorem dX10_meetAll_156 : decode cX10_meetAll 156 = .ok (.iconst 0, 1) := by decide +kernel
theorem dX10_meetAll_157 : decode cX10_meetAll 157 = .ok (.istore 13, 2) := by decide +kernel
theorem dX10_meetAll_159 : decode cX10_meetAll 159 = .ok (.iload 13, 2) := by decide +kernel
theorem dX10_meetAll_161 : decode cX10_meetAll 161 = .ok (.ifCond .eq 73, 3) := by decide +kernel
theorem dX10_meetAll_164 : decode cX10_meetAll 164 = .ok (.lload 6, 2) := by decide +kernel
theorem dX10_meetAll_166 : decode cX10_meetAll 166 = .ok (.lconst 1, 1) := by decide +kernel
theorem dX10_meetAll_167 : decode cX10_meetAll 167 = .ok (.iload 9, 2) := by decide +kernel
theorem dX10_meetAll_169 : decode cX10_meetAll 169 = .ok (.iload_n 1, 1) := by decide +kernel
theorem dX10_meetAll_170 : decode cX10_meetAll 170 = .ok (.imul, 1) := by decide +kernel
theorem dX10_meetAll_171 : decode cX10_meetAll 171 = .ok (.iload 11, 2) := by decide +kernel
theorem dX10_meetAll_173 : decode cX10_meetAll 173 = .ok (.iadd, 1) := by decide +kernel
theorem dX10_meetAll_174 : decode cX10_meetAll 174 = .ok (.lshl, 1) := by decide +kernel
theorem dX10_meetAll_175 : decode cX10_meetAll 175 = .ok (.lxor, 1) := by decide +kernel
theorem dX10_meetAll_176 : decode cX10_meetAll 176 = .ok (.lconst 1, 1) := by decide +kernel
theorem dX10_meetAll_177 : decode cX10_meetAll 177 = .ok (.iload 10, 2) := by decide +kernel
theorem dX10_meetAll_179 : decode cX10_meetAll 179 = .ok (.iload_n 1, 1) := by decide +kernel
theorem dX10_meetAll_180 : decode cX10_meetAll 180 = .ok (.imul, 1) := by decide +kernel
theorem dX10_meetAll_181 : decode cX10_meetAll 181 = .ok (.iload 12, 2) := by decide +kernel
theorem dX10_meetAll_183 : decode cX10_meetAll 183 = .ok (.iadd, 1) := by decide +kernel
theorem dX10_meetAll_184 : decode cX10_meetAll 184 = .ok (.lshl, 1) := by decide +kernel
theorem dX10_meetAll_185 : decode cX10_meetAll 185 = .ok (.lxor, 1) := by decide +kernel
theorem dX10_meetAll_186 : decode cX10_meetAll 186 = .ok (.lconst 1, 1) := by decide +kernel
theorem dX10_meetAll_187 : decode cX10_meetAll 187 = .ok (.iload 9, 2) := by decide +kernel
theorem dX10_meetAll_189 : decode cX10_meetAll 189 = .ok (.iload_n 1, 1) := by decide +kernel
theorem dX10_meetAll_190 : decode cX10_meetAll 190 = .ok (.imul, 1) := by decide +kernel
theorem dX10_meetAll_191 : decode cX10_meetAll 191 = .ok (.iload 12, 2) := by decide +kernel
theorem dX10_meetAll_193 : decode cX10_meetAll 193 = .ok (.iadd, 1) := by decide +kernel
theorem dX10_meetAll_194 : decode cX10_meetAll 194 = .ok (.lshl, 1) := by decide +kernel
theorem dX10_meetAll_195 : decode cX10_meetAll 195 = .ok (.lxor, 1) := by decide +kernel
theorem dX10_meetAll_196 : decode cX10_meetAll 196 = .ok (.lconst 1, 1) := by decide +kernel
theorem dX10_meetAll_197 : decode cX10_meetAll 197 = .ok (.iload 10, 2) := by decide +kernel
theorem dX10_meetAll_199 : decode cX10_meetAll 199 = .ok (.iload_n 1, 1) := by decide +kernel
theorem dX10_meetAll_200 : decode cX10_meetAll 200 = .ok (.imul, 1) := by decide +kernel
theorem dX10_meetAll_201 : decode cX10_meetAll 201 = .ok (.iload 11, 2) := by decide +kernel
theorem dX10_meetAll_203 : decode cX10_meetAll 203 = .ok (.iadd, 1) := by decide +kernel
theorem dX10_meetAll_204 : decode cX10_meetAll 204 = .ok (.lshl, 1) := by decide +kernel
theorem dX10_meetAll_205 : decode cX10_meetAll 205 = .ok (.lxor, 1) := by decide +kernel
theorem dX10_meetAll_206 : decode cX10_meetAll 206 = .ok (.lstore 14, 2) := by decide +kernel
theorem dX10_meetAll_208 : decode cX10_meetAll 208 = .ok (.aload_n 0, 1) := by decide +kernel
theorem dX10_meetAll_209 : decode cX10_meetAll 209 = .ok (.lload 14, 2) := by decide +kernel
theorem dX10_meetAll_211 : decode cX10_meetAll 211 = .ok (.aload_n 0, 1) := by decide +kernel
theorem dX10_meetAll_212 : decode cX10_meetAll 212 = .ok (.getfield 45, 3) := by decide +kernel
theorem dX10_meetAll_215 : decode cX10_meetAll 215 = .ok (.iload_n 3, 1) := by decide +kernel
theorem dX10_meetAll_216 : decode cX10_meetAll 216 = .ok (.iaload, 1) := by decide +kernel
theorem dX10_meetAll_217 : decode cX10_meetAll 217 = .ok (.iconst 1, 1) := by decide +kernel
theorem dX10_meetAll_218 : decode cX10_meetAll 218 = .ok (.iadd, 1) := by decide +kernel
theorem dX10_meetAll_219 : decode cX10_meetAll 219 = .ok (.lload 4, 2) := by decide +kernel
theorem dX10_meetAll_221 : decode cX10_meetAll 221 = .ok (.invokevirtual 224, 3) := by decide +kernel
theorem dX10_meetAll_224 : decode cX10_meetAll 224 = .ok (.istore 16, 2) := by decide +kernel
theorem dX10_meetAll_226 : decode cX10_meetAll 226 = .ok (.iload 16, 2) := by decide +kernel
theorem dX10_meetAll_228 : decode cX10_meetAll 228 = .ok (.ifCond .eq 6, 3) := by decide +kernel
theorem dX10_meetAll_231 : decode cX10_meetAll 231 = .ok (.iload 16, 2) := by decide +kernel
theorem dX10_meetAll_233 : decode cX10_meetAll 233 = .ok (.ireturn, 1) := by decide +kernel
theorem dX10_meetAll_234 : decode cX10_meetAll 234 = .ok (.iinc 8 1, 3) := by decide +kernel
theorem dX10_meetAll_237 : decode cX10_meetAll 237 = .ok (.goto (-226), 3) := by decide +kernel
theorem dX10_meetAll_240 : decode cX10_meetAll 240 = .ok (.iconst 0, 1) := by decide +kernel
theorem dX10_meetAll_241 : decode cX10_meetAll 241 = .ok (.ireturn, 1) := by decide +kernel
def chX10_meet : List (List Cond) := [[.fieldLink RX10 49 "ShadowBenchModel" "place" "[I", .fieldLink RX10 217 "ShadowBenchModel" "many" "I", .fieldLink RX10 41 "ShadowBenchModel" "row" "[J", .fieldLink RX10 45 "ShadowBenchModel" "steps" "[I", .methodLink RX10 214 yX10_placeOf, .instanceMethod yX10_placeOf, .selects RX10 yX10_placeOf yX10_placeOf, .initialized RX10, .code yX10_placeOf cX10_placeOf 4 (some .int), .constantLong RX10 208 (-7046029254386353131), .constant RX10 48 (65536)], wsX100]
set_option maxRecDepth 20000 in
theorem chX10_meet_in : ∀ c ∈ chX10_meet, ∀ w ∈ c, w ∈ wsX10_meet := (all_c (P := fun c => ∀ w ∈ c, w ∈ wsX10_meet) (fun w h => List.mem_cons_of_mem _ (List.mem_append_left _ (h))) (all_c (P := fun c => ∀ w ∈ c, w ∈ wsX10_meet) (fun w h => List.mem_cons_of_mem _ (List.mem_append_right _ (h))) (fun _ h => nomatch h)))
set_option maxRecDepth 20000 in
theorem ggX10_meet_X10_placeOf : GoodIn wsX10_meet wsX10_placeOf := goodIn_ca (goodIn_c chX10_meet chX10_meet_in _ [(0, 8), (0, 9), (0, 0), (0, 2), (0, 10)] (by rfl) (by decide +kernel)) (goodIn_sub (fun _ h => List.mem_cons_of_mem _ (List.mem_append_right _ (h))) (by decide +kernel))
set_option maxRecDepth 20000 in
theorem gX10_meet_X10_placeOf : GoodIn wsX10_meet (wsV RX10 214 RX10 yX10_placeOf wsX10_placeOf) := goodIn_app (goodIn_c chX10_meet chX10_meet_in _ [(0, 4), (0, 5), (0, 6), (0, 7)] (by rfl) (by decide +kernel)) ggX10_meet_X10_placeOf
theorem dX10_meet_0 : decode cX10_meet 0 = .ok (.aload_n 0, 1) := by decide +kernel
theorem dX10_meet_1 : decode cX10_meet 1 = .ok (.lload_n 1, 1) := by decide +kernel
theorem dX10_meet_2 : decode cX10_meet 2 = .ok (.invokevirtual 214, 3) := by decide +kernel
theorem dX10_meet_5 : decode cX10_meet 5 = .ok (.istore 6, 2) := by decide +kernel
theorem dX10_meet_7 : decode cX10_meet 7 = .ok (.aload_n 0, 1) := by decide +kernel
theorem dX10_meet_8 : decode cX10_meet 8 = .ok (.getfield 49, 3) := by decide +kernel
theorem dX10_meet_11 : decode cX10_meet 11 = .ok (.iload 6, 2) := by decide +kernel
theorem dX10_meet_13 : decode cX10_meet 13 = .ok (.iaload, 1) := by decide +kernel
theorem dX10_meet_14 : decode cX10_meet 14 = .ok (.ifCond .lt 5, 3) := by decide +kernel
theorem dX10_meet_17 : decode cX10_meet 17 = .ok (.iconst 0, 1) := by decide +kernel
theorem dX10_meet_18 : decode cX10_meet 18 = .ok (.ireturn, 1) := by decide +kernel
theorem dX10_meet_19 : decode cX10_meet 19 = .ok (.aload_n 0, 1) := by decide +kernel
theorem dX10_meet_20 : decode cX10_meet 20 = .ok (.getfield 217, 3) := by decide +kernel
theorem dX10_meet_23 : decode cX10_meet 23 = .ok (.sipush 20000, 3) := by decide +kernel
theorem dX10_meet_26 : decode cX10_meet 26 = .ok (.if_icmp .ne 6, 3) := by decide +kernel
theorem dX10_meet_29 : decode cX10_meet 29 = .ok (.bipush (-5), 2) := by decide +kernel
theorem dX10_meet_31 : decode cX10_meet 31 = .ok (.ireturn, 1) := by decide +kernel
theorem dX10_meet_32 : decode cX10_meet 32 = .ok (.aload_n 0, 1) := by decide +kernel
theorem dX10_meet_33 : decode cX10_meet 33 = .ok (.getfield 49, 3) := by decide +kernel
theorem dX10_meet_36 : decode cX10_meet 36 = .ok (.iload 6, 2) := by decide +kernel
theorem dX10_meet_38 : decode cX10_meet 38 = .ok (.aload_n 0, 1) := by decide +kernel
theorem dX10_meet_39 : decode cX10_meet 39 = .ok (.getfield 217, 3) := by decide +kernel
theorem dX10_meet_42 : decode cX10_meet 42 = .ok (.iastore, 1) := by decide +kernel
theorem dX10_meet_43 : decode cX10_meet 43 = .ok (.aload_n 0, 1) := by decide +kernel
theorem dX10_meet_44 : decode cX10_meet 44 = .ok (.getfield 41, 3) := by decide +kernel
theorem dX10_meet_47 : decode cX10_meet 47 = .ok (.aload_n 0, 1) := by decide +kernel
theorem dX10_meet_48 : decode cX10_meet 48 = .ok (.getfield 217, 3) := by decide +kernel
theorem dX10_meet_51 : decode cX10_meet 51 = .ok (.lload_n 1, 1) := by decide +kernel
theorem dX10_meet_52 : decode cX10_meet 52 = .ok (.lastore, 1) := by decide +kernel
theorem dX10_meet_53 : decode cX10_meet 53 = .ok (.aload_n 0, 1) := by decide +kernel
theorem dX10_meet_54 : decode cX10_meet 54 = .ok (.getfield 45, 3) := by decide +kernel
theorem dX10_meet_57 : decode cX10_meet 57 = .ok (.aload_n 0, 1) := by decide +kernel
theorem dX10_meet_58 : decode cX10_meet 58 = .ok (.getfield 217, 3) := by decide +kernel
theorem dX10_meet_61 : decode cX10_meet 61 = .ok (.iload_n 3, 1) := by decide +kernel
theorem dX10_meet_62 : decode cX10_meet 62 = .ok (.iastore, 1) := by decide +kernel
theorem dX10_meet_63 : decode cX10_meet 63 = .ok (.aload_n 0, 1) := by decide +kernel
theorem dX10_meet_64 : decode cX10_meet 64 = .ok (.dup, 1) := by decide +kernel
theorem dX10_meet_65 : decode cX10_meet 65 = .ok (.getfield 217, 3) := by decide +kernel
theorem dX10_meet_68 : decode cX10_meet 68 = .ok (.iconst 1, 1) := by decide +kernel
theorem dX10_meet_69 : decode cX10_meet 69 = .ok (.iadd, 1) := by decide +kernel
theorem dX10_meet_70 : decode cX10_meet 70 = .ok (.putfield 217, 3) := by decide +kernel
theorem dX10_meet_73 : decode cX10_meet 73 = .ok (.lload_n 1, 1) := by decide +kernel
theorem dX10_meet_74 : decode cX10_meet 74 = .ok (.lload 4, 2) := by decide +kernel
theorem dX10_meet_76 : decode cX10_meet 76 = .ok (.lcmp, 1) := by decide +kernel
theorem dX10_meet_77 : decode cX10_meet 77 = .ok (.ifCond .ne 7, 3) := by decide +kernel
theorem dX10_meet_80 : decode cX10_meet 80 = .ok (.iload_n 3, 1) := by decide +kernel
theorem dX10_meet_81 : decode cX10_meet 81 = .ok (.goto 4, 3) := by decide +kernel
theorem dX10_meet_84 : decode cX10_meet 84 = .ok (.iconst 0, 1) := by decide +kernel
theorem dX10_meet_85 : decode cX10_meet 85 = .ok (.ireturn, 1) := by decide +kernel
set_option maxRecDepth 20000 in
theorem ggX10_ghosts_X10_isIn : GoodIn wsX10_ghosts wsX10_isIn := goodIn_r _ [6] (by decide +kernel) (by decide +kernel)
def chX10_ghosts : List (List Cond) := [[.fieldLink RX10 79 "ShadowBenchModel" "thrown" "I", .constantLong RX10 228 (15), .methodLink RX10 85 yX10_isIn, .static yX10_isIn, .initialized RX10, .code yX10_isIn cX10_isIn 6 (some .boolean), .methodLink RX10 89 yX10_isBoard, .static yX10_isBoard, .code yX10_isBoard cX10_isBoard 2 (some .boolean), .constantLong RX10 83 (6), .methodLink RX10 256 yX10_placesOf, .instanceMethod yX10_placesOf, .selects RX10 yX10_placesOf yX10_placesOf, .code yX10_placesOf cX10_placesOf 8 (some .int), .methodLink RX10 242 yX10_across, .static yX10_across, .code yX10_across cX10_across 1 (some .int)], wsX100]
set_option maxRecDepth 20000 in
theorem chX10_ghosts_in : ∀ c ∈ chX10_ghosts, ∀ w ∈ c, w ∈ wsX10_ghosts := (all_c (P := fun c => ∀ w ∈ c, w ∈ wsX10_ghosts) (fun w h => List.mem_cons_of_mem _ (List.mem_append_left _ (h))) (all_c (P := fun c => ∀ w ∈ c, w ∈ wsX10_ghosts) (fun w h => List.mem_cons_of_mem _ (List.mem_append_right _ (h))) (fun _ h => nomatch h)))
set_option maxRecDepth 20000 in
theorem gX10_ghosts_X10_isIn : GoodIn wsX10_ghosts (va_wsS RX10 85 yX10_isIn wsX10_isIn) := goodIn_app (goodIn_c chX10_ghosts chX10_ghosts_in _ [(0, 2), (0, 3), (0, 4)] (by rfl) (by decide +kernel)) ggX10_ghosts_X10_isIn
