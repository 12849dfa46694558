abbrev cX10_job : ByteArray := prog_12_method_13_code
def yX10_job : MethodName := ⟨RX10, "job", "(III)I"⟩
abbrev cX10_fits : ByteArray := prog_12_method_28_code
def yX10_fits : MethodName := ⟨RX10, "fits", "(IJ)I"⟩
abbrev cX10_isNext : ByteArray := prog_12_method_32_code
def yX10_isNext : MethodName := ⟨RX10, "isNext", "(I)Z"⟩
abbrev cX10_count : ByteArray := prog_12_method_33_code
def yX10_count : MethodName := ⟨RX10, "count", "(I)I"⟩
abbrev cX10_find : ByteArray := prog_12_method_34_code
def yX10_find : MethodName := ⟨RX10, "find", "(II)J"⟩
abbrev cX10_rank : ByteArray := prog_12_method_35_code
def yX10_rank : MethodName := ⟨RX10, "rank", "(IJ)I"⟩
abbrev cX10_sure : ByteArray := prog_12_method_36_code
def yX10_sure : MethodName := ⟨RX10, "sure", "(II)I"⟩
abbrev cX10_clash : ByteArray := prog_12_method_37_code
def yX10_clash : MethodName := ⟨RX10, "clash", "(I)I"⟩
abbrev cX10_seek : ByteArray := prog_12_method_38_code
def yX10_seek : MethodName := ⟨RX10, "seek", "(I)I"⟩
abbrev cX10_best : ByteArray := prog_12_method_39_code
def yX10_best : MethodName := ⟨RX10, "best", "(I)I"⟩
abbrev cX10_bestOne : ByteArray := prog_12_method_40_code
def yX10_bestOne : MethodName := ⟨RX10, "bestOne", "(I)J"⟩
abbrev cX10_goSwitches : ByteArray := prog_12_method_41_code
def yX10_goSwitches : MethodName := ⟨RX10, "goSwitches", "(IIJI)I"⟩
abbrev cX10_across : ByteArray := prog_12_method_56_code
def yX10_across : MethodName := ⟨RX10, "across", "(I)I"⟩
abbrev cX10_down : ByteArray := prog_12_method_57_code
def yX10_down : MethodName := ⟨RX10, "down", "(I)I"⟩
def wsX10_job : List Cond := .code yX10_job cX10_job 5 (some .int) :: ([.fieldLink RX10 79 "ShadowBenchModel" "thrown" "I", .constantLong RX10 116 (3), .fieldLink RX10 93 "ShadowBenchModel" "jobs" "I", .fieldLink RX10 7 "ShadowBenchModel" "kind" "[I", .fieldLink RX10 13 "ShadowBenchModel" "wide" "[I", .fieldLink RX10 16 "ShadowBenchModel" "high" "[I", .fieldLink RX10 22 "ShadowBenchModel" "isTold" "[Z", .fieldLink RX10 26 "ShadowBenchModel" "held" "[I", .methodLink RX10 85 yX10_isIn, .static yX10_isIn, .initialized RX10, .code yX10_isIn cX10_isIn 6 (some .boolean), .methodLink RX10 89 yX10_isBoard, .static yX10_isBoard, .code yX10_isBoard cX10_isBoard 2 (some .boolean), .constantLong RX10 83 (6)] ++ wsX100)
def wsX10_fits_r1 : List Cond := [Cond.fieldLink RX10 79 "ShadowBenchModel" "thrown" "I", Cond.fieldLink RX10 13 "ShadowBenchModel" "wide" "[I", Cond.fieldLink RX10 16 "ShadowBenchModel" "high" "[I", Cond.methodLink RX10 96 yX10_isJob, Cond.instanceMethod yX10_isJob, Cond.selects RX10 yX10_isJob yX10_isJob, Cond.initialized RX10, Cond.code yX10_isJob cX10_isJob 2 (some .boolean), Cond.fieldLink RX10 93 "ShadowBenchModel" "jobs" "I", Cond.methodLink RX10 126 yX10_isPicture, Cond.static yX10_isPicture, Cond.code yX10_isPicture cX10_isPicture 4 (some .boolean), Cond.methodLink RX10 89 yX10_isBoard, Cond.static yX10_isBoard, Cond.code yX10_isBoard cX10_isBoard 2 (some .boolean), Cond.constantLong RX10 83 (6), Cond.methodLink RX10 85 yX10_isIn, Cond.static yX10_isIn, Cond.code yX10_isIn cX10_isIn 6 (some .boolean), Cond.methodLink RX10 154 yX10_isFitting, Cond.instanceMethod yX10_isFitting, Cond.selects RX10 yX10_isFitting yX10_isFitting, Cond.code yX10_isFitting cX10_isFitting 7 (some .boolean), Cond.fieldLink RX10 26 "ShadowBenchModel" "held" "[I"]
def wsX10_fits_r2 : List Cond := [Cond.fieldLink RX10 22 "ShadowBenchModel" "isTold" "[Z", Cond.fieldLink RX10 19 "ShadowBenchModel" "sums" "[I", Cond.methodLink RX10 104 yX10_one, Cond.static yX10_one, Cond.code yX10_one cX10_one 3 (some .int), Cond.methodLink RX10 108 yX10_linesOf, Cond.static yX10_linesOf, Cond.code yX10_linesOf cX10_linesOf 3 (some .int), Cond.methodLink RX10 112 yX10_shadowOf, Cond.static yX10_shadowOf, Cond.code yX10_shadowOf cX10_shadowOf 8 (some .int), Cond.methodLink RX10 100 yX10_lineOf, Cond.static yX10_lineOf, Cond.code yX10_lineOf cX10_lineOf 4 (some .int), Cond.methodLink RX10 150 yX10_isKind, Cond.instanceMethod yX10_isKind, Cond.selects RX10 yX10_isKind yX10_isKind, Cond.code yX10_isKind cX10_isKind 6 (some .boolean), Cond.fieldLink RX10 7 "ShadowBenchModel" "kind" "[I", Cond.methodLink RX10 143 yX10_isJoined, Cond.instanceMethod yX10_isJoined, Cond.selects RX10 yX10_isJoined yX10_isJoined, Cond.code yX10_isJoined cX10_isJoined 9 (some .boolean), Cond.fieldLink RX10 32 "ShadowBenchModel" "met" "[Z"]
def wsX10_fits_r3 : List Cond := [Cond.methodLink RX10 146 yX10_isEven, Cond.static yX10_isEven, Cond.code yX10_isEven cX10_isEven 13 (some .boolean)]
def wsX10_fits : List Cond := .code yX10_fits cX10_fits 4 (some .int) :: ((wsX10_fits_r1 ++ (wsX10_fits_r2 ++ wsX10_fits_r3)) ++ wsX100)
def wsX10_isNext_r1 : List Cond := [Cond.fieldLink RX10 157 "ShadowBenchModel" "depth" "I", Cond.fieldLink RX10 35 "ShadowBenchModel" "rows" "[I", Cond.fieldLink RX10 13 "ShadowBenchModel" "wide" "[I", Cond.fieldLink RX10 160 "ShadowBenchModel" "tries" "I", Cond.constant RX10 167 (200000), Cond.fieldLink RX10 163 "ShadowBenchModel" "spent" "Z", Cond.fieldLink RX10 16 "ShadowBenchModel" "high" "[I", Cond.fieldLink RX10 175 "ShadowBenchModel" "found" "J", Cond.methodLink RX10 168 yX10_goesOn, Cond.instanceMethod yX10_goesOn, Cond.selects RX10 yX10_goesOn yX10_goesOn, Cond.initialized RX10, Cond.code yX10_goesOn cX10_goesOn 10 (some .boolean), Cond.fieldLink RX10 26 "ShadowBenchModel" "held" "[I", Cond.fieldLink RX10 19 "ShadowBenchModel" "sums" "[I", Cond.methodLink RX10 171 yX10_picture, Cond.instanceMethod yX10_picture, Cond.selects RX10 yX10_picture yX10_picture, Cond.code yX10_picture cX10_picture 6 (some .long), Cond.methodLink RX10 154 yX10_isFitting, Cond.instanceMethod yX10_isFitting, Cond.selects RX10 yX10_isFitting yX10_isFitting, Cond.code yX10_isFitting cX10_isFitting 7 (some .boolean), Cond.fieldLink RX10 22 "ShadowBenchModel" "isTold" "[Z"]
def wsX10_isNext_r2 : List Cond := [Cond.methodLink RX10 104 yX10_one, Cond.static yX10_one, Cond.code yX10_one cX10_one 3 (some .int), Cond.methodLink RX10 108 yX10_linesOf, Cond.static yX10_linesOf, Cond.code yX10_linesOf cX10_linesOf 3 (some .int), Cond.methodLink RX10 112 yX10_shadowOf, Cond.static yX10_shadowOf, Cond.code yX10_shadowOf cX10_shadowOf 8 (some .int), Cond.methodLink RX10 100 yX10_lineOf, Cond.static yX10_lineOf, Cond.code yX10_lineOf cX10_lineOf 4 (some .int), Cond.methodLink RX10 150 yX10_isKind, Cond.instanceMethod yX10_isKind, Cond.selects RX10 yX10_isKind yX10_isKind, Cond.code yX10_isKind cX10_isKind 6 (some .boolean), Cond.fieldLink RX10 7 "ShadowBenchModel" "kind" "[I", Cond.methodLink RX10 143 yX10_isJoined, Cond.instanceMethod yX10_isJoined, Cond.selects RX10 yX10_isJoined yX10_isJoined, Cond.code yX10_isJoined cX10_isJoined 9 (some .boolean), Cond.fieldLink RX10 32 "ShadowBenchModel" "met" "[Z", Cond.methodLink RX10 146 yX10_isEven, Cond.static yX10_isEven]
def wsX10_isNext_r3 : List Cond := [Cond.code yX10_isEven cX10_isEven 13 (some .boolean)]
def wsX10_isNext : List Cond := .code yX10_isNext cX10_isNext 2 (some .boolean) :: ((wsX10_isNext_r1 ++ (wsX10_isNext_r2 ++ wsX10_isNext_r3)) ++ wsX100)
def wsX10_count_r1 : List Cond := [Cond.fieldLink RX10 79 "ShadowBenchModel" "thrown" "I", Cond.fieldLink RX10 163 "ShadowBenchModel" "spent" "Z", Cond.methodLink RX10 96 yX10_isJob, Cond.instanceMethod yX10_isJob, Cond.selects RX10 yX10_isJob yX10_isJob, Cond.initialized RX10, Cond.code yX10_isJob cX10_isJob 2 (some .boolean), Cond.fieldLink RX10 93 "ShadowBenchModel" "jobs" "I", Cond.methodLink RX10 179 yX10_begin, Cond.instanceMethod yX10_begin, Cond.selects RX10 yX10_begin yX10_begin, Cond.code yX10_begin cX10_begin 1 none, Cond.fieldLink RX10 157 "ShadowBenchModel" "depth" "I", Cond.fieldLink RX10 35 "ShadowBenchModel" "rows" "[I", Cond.fieldLink RX10 160 "ShadowBenchModel" "tries" "I", Cond.methodLink RX10 182 yX10_isNext, Cond.instanceMethod yX10_isNext, Cond.selects RX10 yX10_isNext yX10_isNext, Cond.code yX10_isNext cX10_isNext 2 (some .boolean), Cond.fieldLink RX10 13 "ShadowBenchModel" "wide" "[I", Cond.constant RX10 167 (200000), Cond.fieldLink RX10 16 "ShadowBenchModel" "high" "[I", Cond.fieldLink RX10 175 "ShadowBenchModel" "found" "J", Cond.methodLink RX10 168 yX10_goesOn]
def wsX10_count_r2 : List Cond := [Cond.instanceMethod yX10_goesOn, Cond.selects RX10 yX10_goesOn yX10_goesOn, Cond.code yX10_goesOn cX10_goesOn 10 (some .boolean), Cond.fieldLink RX10 26 "ShadowBenchModel" "held" "[I", Cond.fieldLink RX10 19 "ShadowBenchModel" "sums" "[I", Cond.methodLink RX10 171 yX10_picture, Cond.instanceMethod yX10_picture, Cond.selects RX10 yX10_picture yX10_picture, Cond.code yX10_picture cX10_picture 6 (some .long), Cond.methodLink RX10 154 yX10_isFitting, Cond.instanceMethod yX10_isFitting, Cond.selects RX10 yX10_isFitting yX10_isFitting, Cond.code yX10_isFitting cX10_isFitting 7 (some .boolean), Cond.fieldLink RX10 22 "ShadowBenchModel" "isTold" "[Z", Cond.methodLink RX10 104 yX10_one, Cond.static yX10_one, Cond.code yX10_one cX10_one 3 (some .int), Cond.methodLink RX10 108 yX10_linesOf, Cond.static yX10_linesOf, Cond.code yX10_linesOf cX10_linesOf 3 (some .int), Cond.methodLink RX10 112 yX10_shadowOf, Cond.static yX10_shadowOf, Cond.code yX10_shadowOf cX10_shadowOf 8 (some .int), Cond.methodLink RX10 100 yX10_lineOf]
def wsX10_count_r3 : List Cond := [Cond.static yX10_lineOf, Cond.code yX10_lineOf cX10_lineOf 4 (some .int), Cond.methodLink RX10 150 yX10_isKind, Cond.instanceMethod yX10_isKind, Cond.selects RX10 yX10_isKind yX10_isKind, Cond.code yX10_isKind cX10_isKind 6 (some .boolean), Cond.fieldLink RX10 7 "ShadowBenchModel" "kind" "[I", Cond.methodLink RX10 143 yX10_isJoined, Cond.instanceMethod yX10_isJoined, Cond.selects RX10 yX10_isJoined yX10_isJoined, Cond.code yX10_isJoined cX10_isJoined 9 (some .boolean), Cond.fieldLink RX10 32 "ShadowBenchModel" "met" "[Z", Cond.methodLink RX10 146 yX10_isEven, Cond.static yX10_isEven, Cond.code yX10_isEven cX10_isEven 13 (some .boolean)]
def wsX10_count : List Cond := .code yX10_count cX10_count 3 (some .int) :: ((wsX10_count_r1 ++ (wsX10_count_r2 ++ wsX10_count_r3)) ++ wsX100)
def wsX10_find_r1 : List Cond := [Cond.fieldLink RX10 79 "ShadowBenchModel" "thrown" "I", Cond.constantLong RX10 185 (-1), Cond.fieldLink RX10 175 "ShadowBenchModel" "found" "J", Cond.fieldLink RX10 163 "ShadowBenchModel" "spent" "Z", Cond.constantLong RX10 187 (-5), Cond.constantLong RX10 189 (-2), Cond.methodLink RX10 96 yX10_isJob, Cond.instanceMethod yX10_isJob, Cond.selects RX10 yX10_isJob yX10_isJob, Cond.initialized RX10, Cond.code yX10_isJob cX10_isJob 2 (some .boolean), Cond.fieldLink RX10 93 "ShadowBenchModel" "jobs" "I", Cond.methodLink RX10 179 yX10_begin, Cond.instanceMethod yX10_begin, Cond.selects RX10 yX10_begin yX10_begin, Cond.code yX10_begin cX10_begin 1 none, Cond.fieldLink RX10 157 "ShadowBenchModel" "depth" "I", Cond.fieldLink RX10 35 "ShadowBenchModel" "rows" "[I", Cond.fieldLink RX10 160 "ShadowBenchModel" "tries" "I", Cond.methodLink RX10 182 yX10_isNext, Cond.instanceMethod yX10_isNext, Cond.selects RX10 yX10_isNext yX10_isNext, Cond.code yX10_isNext cX10_isNext 2 (some .boolean), Cond.fieldLink RX10 13 "ShadowBenchModel" "wide" "[I"]
def wsX10_find_r2 : List Cond := [Cond.constant RX10 167 (200000), Cond.fieldLink RX10 16 "ShadowBenchModel" "high" "[I", Cond.methodLink RX10 168 yX10_goesOn, Cond.instanceMethod yX10_goesOn, Cond.selects RX10 yX10_goesOn yX10_goesOn, Cond.code yX10_goesOn cX10_goesOn 10 (some .boolean), Cond.fieldLink RX10 26 "ShadowBenchModel" "held" "[I", Cond.fieldLink RX10 19 "ShadowBenchModel" "sums" "[I", Cond.methodLink RX10 171 yX10_picture, Cond.instanceMethod yX10_picture, Cond.selects RX10 yX10_picture yX10_picture, Cond.code yX10_picture cX10_picture 6 (some .long), Cond.methodLink RX10 154 yX10_isFitting, Cond.instanceMethod yX10_isFitting, Cond.selects RX10 yX10_isFitting yX10_isFitting, Cond.code yX10_isFitting cX10_isFitting 7 (some .boolean), Cond.fieldLink RX10 22 "ShadowBenchModel" "isTold" "[Z", Cond.methodLink RX10 104 yX10_one, Cond.static yX10_one, Cond.code yX10_one cX10_one 3 (some .int), Cond.methodLink RX10 108 yX10_linesOf, Cond.static yX10_linesOf, Cond.code yX10_linesOf cX10_linesOf 3 (some .int), Cond.methodLink RX10 112 yX10_shadowOf]
def wsX10_find_r3 : List Cond := [Cond.static yX10_shadowOf, Cond.code yX10_shadowOf cX10_shadowOf 8 (some .int), Cond.methodLink RX10 100 yX10_lineOf, Cond.static yX10_lineOf, Cond.code yX10_lineOf cX10_lineOf 4 (some .int), Cond.methodLink RX10 150 yX10_isKind, Cond.instanceMethod yX10_isKind, Cond.selects RX10 yX10_isKind yX10_isKind, Cond.code yX10_isKind cX10_isKind 6 (some .boolean), Cond.fieldLink RX10 7 "ShadowBenchModel" "kind" "[I", Cond.methodLink RX10 143 yX10_isJoined, Cond.instanceMethod yX10_isJoined, Cond.selects RX10 yX10_isJoined yX10_isJoined, Cond.code yX10_isJoined cX10_isJoined 9 (some .boolean), Cond.fieldLink RX10 32 "ShadowBenchModel" "met" "[Z", Cond.methodLink RX10 146 yX10_isEven, Cond.static yX10_isEven, Cond.code yX10_isEven cX10_isEven 13 (some .boolean)]
def wsX10_find : List Cond := .code yX10_find cX10_find 4 (some .long) :: ((wsX10_find_r1 ++ (wsX10_find_r2 ++ wsX10_find_r3)) ++ wsX100)
def wsX10_rank_r1 : List Cond := [Cond.fieldLink RX10 79 "ShadowBenchModel" "thrown" "I", Cond.fieldLink RX10 13 "ShadowBenchModel" "wide" "[I", Cond.fieldLink RX10 16 "ShadowBenchModel" "high" "[I", Cond.fieldLink RX10 175 "ShadowBenchModel" "found" "J", Cond.methodLink RX10 96 yX10_isJob, Cond.instanceMethod yX10_isJob, Cond.selects RX10 yX10_isJob yX10_isJob, Cond.initialized RX10, Cond.code yX10_isJob cX10_isJob 2 (some .boolean), Cond.fieldLink RX10 93 "ShadowBenchModel" "jobs" "I", Cond.methodLink RX10 126 yX10_isPicture, Cond.static yX10_isPicture, Cond.code yX10_isPicture cX10_isPicture 4 (some .boolean), Cond.methodLink RX10 89 yX10_isBoard, Cond.static yX10_isBoard, Cond.code yX10_isBoard cX10_isBoard 2 (some .boolean), Cond.constantLong RX10 83 (6), Cond.methodLink RX10 85 yX10_isIn, Cond.static yX10_isIn, Cond.code yX10_isIn cX10_isIn 6 (some .boolean), Cond.methodLink RX10 154 yX10_isFitting, Cond.instanceMethod yX10_isFitting, Cond.selects RX10 yX10_isFitting yX10_isFitting, Cond.code yX10_isFitting cX10_isFitting 7 (some .boolean)]
def wsX10_rank_r2 : List Cond := [Cond.fieldLink RX10 26 "ShadowBenchModel" "held" "[I", Cond.fieldLink RX10 22 "ShadowBenchModel" "isTold" "[Z", Cond.fieldLink RX10 19 "ShadowBenchModel" "sums" "[I", Cond.methodLink RX10 104 yX10_one, Cond.static yX10_one, Cond.code yX10_one cX10_one 3 (some .int), Cond.methodLink RX10 108 yX10_linesOf, Cond.static yX10_linesOf, Cond.code yX10_linesOf cX10_linesOf 3 (some .int), Cond.methodLink RX10 112 yX10_shadowOf, Cond.static yX10_shadowOf, Cond.code yX10_shadowOf cX10_shadowOf 8 (some .int), Cond.methodLink RX10 100 yX10_lineOf, Cond.static yX10_lineOf, Cond.code yX10_lineOf cX10_lineOf 4 (some .int), Cond.methodLink RX10 150 yX10_isKind, Cond.instanceMethod yX10_isKind, Cond.selects RX10 yX10_isKind yX10_isKind, Cond.code yX10_isKind cX10_isKind 6 (some .boolean), Cond.fieldLink RX10 7 "ShadowBenchModel" "kind" "[I", Cond.methodLink RX10 143 yX10_isJoined, Cond.instanceMethod yX10_isJoined, Cond.selects RX10 yX10_isJoined yX10_isJoined, Cond.code yX10_isJoined cX10_isJoined 9 (some .boolean)]
def wsX10_rank_r3 : List Cond := [Cond.fieldLink RX10 32 "ShadowBenchModel" "met" "[Z", Cond.methodLink RX10 146 yX10_isEven, Cond.static yX10_isEven, Cond.code yX10_isEven cX10_isEven 13 (some .boolean), Cond.methodLink RX10 179 yX10_begin, Cond.instanceMethod yX10_begin, Cond.selects RX10 yX10_begin yX10_begin, Cond.code yX10_begin cX10_begin 1 none, Cond.fieldLink RX10 157 "ShadowBenchModel" "depth" "I", Cond.fieldLink RX10 35 "ShadowBenchModel" "rows" "[I", Cond.fieldLink RX10 160 "ShadowBenchModel" "tries" "I", Cond.fieldLink RX10 163 "ShadowBenchModel" "spent" "Z", Cond.methodLink RX10 182 yX10_isNext, Cond.instanceMethod yX10_isNext, Cond.selects RX10 yX10_isNext yX10_isNext, Cond.code yX10_isNext cX10_isNext 2 (some .boolean), Cond.constant RX10 167 (200000), Cond.methodLink RX10 168 yX10_goesOn, Cond.instanceMethod yX10_goesOn, Cond.selects RX10 yX10_goesOn yX10_goesOn, Cond.code yX10_goesOn cX10_goesOn 10 (some .boolean), Cond.methodLink RX10 171 yX10_picture, Cond.instanceMethod yX10_picture, Cond.selects RX10 yX10_picture yX10_picture]
def wsX10_rank_r4 : List Cond := [Cond.code yX10_picture cX10_picture 6 (some .long)]
def wsX10_rank : List Cond := .code yX10_rank cX10_rank 5 (some .int) :: ((wsX10_rank_r1 ++ (wsX10_rank_r2 ++ (wsX10_rank_r3 ++ wsX10_rank_r4))) ++ wsX100)
def wsX10_sure_r1 : List Cond := [Cond.fieldLink RX10 79 "ShadowBenchModel" "thrown" "I", Cond.fieldLink RX10 175 "ShadowBenchModel" "found" "J", Cond.fieldLink RX10 163 "ShadowBenchModel" "spent" "Z", Cond.methodLink RX10 136 yX10_isSquare, Cond.instanceMethod yX10_isSquare, Cond.selects RX10 yX10_isSquare yX10_isSquare, Cond.initialized RX10, Cond.code yX10_isSquare cX10_isSquare 3 (some .boolean), Cond.fieldLink RX10 13 "ShadowBenchModel" "wide" "[I", Cond.fieldLink RX10 16 "ShadowBenchModel" "high" "[I", Cond.methodLink RX10 96 yX10_isJob, Cond.instanceMethod yX10_isJob, Cond.selects RX10 yX10_isJob yX10_isJob, Cond.code yX10_isJob cX10_isJob 2 (some .boolean), Cond.fieldLink RX10 93 "ShadowBenchModel" "jobs" "I", Cond.methodLink RX10 179 yX10_begin, Cond.instanceMethod yX10_begin, Cond.selects RX10 yX10_begin yX10_begin, Cond.code yX10_begin cX10_begin 1 none, Cond.fieldLink RX10 157 "ShadowBenchModel" "depth" "I", Cond.fieldLink RX10 35 "ShadowBenchModel" "rows" "[I", Cond.fieldLink RX10 160 "ShadowBenchModel" "tries" "I", Cond.methodLink RX10 182 yX10_isNext, Cond.instanceMethod yX10_isNext]
def wsX10_sure_r2 : List Cond := [Cond.selects RX10 yX10_isNext yX10_isNext, Cond.code yX10_isNext cX10_isNext 2 (some .boolean), Cond.constant RX10 167 (200000), Cond.methodLink RX10 168 yX10_goesOn, Cond.instanceMethod yX10_goesOn, Cond.selects RX10 yX10_goesOn yX10_goesOn, Cond.code yX10_goesOn cX10_goesOn 10 (some .boolean), Cond.fieldLink RX10 26 "ShadowBenchModel" "held" "[I", Cond.fieldLink RX10 19 "ShadowBenchModel" "sums" "[I", Cond.methodLink RX10 171 yX10_picture, Cond.instanceMethod yX10_picture, Cond.selects RX10 yX10_picture yX10_picture, Cond.code yX10_picture cX10_picture 6 (some .long), Cond.methodLink RX10 154 yX10_isFitting, Cond.instanceMethod yX10_isFitting, Cond.selects RX10 yX10_isFitting yX10_isFitting, Cond.code yX10_isFitting cX10_isFitting 7 (some .boolean), Cond.fieldLink RX10 22 "ShadowBenchModel" "isTold" "[Z", Cond.methodLink RX10 104 yX10_one, Cond.static yX10_one, Cond.code yX10_one cX10_one 3 (some .int), Cond.methodLink RX10 108 yX10_linesOf, Cond.static yX10_linesOf, Cond.code yX10_linesOf cX10_linesOf 3 (some .int)]
def wsX10_sure_r3 : List Cond := [Cond.methodLink RX10 112 yX10_shadowOf, Cond.static yX10_shadowOf, Cond.code yX10_shadowOf cX10_shadowOf 8 (some .int), Cond.methodLink RX10 100 yX10_lineOf, Cond.static yX10_lineOf, Cond.code yX10_lineOf cX10_lineOf 4 (some .int), Cond.methodLink RX10 150 yX10_isKind, Cond.instanceMethod yX10_isKind, Cond.selects RX10 yX10_isKind yX10_isKind, Cond.code yX10_isKind cX10_isKind 6 (some .boolean), Cond.fieldLink RX10 7 "ShadowBenchModel" "kind" "[I", Cond.methodLink RX10 143 yX10_isJoined, Cond.instanceMethod yX10_isJoined, Cond.selects RX10 yX10_isJoined yX10_isJoined, Cond.code yX10_isJoined cX10_isJoined 9 (some .boolean), Cond.fieldLink RX10 32 "ShadowBenchModel" "met" "[Z", Cond.methodLink RX10 146 yX10_isEven, Cond.static yX10_isEven, Cond.code yX10_isEven cX10_isEven 13 (some .boolean)]
def wsX10_sure : List Cond := .code yX10_sure cX10_sure 5 (some .int) :: ((wsX10_sure_r1 ++ (wsX10_sure_r2 ++ wsX10_sure_r3)) ++ wsX100)
def wsX10_clash : List Cond := .code yX10_clash cX10_clash 11 (some .int) :: ([.fieldLink RX10 79 "ShadowBenchModel" "thrown" "I", .fieldLink RX10 13 "ShadowBenchModel" "wide" "[I", .fieldLink RX10 16 "ShadowBenchModel" "high" "[I", .fieldLink RX10 19 "ShadowBenchModel" "sums" "[I", .fieldLink RX10 38 "ShadowBenchModel" "columns" "[I", .methodLink RX10 96 yX10_isJob, .instanceMethod yX10_isJob, .selects RX10 yX10_isJob yX10_isJob, .initialized RX10, .code yX10_isJob cX10_isJob 2 (some .boolean), .fieldLink RX10 93 "ShadowBenchModel" "jobs" "I"] ++ wsX100)
def wsX10_seek_r1 : List Cond := [Cond.fieldLink RX10 7 "ShadowBenchModel" "kind" "[I", Cond.fieldLink RX10 13 "ShadowBenchModel" "wide" "[I", Cond.fieldLink RX10 16 "ShadowBenchModel" "high" "[I", Cond.fieldLink RX10 175 "ShadowBenchModel" "found" "J", Cond.fieldLink RX10 29 "ShadowBenchModel" "weight" "[I", Cond.fieldLink RX10 191 "ShadowBenchModel" "bestSum" "I", Cond.fieldLink RX10 194 "ShadowBenchModel" "bestPicture" "J", Cond.fieldLink RX10 163 "ShadowBenchModel" "spent" "Z", Cond.methodLink RX10 96 yX10_isJob, Cond.instanceMethod yX10_isJob, Cond.selects RX10 yX10_isJob yX10_isJob, Cond.initialized RX10, Cond.code yX10_isJob cX10_isJob 2 (some .boolean), Cond.fieldLink RX10 93 "ShadowBenchModel" "jobs" "I", Cond.methodLink RX10 179 yX10_begin, Cond.instanceMethod yX10_begin, Cond.selects RX10 yX10_begin yX10_begin, Cond.code yX10_begin cX10_begin 1 none, Cond.fieldLink RX10 157 "ShadowBenchModel" "depth" "I", Cond.fieldLink RX10 35 "ShadowBenchModel" "rows" "[I", Cond.fieldLink RX10 160 "ShadowBenchModel" "tries" "I", Cond.methodLink RX10 182 yX10_isNext, Cond.instanceMethod yX10_isNext, Cond.selects RX10 yX10_isNext yX10_isNext]
def wsX10_seek_r2 : List Cond := [Cond.code yX10_isNext cX10_isNext 2 (some .boolean), Cond.constant RX10 167 (200000), Cond.methodLink RX10 168 yX10_goesOn, Cond.instanceMethod yX10_goesOn, Cond.selects RX10 yX10_goesOn yX10_goesOn, Cond.code yX10_goesOn cX10_goesOn 10 (some .boolean), Cond.fieldLink RX10 26 "ShadowBenchModel" "held" "[I", Cond.fieldLink RX10 19 "ShadowBenchModel" "sums" "[I", Cond.methodLink RX10 171 yX10_picture, Cond.instanceMethod yX10_picture, Cond.selects RX10 yX10_picture yX10_picture, Cond.code yX10_picture cX10_picture 6 (some .long), Cond.methodLink RX10 154 yX10_isFitting, Cond.instanceMethod yX10_isFitting, Cond.selects RX10 yX10_isFitting yX10_isFitting, Cond.code yX10_isFitting cX10_isFitting 7 (some .boolean), Cond.fieldLink RX10 22 "ShadowBenchModel" "isTold" "[Z", Cond.methodLink RX10 104 yX10_one, Cond.static yX10_one, Cond.code yX10_one cX10_one 3 (some .int), Cond.methodLink RX10 108 yX10_linesOf, Cond.static yX10_linesOf, Cond.code yX10_linesOf cX10_linesOf 3 (some .int), Cond.methodLink RX10 112 yX10_shadowOf]
def wsX10_seek_r3 : List Cond := [Cond.static yX10_shadowOf, Cond.code yX10_shadowOf cX10_shadowOf 8 (some .int), Cond.methodLink RX10 100 yX10_lineOf, Cond.static yX10_lineOf, Cond.code yX10_lineOf cX10_lineOf 4 (some .int), Cond.methodLink RX10 150 yX10_isKind, Cond.instanceMethod yX10_isKind, Cond.selects RX10 yX10_isKind yX10_isKind, Cond.code yX10_isKind cX10_isKind 6 (some .boolean), Cond.methodLink RX10 143 yX10_isJoined, Cond.instanceMethod yX10_isJoined, Cond.selects RX10 yX10_isJoined yX10_isJoined, Cond.code yX10_isJoined cX10_isJoined 9 (some .boolean), Cond.fieldLink RX10 32 "ShadowBenchModel" "met" "[Z", Cond.methodLink RX10 146 yX10_isEven, Cond.static yX10_isEven, Cond.code yX10_isEven cX10_isEven 13 (some .boolean)]
def wsX10_seek : List Cond := .code yX10_seek cX10_seek 5 (some .int) :: ((wsX10_seek_r1 ++ (wsX10_seek_r2 ++ wsX10_seek_r3)) ++ wsX100)
def wsX10_best_r1 : List Cond := [Cond.fieldLink RX10 79 "ShadowBenchModel" "thrown" "I", Cond.fieldLink RX10 191 "ShadowBenchModel" "bestSum" "I", Cond.methodLink RX10 197 yX10_seek, Cond.instanceMethod yX10_seek, Cond.selects RX10 yX10_seek yX10_seek, Cond.initialized RX10, Cond.code yX10_seek cX10_seek 5 (some .int), Cond.fieldLink RX10 7 "ShadowBenchModel" "kind" "[I", Cond.fieldLink RX10 13 "ShadowBenchModel" "wide" "[I", Cond.fieldLink RX10 16 "ShadowBenchModel" "high" "[I", Cond.fieldLink RX10 175 "ShadowBenchModel" "found" "J", Cond.fieldLink RX10 29 "ShadowBenchModel" "weight" "[I", Cond.fieldLink RX10 194 "ShadowBenchModel" "bestPicture" "J", Cond.fieldLink RX10 163 "ShadowBenchModel" "spent" "Z", Cond.methodLink RX10 96 yX10_isJob, Cond.instanceMethod yX10_isJob, Cond.selects RX10 yX10_isJob yX10_isJob, Cond.code yX10_isJob cX10_isJob 2 (some .boolean), Cond.fieldLink RX10 93 "ShadowBenchModel" "jobs" "I", Cond.methodLink RX10 179 yX10_begin, Cond.instanceMethod yX10_begin, Cond.selects RX10 yX10_begin yX10_begin, Cond.code yX10_begin cX10_begin 1 none, Cond.fieldLink RX10 157 "ShadowBenchModel" "depth" "I"]
def wsX10_best_r2 : List Cond := [Cond.fieldLink RX10 35 "ShadowBenchModel" "rows" "[I", Cond.fieldLink RX10 160 "ShadowBenchModel" "tries" "I", Cond.methodLink RX10 182 yX10_isNext, Cond.instanceMethod yX10_isNext, Cond.selects RX10 yX10_isNext yX10_isNext, Cond.code yX10_isNext cX10_isNext 2 (some .boolean), Cond.constant RX10 167 (200000), Cond.methodLink RX10 168 yX10_goesOn, Cond.instanceMethod yX10_goesOn, Cond.selects RX10 yX10_goesOn yX10_goesOn, Cond.code yX10_goesOn cX10_goesOn 10 (some .boolean), Cond.fieldLink RX10 26 "ShadowBenchModel" "held" "[I", Cond.fieldLink RX10 19 "ShadowBenchModel" "sums" "[I", Cond.methodLink RX10 171 yX10_picture, Cond.instanceMethod yX10_picture, Cond.selects RX10 yX10_picture yX10_picture, Cond.code yX10_picture cX10_picture 6 (some .long), Cond.methodLink RX10 154 yX10_isFitting, Cond.instanceMethod yX10_isFitting, Cond.selects RX10 yX10_isFitting yX10_isFitting, Cond.code yX10_isFitting cX10_isFitting 7 (some .boolean), Cond.fieldLink RX10 22 "ShadowBenchModel" "isTold" "[Z", Cond.methodLink RX10 104 yX10_one, Cond.static yX10_one]
def wsX10_best_r3 : List Cond := [Cond.code yX10_one cX10_one 3 (some .int), Cond.methodLink RX10 108 yX10_linesOf, Cond.static yX10_linesOf, Cond.code yX10_linesOf cX10_linesOf 3 (some .int), Cond.methodLink RX10 112 yX10_shadowOf, Cond.static yX10_shadowOf, Cond.code yX10_shadowOf cX10_shadowOf 8 (some .int), Cond.methodLink RX10 100 yX10_lineOf, Cond.static yX10_lineOf, Cond.code yX10_lineOf cX10_lineOf 4 (some .int), Cond.methodLink RX10 150 yX10_isKind, Cond.instanceMethod yX10_isKind, Cond.selects RX10 yX10_isKind yX10_isKind, Cond.code yX10_isKind cX10_isKind 6 (some .boolean), Cond.methodLink RX10 143 yX10_isJoined, Cond.instanceMethod yX10_isJoined, Cond.selects RX10 yX10_isJoined yX10_isJoined, Cond.code yX10_isJoined cX10_isJoined 9 (some .boolean), Cond.fieldLink RX10 32 "ShadowBenchModel" "met" "[Z", Cond.methodLink RX10 146 yX10_isEven, Cond.static yX10_isEven, Cond.code yX10_isEven cX10_isEven 13 (some .boolean)]
def wsX10_best : List Cond := .code yX10_best cX10_best 2 (some .int) :: ((wsX10_best_r1 ++ (wsX10_best_r2 ++ wsX10_best_r3)) ++ wsX100)
def wsX10_bestOne_r1 : List Cond := [Cond.fieldLink RX10 79 "ShadowBenchModel" "thrown" "I", Cond.fieldLink RX10 194 "ShadowBenchModel" "bestPicture" "J", Cond.methodLink RX10 197 yX10_seek, Cond.instanceMethod yX10_seek, Cond.selects RX10 yX10_seek yX10_seek, Cond.initialized RX10, Cond.code yX10_seek cX10_seek 5 (some .int), Cond.fieldLink RX10 7 "ShadowBenchModel" "kind" "[I", Cond.fieldLink RX10 13 "ShadowBenchModel" "wide" "[I", Cond.fieldLink RX10 16 "ShadowBenchModel" "high" "[I", Cond.fieldLink RX10 175 "ShadowBenchModel" "found" "J", Cond.fieldLink RX10 29 "ShadowBenchModel" "weight" "[I", Cond.fieldLink RX10 191 "ShadowBenchModel" "bestSum" "I", Cond.fieldLink RX10 163 "ShadowBenchModel" "spent" "Z", Cond.methodLink RX10 96 yX10_isJob, Cond.instanceMethod yX10_isJob, Cond.selects RX10 yX10_isJob yX10_isJob, Cond.code yX10_isJob cX10_isJob 2 (some .boolean), Cond.fieldLink RX10 93 "ShadowBenchModel" "jobs" "I", Cond.methodLink RX10 179 yX10_begin, Cond.instanceMethod yX10_begin, Cond.selects RX10 yX10_begin yX10_begin, Cond.code yX10_begin cX10_begin 1 none, Cond.fieldLink RX10 157 "ShadowBenchModel" "depth" "I"]
def wsX10_bestOne_r2 : List Cond := [Cond.fieldLink RX10 35 "ShadowBenchModel" "rows" "[I", Cond.fieldLink RX10 160 "ShadowBenchModel" "tries" "I", Cond.methodLink RX10 182 yX10_isNext, Cond.instanceMethod yX10_isNext, Cond.selects RX10 yX10_isNext yX10_isNext, Cond.code yX10_isNext cX10_isNext 2 (some .boolean), Cond.constant RX10 167 (200000), Cond.methodLink RX10 168 yX10_goesOn, Cond.instanceMethod yX10_goesOn, Cond.selects RX10 yX10_goesOn yX10_goesOn, Cond.code yX10_goesOn cX10_goesOn 10 (some .boolean), Cond.fieldLink RX10 26 "ShadowBenchModel" "held" "[I", Cond.fieldLink RX10 19 "ShadowBenchModel" "sums" "[I", Cond.methodLink RX10 171 yX10_picture, Cond.instanceMethod yX10_picture, Cond.selects RX10 yX10_picture yX10_picture, Cond.code yX10_picture cX10_picture 6 (some .long), Cond.methodLink RX10 154 yX10_isFitting, Cond.instanceMethod yX10_isFitting, Cond.selects RX10 yX10_isFitting yX10_isFitting, Cond.code yX10_isFitting cX10_isFitting 7 (some .boolean), Cond.fieldLink RX10 22 "ShadowBenchModel" "isTold" "[Z", Cond.methodLink RX10 104 yX10_one, Cond.static yX10_one]
def wsX10_bestOne_r3 : List Cond := [Cond.code yX10_one cX10_one 3 (some .int), Cond.methodLink RX10 108 yX10_linesOf, Cond.static yX10_linesOf, Cond.code yX10_linesOf cX10_linesOf 3 (some .int), Cond.methodLink RX10 112 yX10_shadowOf, Cond.static yX10_shadowOf, Cond.code yX10_shadowOf cX10_shadowOf 8 (some .int), Cond.methodLink RX10 100 yX10_lineOf, Cond.static yX10_lineOf, Cond.code yX10_lineOf cX10_lineOf 4 (some .int), Cond.methodLink RX10 150 yX10_isKind, Cond.instanceMethod yX10_isKind, Cond.selects RX10 yX10_isKind yX10_isKind, Cond.code yX10_isKind cX10_isKind 6 (some .boolean), Cond.methodLink RX10 143 yX10_isJoined, Cond.instanceMethod yX10_isJoined, Cond.selects RX10 yX10_isJoined yX10_isJoined, Cond.code yX10_isJoined cX10_isJoined 9 (some .boolean), Cond.fieldLink RX10 32 "ShadowBenchModel" "met" "[Z", Cond.methodLink RX10 146 yX10_isEven, Cond.static yX10_isEven, Cond.code yX10_isEven cX10_isEven 13 (some .boolean)]
def wsX10_bestOne : List Cond := .code yX10_bestOne cX10_bestOne 2 (some .long) :: ((wsX10_bestOne_r1 ++ (wsX10_bestOne_r2 ++ wsX10_bestOne_r3)) ++ wsX100)
def wsX10_goSwitches : List Cond := .code yX10_goSwitches cX10_goSwitches 15 (some .int) :: ([.fieldLink RX10 201 "ShadowBenchModel" "behind" "J", .methodLink RX10 104 yX10_one, .static yX10_one, .initialized RX10, .code yX10_one cX10_one 3 (some .int)] ++ wsX100)
def wsX10_across : List Cond := .code yX10_across cX10_across 1 (some .int) :: ([])
def wsX10_down : List Cond := .code yX10_down cX10_down 1 (some .int) :: ([])
set_option maxRecDepth 20000 in
theorem ggX10_job_X10_isIn : GoodIn wsX10_job wsX10_isIn := goodIn_r _ [12] (by decide +kernel) (by decide +kernel)
def chX10_job : List (List Cond) := [[.fieldLink RX10 79 "ShadowBenchModel" "thrown" "I", .constantLong RX10 116 (3), .fieldLink RX10 93 "ShadowBenchModel" "jobs" "I", .fieldLink RX10 7 "ShadowBenchModel" "kind" "[I", .fieldLink RX10 13 "ShadowBenchModel" "wide" "[I", .fieldLink RX10 16 "ShadowBenchModel" "high" "[I", .fieldLink RX10 22 "ShadowBenchModel" "isTold" "[Z", .fieldLink RX10 26 "ShadowBenchModel" "held" "[I", .methodLink RX10 85 yX10_isIn, .static yX10_isIn, .initialized RX10, .code yX10_isIn cX10_isIn 6 (some .boolean), .methodLink RX10 89 yX10_isBoard, .static yX10_isBoard, .code yX10_isBoard cX10_isBoard 2 (some .boolean), .constantLong RX10 83 (6)], wsX100]
set_option maxRecDepth 20000 in
theorem chX10_job_in : ∀ c ∈ chX10_job, ∀ w ∈ c, w ∈ wsX10_job := (all_c (P := fun c => ∀ w ∈ c, w ∈ wsX10_job) (fun w h => List.mem_cons_of_mem _ (List.mem_append_left _ (h))) (all_c (P := fun c => ∀ w ∈ c, w ∈ wsX10_job) (fun w h => List.mem_cons_of_mem _ (List.mem_append_right _ (h))) (fun _ h => nomatch h)))
set_option maxRecDepth 20000 in
theorem gX10_job_X10_isIn : GoodIn wsX10_job (va_wsS RX10 85 yX10_isIn wsX10_isIn) := goodIn_app (goodIn_c chX10_job chX10_job_in _ [(0, 8), (0, 9), (0, 10)] (by rfl) (by decide +kernel)) ggX10_job_X10_isIn
set_option maxRecDepth 20000 in
theorem ggX10_job_X10_isBoard : GoodIn wsX10_job wsX10_isBoard := goodIn_c chX10_job chX10_job_in _ [(0, 14), (0, 15), (0, 8), (0, 9), (0, 10), (0, 11)] (by rfl) (by decide +kernel)
set_option maxRecDepth 20000 in
theorem gX10_job_X10_isBoard : GoodIn wsX10_job (va_wsS RX10 89 yX10_isBoard wsX10_isBoard) := goodIn_app (goodIn_c chX10_job chX10_job_in _ [(0, 12), (0, 13), (0, 10)] (by rfl) (by decide +kernel)) ggX10_job_X10_isBoard
theorem dX10_job_0 : decode cX10_job 0 = .ok (.aload_n 0, 1) := by decide +kernel
theorem dX10_job_1 : decode cX10_job 1 = .ok (.iconst 0, 1) := by decide +kernel
theorem dX10_job_2 : decode cX10_job 2 = .ok (.putfield 79, 3) := by decide +kernel
theorem dX10_job_5 : decode cX10_job 5 = .ok (.iload_n 1, 1) := by decide +kernel
theorem dX10_job_6 : decode cX10_job 6 = .ok (.i2l, 1) := by decide +kernel
theorem dX10_job_7 : decode cX10_job 7 = .ok (.lconst 0, 1) := by decide +kernel
theorem dX10_job_8 : decode cX10_job 8 = .ok (.ldc2_w 116, 3) := by decide +kernel
theorem dX10_job_11 : decode cX10_job 11 = .ok (.invokestatic 85, 3) := by decide +kernel
theorem dX10_job_14 : decode cX10_job 14 = .ok (.ifCond .eq 11, 3) := by decide +kernel
theorem dX10_job_17 : decode cX10_job 17 = .ok (.iload_n 2, 1) := by decide +kernel
theorem dX10_job_18 : decode cX10_job 18 = .ok (.iload_n 3, 1) := by decide +kernel
theorem dX10_job_19 : decode cX10_job 19 = .ok (.invokestatic 89, 3) := by decide +kernel
theorem dX10_job_22 : decode cX10_job 22 = .ok (.ifCond .ne 5, 3) := by decide +kernel
theorem dX10_job_25 : decode cX10_job 25 = .ok (.iconst (-1), 1) := by decide +kernel
theorem dX10_job_26 : decode cX10_job 26 = .ok (.ireturn, 1) := by decide +kernel
theorem dX10_job_27 : decode cX10_job 27 = .ok (.aload_n 0, 1) := by decide +kernel
theorem dX10_job_28 : decode cX10_job 28 = .ok (.getfield 93, 3) := by decide +kernel
theorem dX10_job_31 : decode cX10_job 31 = .ok (.bipush 8, 2) := by decide +kernel
theorem dX10_job_33 : decode cX10_job 33 = .ok (.if_icmp .ne 6, 3) := by decide +kernel
theorem dX10_job_36 : decode cX10_job 36 = .ok (.bipush (-2), 2) := by decide +kernel
theorem dX10_job_38 : decode cX10_job 38 = .ok (.ireturn, 1) := by decide +kernel
theorem dX10_job_39 : decode cX10_job 39 = .ok (.aload_n 0, 1) := by decide +kernel
theorem dX10_job_40 : decode cX10_job 40 = .ok (.getfield 7, 3) := by decide +kernel
theorem dX10_job_43 : decode cX10_job 43 = .ok (.aload_n 0, 1) := by decide +kernel
theorem dX10_job_44 : decode cX10_job 44 = .ok (.getfield 93, 3) := by decide +kernel
theorem dX10_job_47 : decode cX10_job 47 = .ok (.iload_n 1, 1) := by decide +kernel
theorem dX10_job_48 : decode cX10_job 48 = .ok (.iastore, 1) := by decide +kernel
theorem dX10_job_49 : decode cX10_job 49 = .ok (.aload_n 0, 1) := by decide +kernel
theorem dX10_job_50 : decode cX10_job 50 = .ok (.getfield 13, 3) := by decide +kernel
theorem dX10_job_53 : decode cX10_job 53 = .ok (.aload_n 0, 1) := by decide +kernel
theorem dX10_job_54 : decode cX10_job 54 = .ok (.getfield 93, 3) := by decide +kernel
theorem dX10_job_57 : decode cX10_job 57 = .ok (.iload_n 2, 1) := by decide +kernel
theorem dX10_job_58 : decode cX10_job 58 = .ok (.iastore, 1) := by decide +kernel
theorem dX10_job_59 : decode cX10_job 59 = .ok (.aload_n 0, 1) := by decide +kernel
theorem dX10_job_60 : decode cX10_job 60 = .ok (.getfield 16, 3) := by decide +kernel
theorem dX10_job_63 : decode cX10_job 63 = .ok (.aload_n 0, 1) := by decide +kernel
theorem dX10_job_64 : decode cX10_job 64 = .ok (.getfield 93, 3) := by decide +kernel
theorem dX10_job_67 : decode cX10_job 67 = .ok (.iload_n 3, 1) := by decide +kernel
theorem dX10_job_68 : decode cX10_job 68 = .ok (.iastore, 1) := by decide +kernel
theorem dX10_job_69 : decode cX10_job 69 = .ok (.aload_n 0, 1) := by decide +kernel
theorem dX10_job_70 : decode cX10_job 70 = .ok (.getfield 22, 3) := by decide +kernel
theorem dX10_job_73 : decode cX10_job 73 = .ok (.iconst 4, 1) := by decide +kernel
theorem dX10_job_74 : decode cX10_job 74 = .ok (.aload_n 0, 1) := by decide +kernel
theorem dX10_job_75 : decode cX10_job 75 = .ok (.getfield 93, 3) := by decide +kernel
theorem dX10_job_78 : decode cX10_job 78 = .ok (.imul, 1) := by decide +kernel
theorem dX10_job_79 : decode cX10_job 79 = .ok (.iconst 1, 1) := by decide +kernel
theorem dX10_job_80 : decode cX10_job 80 = .ok (.bastore, 1) := by decide +kernel
theorem dX10_job_81 : decode cX10_job 81 = .ok (.aload_n 0, 1) := by decide +kernel
theorem dX10_job_82 : decode cX10_job 82 = .ok (.getfield 22, 3) := by decide +kernel
theorem dX10_job_85 : decode cX10_job 85 = .ok (.iconst 4, 1) := by decide +kernel
theorem dX10_job_86 : decode cX10_job 86 = .ok (.aload_n 0, 1) := by decide +kernel
theorem dX10_job_87 : decode cX10_job 87 = .ok (.getfield 93, 3) := by decide +kernel
theorem dX10_job_90 : decode cX10_job 90 = .ok (.imul, 1) := by decide +kernel
theorem dX10_job_91 : decode cX10_job 91 = .ok (.iconst 1, 1) := by decide +kernel
theorem dX10_job_92 : decode cX10_job 92 = .ok (.iadd, 1) := by decide +kernel
theorem dX10_job_93 : decode cX10_job 93 = .ok (.iconst 1, 1) := by decide +kernel
theorem dX10_job_94 : decode cX10_job 94 = .ok (.bastore, 1) := by decide +kernel
theorem dX10_job_95 : decode cX10_job 95 = .ok (.bipush 36, 2) := by decide +kernel
theorem dX10_job_97 : decode cX10_job 97 = .ok (.aload_n 0, 1) := by decide +kernel
theorem dX10_job_98 : decode cX10_job 98 = .ok (.getfield 93, 3) := by decide +kernel
theorem dX10_job_101 : decode cX10_job 101 = .ok (.imul, 1) := by decide +kernel
theorem dX10_job_102 : decode cX10_job 102 = .ok (.istore 4, 2) := by decide +kernel
theorem dX10_job_104 : decode cX10_job 104 = .ok (.iload 4, 2) := by decide +kernel
theorem dX10_job_106 : decode cX10_job 106 = .ok (.bipush 36, 2) := by decide +kernel
theorem dX10_job_108 : decode cX10_job 108 = .ok (.aload_n 0, 1) := by decide +kernel
theorem dX10_job_109 : decode cX10_job 109 = .ok (.getfield 93, 3) := by decide +kernel
theorem dX10_job_112 : decode cX10_job 112 = .ok (.imul, 1) := by decide +kernel
theorem dX10_job_113 : decode cX10_job 113 = .ok (.bipush 36, 2) := by decide +kernel
theorem dX10_job_115 : decode cX10_job 115 = .ok (.iadd, 1) := by decide +kernel
theorem dX10_job_116 : decode cX10_job 116 = .ok (.if_icmp .ge 17, 3) := by decide +kernel
theorem dX10_job_119 : decode cX10_job 119 = .ok (.aload_n 0, 1) := by decide +kernel
theorem dX10_job_120 : decode cX10_job 120 = .ok (.getfield 26, 3) := by decide +kernel
theorem dX10_job_123 : decode cX10_job 123 = .ok (.iload 4, 2) := by decide +kernel
theorem dX10_job_125 : decode cX10_job 125 = .ok (.iconst 2, 1) := by decide +kernel
theorem dX10_job_126 : decode cX10_job 126 = .ok (.iastore, 1) := by decide +kernel
theorem dX10_job_127 : decode cX10_job 127 = .ok (.iinc 4 1, 3) := by decide +kernel
theorem dX10_job_130 : decode cX10_job 130 = .ok (.goto (-26), 3) := by decide +kernel
theorem dX10_job_133 : decode cX10_job 133 = .ok (.aload_n 0, 1) := by decide +kernel
theorem dX10_job_134 : decode cX10_job 134 = .ok (.dup, 1) := by decide +kernel
theorem dX10_job_135 : decode cX10_job 135 = .ok (.getfield 93, 3) := by decide +kernel
theorem dX10_job_138 : decode cX10_job 138 = .ok (.iconst 1, 1) := by decide +kernel
theorem dX10_job_139 : decode cX10_job 139 = .ok (.iadd, 1) := by decide +kernel
theorem dX10_job_140 : decode cX10_job 140 = .ok (.putfield 93, 3) := by decide +kernel
theorem dX10_job_143 : decode cX10_job 143 = .ok (.aload_n 0, 1) := by decide +kernel
theorem dX10_job_144 : decode cX10_job 144 = .ok (.getfield 93, 3) := by decide +kernel
theorem dX10_job_147 : decode cX10_job 147 = .ok (.iconst 1, 1) := by decide +kernel
theorem dX10_job_148 : decode cX10_job 148 = .ok (.isub, 1) := by decide +kernel
theorem dX10_job_149 : decode cX10_job 149 = .ok (.ireturn, 1) := by decide +kernel
def chX10_fits : List (List Cond) := [wsX10_fits_r1, wsX10_fits_r2, wsX10_fits_r3, wsX100]
set_option maxRecDepth 20000 in
theorem chX10_fits_in : ∀ c ∈ chX10_fits, ∀ w ∈ c, w ∈ wsX10_fits := (all_c (P := fun c => ∀ w ∈ c, w ∈ wsX10_fits) (fun w h => List.mem_cons_of_mem _ (List.mem_append_left _ (List.mem_append_left _ (h)))) (all_c (P := fun c => ∀ w ∈ c, w ∈ wsX10_fits) (fun w h => List.mem_cons_of_mem _ (List.mem_append_left _ (List.mem_append_right _ (List.mem_append_left _ (h))))) (all_c (P := fun c => ∀ w ∈ c, w ∈ wsX10_fits) (fun w h => List.mem_cons_of_mem _ (List.mem_append_left _ (List.mem_append_right _ (List.mem_append_right _ (h))))) (all_c (P := fun c => ∀ w ∈ c, w ∈ wsX10_fits) (fun w h => List.mem_cons_of_mem _ (List.mem_append_right _ (h))) (fun _ h => nomatch h)))))
set_option maxRecDepth 20000 in
theorem ggX10_fits_X10_isJob : GoodIn wsX10_fits wsX10_isJob := goodIn_ca (goodIn_c chX10_fits chX10_fits_in _ [(0, 7), (0, 8)] (by rfl) (by decide +kernel)) (goodIn_sub (fun _ h => List.mem_cons_of_mem _ (List.mem_append_right _ (h))) (by decide +kernel))
set_option maxRecDepth 20000 in
theorem gX10_fits_X10_isJob : GoodIn wsX10_fits (wsV RX10 96 RX10 yX10_isJob wsX10_isJob) := goodIn_app (goodIn_c chX10_fits chX10_fits_in _ [(0, 3), (0, 4), (0, 5), (0, 6)] (by rfl) (by decide +kernel)) ggX10_fits_X10_isJob
set_option maxRecDepth 20000 in
theorem ggX10_fits_X10_isPicture : GoodIn wsX10_fits wsX10_isPicture := goodIn_c chX10_fits chX10_fits_in _ [(0, 11), (0, 12), (0, 13), (0, 6), (0, 14), (0, 15), (0, 16), (0, 17), (0, 18)] (by rfl) (by decide +kernel)
set_option maxRecDepth 20000 in
theorem gX10_fits_X10_isPicture : GoodIn wsX10_fits (va_wsS RX10 126 yX10_isPicture wsX10_isPicture) := goodIn_app (goodIn_c chX10_fits chX10_fits_in _ [(0, 9), (0, 10), (0, 6)] (by rfl) (by decide +kernel)) ggX10_fits_X10_isPicture
set_option maxRecDepth 20000 in
theorem ggX10_fits_X10_isFitting : GoodIn wsX10_fits wsX10_isFitting := goodIn_ca (goodIn_c chX10_fits chX10_fits_in _ [(0, 22), (0, 1), (0, 2), (0, 23), (1, 0), (1, 1), (1, 2), (1, 3), (0, 6), (1, 4), (1, 5), (1, 6), (1, 7), (1, 8), (1, 9), (1, 10), (1, 11), (1, 12), (1, 13), (1, 14), (1, 15), (1, 16), (1, 17), (1, 18), (1, 19), (1, 20), (1, 21), (1, 22), (1, 23), (2, 0), (2, 1), (2, 2)] (by rfl) (by decide +kernel)) (goodIn_sub (fun _ h => List.mem_cons_of_mem _ (List.mem_append_right _ (h))) (by decide +kernel))
set_option maxRecDepth 20000 in
theorem gX10_fits_X10_isFitting : GoodIn wsX10_fits (wsV RX10 154 RX10 yX10_isFitting wsX10_isFitting) := goodIn_app (goodIn_c chX10_fits chX10_fits_in _ [(0, 19), (0, 20), (0, 21), (0, 6)] (by rfl) (by decide +kernel)) ggX10_fits_X10_isFitting
theorem dX10_fits_0 : decode cX10_fits 0 = .ok (.aload_n 0, 1) := by decide +kernel
theorem dX10_fits_1 : decode cX10_fits 1 = .ok (.iconst 0, 1) := by decide +kernel
theorem dX10_fits_2 : decode cX10_fits 2 = .ok (.putfield 79, 3) := by decide +kernel
theorem dX10_fits_5 : decode cX10_fits 5 = .ok (.aload_n 0, 1) := by decide +kernel
theorem dX10_fits_6 : decode cX10_fits 6 = .ok (.iload_n 1, 1) := by decide +kernel
theorem dX10_fits_7 : decode cX10_fits 7 = .ok (.invokevirtual 96, 3) := by decide +kernel
theorem dX10_fits_10 : decode cX10_fits 10 = .ok (.ifCond .eq 22, 3) := by decide +kernel
theorem dX10_fits_13 : decode cX10_fits 13 = .ok (.aload_n 0, 1) := by decide +kernel
theorem dX10_fits_14 : decode cX10_fits 14 = .ok (.getfield 13, 3) := by decide +kernel
theorem dX10_fits_17 : decode cX10_fits 17 = .ok (.iload_n 1, 1) := by decide +kernel
theorem dX10_fits_18 : decode cX10_fits 18 = .ok (.iaload, 1) := by decide +kernel
theorem dX10_fits_19 : decode cX10_fits 19 = .ok (.aload_n 0, 1) := by decide +kernel
theorem dX10_fits_20 : decode cX10_fits 20 = .ok (.getfield 16, 3) := by decide +kernel
theorem dX10_fits_23 : decode cX10_fits 23 = .ok (.iload_n 1, 1) := by decide +kernel
theorem dX10_fits_24 : decode cX10_fits 24 = .ok (.iaload, 1) := by decide +kernel
theorem dX10_fits_25 : decode cX10_fits 25 = .ok (.lload_n 2, 1) := by decide +kernel
theorem dX10_fits_26 : decode cX10_fits 26 = .ok (.invokestatic 126, 3) := by decide +kernel
theorem dX10_fits_29 : decode cX10_fits 29 = .ok (.ifCond .ne 7, 3) := by decide +kernel
theorem dX10_fits_32 : decode cX10_fits 32 = .ok (.iconst (-1), 1) := by decide +kernel
theorem dX10_fits_33 : decode cX10_fits 33 = .ok (.goto 17, 3) := by decide +kernel
theorem dX10_fits_36 : decode cX10_fits 36 = .ok (.aload_n 0, 1) := by decide +kernel
theorem dX10_fits_37 : decode cX10_fits 37 = .ok (.iload_n 1, 1) := by decide +kernel
theorem dX10_fits_38 : decode cX10_fits 38 = .ok (.lload_n 2, 1) := by decide +kernel
theorem dX10_fits_39 : decode cX10_fits 39 = .ok (.invokevirtual 154, 3) := by decide +kernel
theorem dX10_fits_42 : decode cX10_fits 42 = .ok (.ifCond .eq 7, 3) := by decide +kernel
theorem dX10_fits_45 : decode cX10_fits 45 = .ok (.iconst 1, 1) := by decide +kernel
theorem dX10_fits_46 : decode cX10_fits 46 = .ok (.goto 4, 3) := by decide +kernel
theorem dX10_fits_49 : decode cX10_fits 49 = .ok (.iconst 0, 1) := by decide +kernel
theorem dX10_fits_50 : decode cX10_fits 50 = .ok (.ireturn, 1) := by decide +kernel
def chX10_isNext : List (List Cond) := [wsX10_isNext_r1, wsX10_isNext_r2, wsX10_isNext_r3, wsX100]
set_option maxRecDepth 20000 in
theorem chX10_isNext_in : ∀ c ∈ chX10_isNext, ∀ w ∈ c, w ∈ wsX10_isNext := (all_c (P := fun c => ∀ w ∈ c, w ∈ wsX10_isNext) (fun w h => List.mem_cons_of_mem _ (List.mem_append_left _ (List.mem_append_left _ (h)))) (all_c (P := fun c => ∀ w ∈ c, w ∈ wsX10_isNext) (fun w h => List.mem_cons_of_mem _ (List.mem_append_left _ (List.mem_append_right _ (List.mem_append_left _ (h))))) (all_c (P := fun c => ∀ w ∈ c, w ∈ wsX10_isNext) (fun w h => List.mem_cons_of_mem _ (List.mem_append_left _ (List.mem_append_right _ (List.mem_append_right _ (h))))) (all_c (P := fun c => ∀ w ∈ c, w ∈ wsX10_isNext) (fun w h => List.mem_cons_of_mem _ (List.mem_append_right _ (h))) (fun _ h => nomatch h)))))
set_option maxRecDepth 20000 in
theorem ggX10_isNext_X10_goesOn : GoodIn wsX10_isNext wsX10_goesOn := goodIn_ca (goodIn_c chX10_isNext chX10_isNext_in _ [(0, 12), (0, 2), (0, 13), (0, 0), (0, 1), (0, 14)] (by rfl) (by decide +kernel)) (goodIn_sub (fun _ h => List.mem_cons_of_mem _ (List.mem_append_right _ (h))) (by decide +kernel))
set_option maxRecDepth 20000 in
theorem gX10_isNext_X10_goesOn : GoodIn wsX10_isNext (wsV RX10 168 RX10 yX10_goesOn wsX10_goesOn) := goodIn_app (goodIn_c chX10_isNext chX10_isNext_in _ [(0, 8), (0, 9), (0, 10), (0, 11)] (by rfl) (by decide +kernel)) ggX10_isNext_X10_goesOn
set_option maxRecDepth 20000 in
theorem ggX10_isNext_X10_picture : GoodIn wsX10_isNext wsX10_picture := goodIn_ca (goodIn_c chX10_isNext chX10_isNext_in _ [(0, 18), (0, 1), (0, 2)] (by rfl) (by decide +kernel)) (goodIn_sub (fun _ h => List.mem_cons_of_mem _ (List.mem_append_right _ (h))) (by decide +kernel))
set_option maxRecDepth 20000 in
theorem gX10_isNext_X10_picture : GoodIn wsX10_isNext (wsV RX10 171 RX10 yX10_picture wsX10_picture) := goodIn_app (goodIn_c chX10_isNext chX10_isNext_in _ [(0, 15), (0, 16), (0, 17), (0, 11)] (by rfl) (by decide +kernel)) ggX10_isNext_X10_picture
set_option maxRecDepth 20000 in
theorem ggX10_isNext_X10_isFitting : GoodIn wsX10_isNext wsX10_isFitting := goodIn_ca (goodIn_c chX10_isNext chX10_isNext_in _ [(0, 22), (0, 2), (0, 6), (0, 13), (0, 23), (0, 14), (1, 0), (1, 1), (0, 11), (1, 2), (1, 3), (1, 4), (1, 5), (1, 6), (1, 7), (1, 8), (1, 9), (1, 10), (1, 11), (1, 12), (1, 13), (1, 14), (1, 15), (1, 16), (1, 17), (1, 18), (1, 19), (1, 20), (1, 21), (1, 22), (1, 23), (2, 0)] (by rfl) (by decide +kernel)) (goodIn_sub (fun _ h => List.mem_cons_of_mem _ (List.mem_append_right _ (h))) (by decide +kernel))
set_option maxRecDepth 20000 in
theorem gX10_isNext_X10_isFitting : GoodIn wsX10_isNext (wsV RX10 154 RX10 yX10_isFitting wsX10_isFitting) := goodIn_app (goodIn_c chX10_isNext chX10_isNext_in _ [(0, 19), (0, 20), (0, 21), (0, 11)] (by rfl) (by decide +kernel)) ggX10_isNext_X10_isFitting
theorem dX10_isNext_0 : decode cX10_isNext 0 = .ok (.aload_n 0, 1) := by decide +kernel
theorem dX10_isNext_1 : decode cX10_isNext 1 = .ok (.getfield 157, 3) := by decide +kernel
theorem dX10_isNext_4 : decode cX10_isNext 4 = .ok (.ifCond .lt 160, 3) := by decide +kernel
theorem dX10_isNext_7 : decode cX10_isNext 7 = .ok (.aload_n 0, 1) := by decide +kernel
theorem dX10_isNext_8 : decode cX10_isNext 8 = .ok (.getfield 35, 3) := by decide +kernel
theorem dX10_isNext_11 : decode cX10_isNext 11 = .ok (.aload_n 0, 1) := by decide +kernel
theorem dX10_isNext_12 : decode cX10_isNext 12 = .ok (.getfield 157, 3) := by decide +kernel
theorem dX10_isNext_15 : decode cX10_isNext 15 = .ok (.dup2, 1) := by decide +kernel
theorem dX10_isNext_16 : decode cX10_isNext 16 = .ok (.iaload, 1) := by decide +kernel
theorem dX10_isNext_17 : decode cX10_isNext 17 = .ok (.iconst 1, 1) := by decide +kernel
theorem dX10_isNext_18 : decode cX10_isNext 18 = .ok (.iadd, 1) := by decide +kernel
theorem dX10_isNext_19 : decode cX10_isNext 19 = .ok (.iastore, 1) := by decide +kernel
theorem dX10_isNext_20 : decode cX10_isNext 20 = .ok (.aload_n 0, 1) := by decide +kernel
theorem dX10_isNext_21 : decode cX10_isNext 21 = .ok (.getfield 35, 3) := by decide +kernel
theorem dX10_isNext_24 : decode cX10_isNext 24 = .ok (.aload_n 0, 1) := by decide +kernel
theorem dX10_isNext_25 : decode cX10_isNext 25 = .ok (.getfield 157, 3) := by decide +kernel
theorem dX10_isNext_28 : decode cX10_isNext 28 = .ok (.iaload, 1) := by decide +kernel
theorem dX10_isNext_29 : decode cX10_isNext 29 = .ok (.iconst 1, 1) := by decide +kernel
theorem dX10_isNext_30 : decode cX10_isNext 30 = .ok (.aload_n 0, 1) := by decide +kernel
theorem dX10_isNext_31 : decode cX10_isNext 31 = .ok (.getfield 13, 3) := by decide +kernel
theorem dX10_isNext_34 : decode cX10_isNext 34 = .ok (.iload_n 1, 1) := by decide +kernel
theorem dX10_isNext_35 : decode cX10_isNext 35 = .ok (.iaload, 1) := by decide +kernel
theorem dX10_isNext_36 : decode cX10_isNext 36 = .ok (.ishl, 1) := by decide +kernel
theorem dX10_isNext_37 : decode cX10_isNext 37 = .ok (.if_icmp .ne 16, 3) := by decide +kernel
theorem dX10_isNext_40 : decode cX10_isNext 40 = .ok (.aload_n 0, 1) := by decide +kernel
theorem dX10_isNext_41 : decode cX10_isNext 41 = .ok (.dup, 1) := by decide +kernel
theorem dX10_isNext_42 : decode cX10_isNext 42 = .ok (.getfield 157, 3) := by decide +kernel
theorem dX10_isNext_45 : decode cX10_isNext 45 = .ok (.iconst 1, 1) := by decide +kernel
theorem dX10_isNext_46 : decode cX10_isNext 46 = .ok (.isub, 1) := by decide +kernel
theorem dX10_isNext_47 : decode cX10_isNext 47 = .ok (.putfield 157, 3) := by decide +kernel
theorem dX10_isNext_50 : decode cX10_isNext 50 = .ok (.goto (-50), 3) := by decide +kernel
theorem dX10_isNext_53 : decode cX10_isNext 53 = .ok (.aload_n 0, 1) := by decide +kernel
theorem dX10_isNext_54 : decode cX10_isNext 54 = .ok (.getfield 160, 3) := by decide +kernel
theorem dX10_isNext_57 : decode cX10_isNext 57 = .ok (.ldc 167, 2) := by decide +kernel
theorem dX10_isNext_59 : decode cX10_isNext 59 = .ok (.if_icmp .ne 10, 3) := by decide +kernel
theorem dX10_isNext_62 : decode cX10_isNext 62 = .ok (.aload_n 0, 1) := by decide +kernel
theorem dX10_isNext_63 : decode cX10_isNext 63 = .ok (.iconst 1, 1) := by decide +kernel
theorem dX10_isNext_64 : decode cX10_isNext 64 = .ok (.putfield 163, 3) := by decide +kernel
theorem dX10_isNext_67 : decode cX10_isNext 67 = .ok (.iconst 0, 1) := by decide +kernel
theorem dX10_isNext_68 : decode cX10_isNext 68 = .ok (.ireturn, 1) := by decide +kernel
theorem dX10_isNext_69 : decode cX10_isNext 69 = .ok (.aload_n 0, 1) := by decide +kernel
theorem dX10_isNext_70 : decode cX10_isNext 70 = .ok (.dup, 1) := by decide +kernel
theorem dX10_isNext_71 : decode cX10_isNext 71 = .ok (.getfield 160, 3) := by decide +kernel
theorem dX10_isNext_74 : decode cX10_isNext 74 = .ok (.iconst 1, 1) := by decide +kernel
theorem dX10_isNext_75 : decode cX10_isNext 75 = .ok (.iadd, 1) := by decide +kernel
theorem dX10_isNext_76 : decode cX10_isNext 76 = .ok (.putfield 160, 3) := by decide +kernel
theorem dX10_isNext_79 : decode cX10_isNext 79 = .ok (.aload_n 0, 1) := by decide +kernel
theorem dX10_isNext_80 : decode cX10_isNext 80 = .ok (.iload_n 1, 1) := by decide +kernel
theorem dX10_isNext_81 : decode cX10_isNext 81 = .ok (.invokevirtual 168, 3) := by decide +kernel
theorem dX10_isNext_84 : decode cX10_isNext 84 = .ok (.ifCond .ne 6, 3) := by decide +kernel
theorem dX10_isNext_87 : decode cX10_isNext 87 = .ok (.goto (-87), 3) := by decide +kernel
theorem dX10_isNext_90 : decode cX10_isNext 90 = .ok (.aload_n 0, 1) := by decide +kernel
theorem dX10_isNext_91 : decode cX10_isNext 91 = .ok (.getfield 157, 3) := by decide +kernel
theorem dX10_isNext_94 : decode cX10_isNext 94 = .ok (.iconst 1, 1) := by decide +kernel
theorem dX10_isNext_95 : decode cX10_isNext 95 = .ok (.iadd, 1) := by decide +kernel
theorem dX10_isNext_96 : decode cX10_isNext 96 = .ok (.aload_n 0, 1) := by decide +kernel
theorem dX10_isNext_97 : decode cX10_isNext 97 = .ok (.getfield 16, 3) := by decide +kernel
theorem dX10_isNext_100 : decode cX10_isNext 100 = .ok (.iload_n 1, 1) := by decide +kernel
theorem dX10_isNext_101 : decode cX10_isNext 101 = .ok (.iaload, 1) := by decide +kernel
theorem dX10_isNext_102 : decode cX10_isNext 102 = .ok (.if_icmp .ge 26, 3) := by decide +kernel
theorem dX10_isNext_105 : decode cX10_isNext 105 = .ok (.aload_n 0, 1) := by decide +kernel
theorem dX10_isNext_106 : decode cX10_isNext 106 = .ok (.dup, 1) := by decide +kernel
theorem dX10_isNext_107 : decode cX10_isNext 107 = .ok (.getfield 157, 3) := by decide +kernel
theorem dX10_isNext_110 : decode cX10_isNext 110 = .ok (.iconst 1, 1) := by decide +kernel
theorem dX10_isNext_111 : decode cX10_isNext 111 = .ok (.iadd, 1) := by decide +kernel
theorem dX10_isNext_112 : decode cX10_isNext 112 = .ok (.putfield 157, 3) := by decide +kernel
theorem dX10_isNext_115 : decode cX10_isNext 115 = .ok (.aload_n 0, 1) := by decide +kernel
theorem dX10_isNext_116 : decode cX10_isNext 116 = .ok (.getfield 35, 3) := by decide +kernel
theorem dX10_isNext_119 : decode cX10_isNext 119 = .ok (.aload_n 0, 1) := by decide +kernel
theorem dX10_isNext_120 : decode cX10_isNext 120 = .ok (.getfield 157, 3) := by decide +kernel
theorem dX10_isNext_123 : decode cX10_isNext 123 = .ok (.iconst (-1), 1) := by decide +kernel
theorem dX10_isNext_124 : decode cX10_isNext 124 = .ok (.iastore, 1) := by decide +kernel
theorem dX10_isNext_125 : decode cX10_isNext 125 = .ok (.goto (-125), 3) := by decide +kernel
theorem dX10_isNext_128 : decode cX10_isNext 128 = .ok (.aload_n 0, 1) := by decide +kernel
theorem dX10_isNext_129 : decode cX10_isNext 129 = .ok (.iload_n 1, 1) := by decide +kernel
theorem dX10_isNext_130 : decode cX10_isNext 130 = .ok (.aload_n 0, 1) := by decide +kernel
theorem dX10_isNext_131 : decode cX10_isNext 131 = .ok (.iload_n 1, 1) := by decide +kernel
theorem dX10_isNext_132 : decode cX10_isNext 132 = .ok (.aload_n 0, 1) := by decide +kernel
theorem dX10_isNext_133 : decode cX10_isNext 133 = .ok (.getfield 16, 3) := by decide +kernel
theorem dX10_isNext_136 : decode cX10_isNext 136 = .ok (.iload_n 1, 1) := by decide +kernel
theorem dX10_isNext_137 : decode cX10_isNext 137 = .ok (.iaload, 1) := by decide +kernel
theorem dX10_isNext_138 : decode cX10_isNext 138 = .ok (.invokevirtual 171, 3) := by decide +kernel
theorem dX10_isNext_141 : decode cX10_isNext 141 = .ok (.invokevirtual 154, 3) := by decide +kernel
theorem dX10_isNext_144 : decode cX10_isNext 144 = .ok (.ifCond .eq (-144), 3) := by decide +kernel
theorem dX10_isNext_147 : decode cX10_isNext 147 = .ok (.aload_n 0, 1) := by decide +kernel
theorem dX10_isNext_148 : decode cX10_isNext 148 = .ok (.aload_n 0, 1) := by decide +kernel
theorem dX10_isNext_149 : decode cX10_isNext 149 = .ok (.iload_n 1, 1) := by decide +kernel
theorem dX10_isNext_150 : decode cX10_isNext 150 = .ok (.aload_n 0, 1) := by decide +kernel
theorem dX10_isNext_151 : decode cX10_isNext 151 = .ok (.getfield 16, 3) := by decide +kernel
theorem dX10_isNext_154 : decode cX10_isNext 154 = .ok (.iload_n 1, 1) := by decide +kernel
theorem dX10_isNext_155 : decode cX10_isNext 155 = .ok (.iaload, 1) := by decide +kernel
theorem dX10_isNext_156 : decode cX10_isNext 156 = .ok (.invokevirtual 171, 3) := by decide +kernel
theorem dX10_isNext_159 : decode cX10_isNext 159 = .ok (.putfield 175, 3) := by decide +kernel
theorem dX10_isNext_162 : decode cX10_isNext 162 = .ok (.iconst 1, 1) := by decide +kernel
theorem dX10_isNext_163 : decode cX10_isNext 163 = .ok (.ireturn, 1) := by decide +kernel
theorem dX10_isNext_164 : decode cX10_isNext 164 = .ok (.iconst 0, 1) := by decide +kernel
theorem dX10_isNext_165 : decode cX10_isNext 165 = .ok (.ireturn, 1) := by decide +kernel
def chX10_count : List (List Cond) := [wsX10_count_r1, wsX10_count_r2, wsX10_count_r3, wsX100]
set_option maxRecDepth 20000 in
theorem chX10_count_in : ∀ c ∈ chX10_count, ∀ w ∈ c, w ∈ wsX10_count := (all_c (P := fun c => ∀ w ∈ c, w ∈ wsX10_count) (fun w h => List.mem_cons_of_mem _ (List.mem_append_left _ (List.mem_append_left _ (h)))) (all_c (P := fun c => ∀ w ∈ c, w ∈ wsX10_count) (fun w h => List.mem_cons_of_mem _ (List.mem_append_left _ (List.mem_append_right _ (List.mem_append_left _ (h))))) (all_c (P := fun c => ∀ w ∈ c, w ∈ wsX10_count) (fun w h => List.mem_cons_of_mem _ (List.mem_append_left _ (List.mem_append_right _ (List.mem_append_right _ (h))))) (all_c (P := fun c => ∀ w ∈ c, w ∈ wsX10_count) (fun w h => List.mem_cons_of_mem _ (List.mem_append_right _ (h))) (fun _ h => nomatch h)))))
set_option maxRecDepth 20000 in
theorem ggX10_count_X10_isJob : GoodIn wsX10_count wsX10_isJob := goodIn_ca (goodIn_c chX10_count chX10_count_in _ [(0, 6), (0, 7)] (by rfl) (by decide +kernel)) (goodIn_sub (fun _ h => List.mem_cons_of_mem _ (List.mem_append_right _ (h))) (by decide +kernel))
set_option maxRecDepth 20000 in
theorem gX10_count_X10_isJob : GoodIn wsX10_count (wsV RX10 96 RX10 yX10_isJob wsX10_isJob) := goodIn_app (goodIn_c chX10_count chX10_count_in _ [(0, 2), (0, 3), (0, 4), (0, 5)] (by rfl) (by decide +kernel)) ggX10_count_X10_isJob
set_option maxRecDepth 20000 in
theorem ggX10_count_X10_begin : GoodIn wsX10_count wsX10_begin := goodIn_ca (goodIn_c chX10_count chX10_count_in _ [(0, 11), (0, 12), (0, 13), (0, 14), (0, 1)] (by rfl) (by decide +kernel)) (goodIn_sub (fun _ h => List.mem_cons_of_mem _ (List.mem_append_right _ (h))) (by decide +kernel))
set_option maxRecDepth 20000 in
theorem gX10_count_X10_begin : GoodIn wsX10_count (wsV RX10 179 RX10 yX10_begin wsX10_begin) := goodIn_app (goodIn_c chX10_count chX10_count_in _ [(0, 8), (0, 9), (0, 10), (0, 5)] (by rfl) (by decide +kernel)) ggX10_count_X10_begin
set_option maxRecDepth 20000 in
theorem ggX10_count_X10_isNext : GoodIn wsX10_count wsX10_isNext := goodIn_ca (goodIn_c chX10_count chX10_count_in _ [(0, 18), (0, 12), (0, 13), (0, 19), (0, 14), (0, 20), (0, 1), (0, 21), (0, 22), (0, 23), (1, 0), (1, 1), (0, 5), (1, 2), (1, 3), (1, 4), (1, 5), (1, 6), (1, 7), (1, 8), (1, 9), (1, 10), (1, 11), (1, 12), (1, 13), (1, 14), (1, 15), (1, 16), (1, 17), (1, 18), (1, 19), (1, 20), (1, 21), (1, 22), (1, 23), (2, 0), (2, 1), (2, 2), (2, 3), (2, 4), (2, 5), (2, 6), (2, 7), (2, 8), (2, 9), (2, 10), (2, 11), (2, 12), (2, 13), (2, 14)] (by rfl) (by decide +kernel)) (goodIn_sub (fun _ h => List.mem_cons_of_mem _ (List.mem_append_right _ (h))) (by decide +kernel))
set_option maxRecDepth 20000 in
theorem gX10_count_X10_isNext : GoodIn wsX10_count (wsV RX10 182 RX10 yX10_isNext wsX10_isNext) := goodIn_app (goodIn_c chX10_count chX10_count_in _ [(0, 15), (0, 16), (0, 17), (0, 5)] (by rfl) (by decide +kernel)) ggX10_count_X10_isNext
theorem dX10_count_0 : decode cX10_count 0 = .ok (.aload_n 0, 1) := by decide +kernel
theorem dX10_count_1 : decode cX10_count 1 = .ok (.iconst 0, 1) := by decide +kernel
theorem dX10_count_2 : decode cX10_count 2 = .ok (.putfield 79, 3) := by decide +kernel
theorem dX10_count_5 : decode cX10_count 5 = .ok (.aload_n 0, 1) := by decide +kernel
theorem dX10_count_6 : decode cX10_count 6 = .ok (.iload_n 1, 1) := by decide +kernel
theorem dX10_count_7 : decode cX10_count 7 = .ok (.invokevirtual 96, 3) := by decide +kernel
theorem dX10_count_10 : decode cX10_count 10 = .ok (.ifCond .ne 5, 3) := by decide +kernel
theorem dX10_count_13 : decode cX10_count 13 = .ok (.iconst (-1), 1) := by decide +kernel
theorem dX10_count_14 : decode cX10_count 14 = .ok (.ireturn, 1) := by decide +kernel
theorem dX10_count_15 : decode cX10_count 15 = .ok (.aload_n 0, 1) := by decide +kernel
theorem dX10_count_16 : decode cX10_count 16 = .ok (.invokevirtual 179, 3) := by decide +kernel
theorem dX10_count_19 : decode cX10_count 19 = .ok (.iconst 0, 1) := by decide +kernel
theorem dX10_count_20 : decode cX10_count 20 = .ok (.istore_n 2, 1) := by decide +kernel
theorem dX10_count_21 : decode cX10_count 21 = .ok (.aload_n 0, 1) := by decide +kernel
theorem dX10_count_22 : decode cX10_count 22 = .ok (.iload_n 1, 1) := by decide +kernel
theorem dX10_count_23 : decode cX10_count 23 = .ok (.invokevirtual 182, 3) := by decide +kernel
theorem dX10_count_26 : decode cX10_count 26 = .ok (.ifCond .eq 9, 3) := by decide +kernel
theorem dX10_count_29 : decode cX10_count 29 = .ok (.iinc 2 1, 3) := by decide +kernel
theorem dX10_count_32 : decode cX10_count 32 = .ok (.goto (-11), 3) := by decide +kernel
theorem dX10_count_35 : decode cX10_count 35 = .ok (.aload_n 0, 1) := by decide +kernel
theorem dX10_count_36 : decode cX10_count 36 = .ok (.getfield 163, 3) := by decide +kernel
theorem dX10_count_39 : decode cX10_count 39 = .ok (.ifCond .eq 8, 3) := by decide +kernel
theorem dX10_count_42 : decode cX10_count 42 = .ok (.bipush (-5), 2) := by decide +kernel
theorem dX10_count_44 : decode cX10_count 44 = .ok (.goto 4, 3) := by decide +kernel
theorem dX10_count_47 : decode cX10_count 47 = .ok (.iload_n 2, 1) := by decide +kernel
theorem dX10_count_48 : decode cX10_count 48 = .ok (.ireturn, 1) := by decide +kernel
def chX10_find : List (List Cond) := [wsX10_find_r1, wsX10_find_r2, wsX10_find_r3, wsX100]
set_option maxRecDepth 20000 in
theorem chX10_find_in : ∀ c ∈ chX10_find, ∀ w ∈ c, w ∈ wsX10_find := (all_c (P := fun c => ∀ w ∈ c, w ∈ wsX10_find) (fun w h => List.mem_cons_of_mem _ (List.mem_append_left _ (List.mem_append_left _ (h)))) (all_c (P := fun c => ∀ w ∈ c, w ∈ wsX10_find) (fun w h => List.mem_cons_of_mem _ (List.mem_append_left _ (List.mem_append_right _ (List.mem_append_left _ (h))))) (all_c (P := fun c => ∀ w ∈ c, w ∈ wsX10_find) (fun w h => List.mem_cons_of_mem _ (List.mem_append_left _ (List.mem_append_right _ (List.mem_append_right _ (h))))) (all_c (P := fun c => ∀ w ∈ c, w ∈ wsX10_find) (fun w h => List.mem_cons_of_mem _ (List.mem_append_right _ (h))) (fun _ h => nomatch h)))))
set_option maxRecDepth 20000 in
theorem ggX10_find_X10_isJob : GoodIn wsX10_find wsX10_isJob := goodIn_ca (goodIn_c chX10_find chX10_find_in _ [(0, 10), (0, 11)] (by rfl) (by decide +kernel)) (goodIn_sub (fun _ h => List.mem_cons_of_mem _ (List.mem_append_right _ (h))) (by decide +kernel))
set_option maxRecDepth 20000 in
theorem gX10_find_X10_isJob : GoodIn wsX10_find (wsV RX10 96 RX10 yX10_isJob wsX10_isJob) := goodIn_app (goodIn_c chX10_find chX10_find_in _ [(0, 6), (0, 7), (0, 8), (0, 9)] (by rfl) (by decide +kernel)) ggX10_find_X10_isJob
set_option maxRecDepth 20000 in
theorem ggX10_find_X10_begin : GoodIn wsX10_find wsX10_begin := goodIn_ca (goodIn_c chX10_find chX10_find_in _ [(0, 15), (0, 16), (0, 17), (0, 18), (0, 3)] (by rfl) (by decide +kernel)) (goodIn_sub (fun _ h => List.mem_cons_of_mem _ (List.mem_append_right _ (h))) (by decide +kernel))
set_option maxRecDepth 20000 in
theorem gX10_find_X10_begin : GoodIn wsX10_find (wsV RX10 179 RX10 yX10_begin wsX10_begin) := goodIn_app (goodIn_c chX10_find chX10_find_in _ [(0, 12), (0, 13), (0, 14), (0, 9)] (by rfl) (by decide +kernel)) ggX10_find_X10_begin
set_option maxRecDepth 20000 in
theorem ggX10_find_X10_isNext : GoodIn wsX10_find wsX10_isNext := goodIn_ca (goodIn_c chX10_find chX10_find_in _ [(0, 22), (0, 16), (0, 17), (0, 23), (0, 18), (1, 0), (0, 3), (1, 1), (0, 2), (1, 2), (1, 3), (1, 4), (0, 9), (1, 5), (1, 6), (1, 7), (1, 8), (1, 9), (1, 10), (1, 11), (1, 12), (1, 13), (1, 14), (1, 15), (1, 16), (1, 17), (1, 18), (1, 19), (1, 20), (1, 21), (1, 22), (1, 23), (2, 0), (2, 1), (2, 2), (2, 3), (2, 4), (2, 5), (2, 6), (2, 7), (2, 8), (2, 9), (2, 10), (2, 11), (2, 12), (2, 13), (2, 14), (2, 15), (2, 16), (2, 17)] (by rfl) (by decide +kernel)) (goodIn_sub (fun _ h => List.mem_cons_of_mem _ (List.mem_append_right _ (h))) (by decide +kernel))
set_option maxRecDepth 20000 in
theorem gX10_find_X10_isNext : GoodIn wsX10_find (wsV RX10 182 RX10 yX10_isNext wsX10_isNext) := goodIn_app (goodIn_c chX10_find chX10_find_in _ [(0, 19), (0, 20), (0, 21), (0, 9)] (by rfl) (by decide +kernel)) ggX10_find_X10_isNext
theorem dX10_find_0 : decode cX10_find 0 = .ok (.aload_n 0, 1) := by decide +kernel
theorem dX10_find_1 : decode cX10_find 1 = .ok (.iconst 0, 1) := by decide +kernel
theorem dX10_find_2 : decode cX10_find 2 = .ok (.putfield 79, 3) := by decide +kernel
theorem dX10_find_5 : decode cX10_find 5 = .ok (.aload_n 0, 1) := by decide +kernel
theorem dX10_find_6 : decode cX10_find 6 = .ok (.iload_n 1, 1) := by decide +kernel
theorem dX10_find_7 : decode cX10_find 7 = .ok (.invokevirtual 96, 3) := by decide +kernel
theorem dX10_find_10 : decode cX10_find 10 = .ok (.ifCond .eq 7, 3) := by decide +kernel
theorem dX10_find_13 : decode cX10_find 13 = .ok (.iload_n 2, 1) := by decide +kernel
theorem dX10_find_14 : decode cX10_find 14 = .ok (.ifCond .ge 7, 3) := by decide +kernel
theorem dX10_find_17 : decode cX10_find 17 = .ok (.ldc2_w 185, 3) := by decide +kernel
theorem dX10_find_20 : decode cX10_find 20 = .ok (.lreturn, 1) := by decide +kernel
theorem dX10_find_21 : decode cX10_find 21 = .ok (.aload_n 0, 1) := by decide +kernel
theorem dX10_find_22 : decode cX10_find 22 = .ok (.invokevirtual 179, 3) := by decide +kernel
theorem dX10_find_25 : decode cX10_find 25 = .ok (.iload_n 2, 1) := by decide +kernel
theorem dX10_find_26 : decode cX10_find 26 = .ok (.istore_n 3, 1) := by decide +kernel
theorem dX10_find_27 : decode cX10_find 27 = .ok (.aload_n 0, 1) := by decide +kernel
theorem dX10_find_28 : decode cX10_find 28 = .ok (.iload_n 1, 1) := by decide +kernel
theorem dX10_find_29 : decode cX10_find 29 = .ok (.invokevirtual 182, 3) := by decide +kernel
theorem dX10_find_32 : decode cX10_find 32 = .ok (.ifCond .eq 18, 3) := by decide +kernel
theorem dX10_find_35 : decode cX10_find 35 = .ok (.iload_n 3, 1) := by decide +kernel
theorem dX10_find_36 : decode cX10_find 36 = .ok (.ifCond .ne 8, 3) := by decide +kernel
theorem dX10_find_39 : decode cX10_find 39 = .ok (.aload_n 0, 1) := by decide +kernel
theorem dX10_find_40 : decode cX10_find 40 = .ok (.getfield 175, 3) := by decide +kernel
theorem dX10_find_43 : decode cX10_find 43 = .ok (.lreturn, 1) := by decide +kernel
theorem dX10_find_44 : decode cX10_find 44 = .ok (.iinc 3 (-1), 3) := by decide +kernel
theorem dX10_find_47 : decode cX10_find 47 = .ok (.goto (-20), 3) := by decide +kernel
theorem dX10_find_50 : decode cX10_find 50 = .ok (.aload_n 0, 1) := by decide +kernel
theorem dX10_find_51 : decode cX10_find 51 = .ok (.getfield 163, 3) := by decide +kernel
theorem dX10_find_54 : decode cX10_find 54 = .ok (.ifCond .eq 9, 3) := by decide +kernel
theorem dX10_find_57 : decode cX10_find 57 = .ok (.ldc2_w 187, 3) := by decide +kernel
theorem dX10_find_60 : decode cX10_find 60 = .ok (.goto 6, 3) := by decide +kernel
theorem dX10_find_63 : decode cX10_find 63 = .ok (.ldc2_w 189, 3) := by decide +kernel
theorem dX10_find_66 : decode cX10_find 66 = .ok (.lreturn, 1) := by decide +kernel
def chX10_rank : List (List Cond) := [wsX10_rank_r1, wsX10_rank_r2, wsX10_rank_r3, wsX10_rank_r4, wsX100]
set_option maxRecDepth 20000 in
theorem chX10_rank_in : ∀ c ∈ chX10_rank, ∀ w ∈ c, w ∈ wsX10_rank := (all_c (P := fun c => ∀ w ∈ c, w ∈ wsX10_rank) (fun w h => List.mem_cons_of_mem _ (List.mem_append_left _ (List.mem_append_left _ (h)))) (all_c (P := fun c => ∀ w ∈ c, w ∈ wsX10_rank) (fun w h => List.mem_cons_of_mem _ (List.mem_append_left _ (List.mem_append_right _ (List.mem_append_left _ (h))))) (all_c (P := fun c => ∀ w ∈ c, w ∈ wsX10_rank) (fun w h => List.mem_cons_of_mem _ (List.mem_append_left _ (List.mem_append_right _ (List.mem_append_right _ (List.mem_append_left _ (h)))))) (all_c (P := fun c => ∀ w ∈ c, w ∈ wsX10_rank) (fun w h => List.mem_cons_of_mem _ (List.mem_append_left _ (List.mem_append_right _ (List.mem_append_right _ (List.mem_append_right _ (h)))))) (all_c (P := fun c => ∀ w ∈ c, w ∈ wsX10_rank) (fun w h => List.mem_cons_of_mem _ (List.mem_append_right _ (h))) (fun _ h => nomatch h))))))
set_option maxRecDepth 20000 in
theorem ggX10_rank_X10_isJob : GoodIn wsX10_rank wsX10_isJob := goodIn_ca (goodIn_c chX10_rank chX10_rank_in _ [(0, 8), (0, 9)] (by rfl) (by decide +kernel)) (goodIn_sub (fun _ h => List.mem_cons_of_mem _ (List.mem_append_right _ (h))) (by decide +kernel))
set_option maxRecDepth 20000 in
theorem gX10_rank_X10_isJob : GoodIn wsX10_rank (wsV RX10 96 RX10 yX10_isJob wsX10_isJob) := goodIn_app (goodIn_c chX10_rank chX10_rank_in _ [(0, 4), (0, 5), (0, 6), (0, 7)] (by rfl) (by decide +kernel)) ggX10_rank_X10_isJob
set_option maxRecDepth 20000 in
theorem ggX10_rank_X10_isPicture : GoodIn wsX10_rank wsX10_isPicture := goodIn_c chX10_rank chX10_rank_in _ [(0, 12), (0, 13), (0, 14), (0, 7), (0, 15), (0, 16), (0, 17), (0, 18), (0, 19)] (by rfl) (by decide +kernel)
set_option maxRecDepth 20000 in
theorem gX10_rank_X10_isPicture : GoodIn wsX10_rank (va_wsS RX10 126 yX10_isPicture wsX10_isPicture) := goodIn_app (goodIn_c chX10_rank chX10_rank_in _ [(0, 10), (0, 11), (0, 7)] (by rfl) (by decide +kernel)) ggX10_rank_X10_isPicture
set_option maxRecDepth 20000 in
theorem ggX10_rank_X10_isFitting : GoodIn wsX10_rank wsX10_isFitting := goodIn_ca (goodIn_c chX10_rank chX10_rank_in _ [(0, 23), (0, 1), (0, 2), (1, 0), (1, 1), (1, 2), (1, 3), (1, 4), (0, 7), (1, 5), (1, 6), (1, 7), (1, 8), (1, 9), (1, 10), (1, 11), (1, 12), (1, 13), (1, 14), (1, 15), (1, 16), (1, 17), (1, 18), (1, 19), (1, 20), (1, 21), (1, 22), (1, 23), (2, 0), (2, 1), (2, 2), (2, 3)] (by rfl) (by decide +kernel)) (goodIn_sub (fun _ h => List.mem_cons_of_mem _ (List.mem_append_right _ (h))) (by decide +kernel))
set_option maxRecDepth 20000 in
theorem gX10_rank_X10_isFitting : GoodIn wsX10_rank (wsV RX10 154 RX10 yX10_isFitting wsX10_isFitting) := goodIn_app (goodIn_c chX10_rank chX10_rank_in _ [(0, 20), (0, 21), (0, 22), (0, 7)] (by rfl) (by decide +kernel)) ggX10_rank_X10_isFitting
set_option maxRecDepth 20000 in
theorem ggX10_rank_X10_begin : GoodIn wsX10_rank wsX10_begin := goodIn_ca (goodIn_c chX10_rank chX10_rank_in _ [(2, 7), (2, 8), (2, 9), (2, 10), (2, 11)] (by rfl) (by decide +kernel)) (goodIn_sub (fun _ h => List.mem_cons_of_mem _ (List.mem_append_right _ (h))) (by decide +kernel))
set_option maxRecDepth 20000 in
theorem gX10_rank_X10_begin : GoodIn wsX10_rank (wsV RX10 179 RX10 yX10_begin wsX10_begin) := goodIn_app (goodIn_c chX10_rank chX10_rank_in _ [(2, 4), (2, 5), (2, 6), (0, 7)] (by rfl) (by decide +kernel)) ggX10_rank_X10_begin
set_option maxRecDepth 20000 in
theorem ggX10_rank_X10_isNext : GoodIn wsX10_rank wsX10_isNext := goodIn_ca (goodIn_c chX10_rank chX10_rank_in _ [(2, 15), (2, 8), (2, 9), (0, 1), (2, 10), (2, 16), (2, 11), (0, 2), (0, 3), (2, 17), (2, 18), (2, 19), (0, 7), (2, 20), (1, 0), (1, 2), (2, 21), (2, 22), (2, 23), (3, 0), (0, 20), (0, 21), (0, 22), (0, 23), (1, 1), (1, 3), (1, 4), (1, 5), (1, 6), (1, 7), (1, 8), (1, 9), (1, 10), (1, 11), (1, 12), (1, 13), (1, 14), (1, 15), (1, 16), (1, 17), (1, 18), (1, 19), (1, 20), (1, 21), (1, 22), (1, 23), (2, 0), (2, 1), (2, 2), (2, 3)] (by rfl) (by decide +kernel)) (goodIn_sub (fun _ h => List.mem_cons_of_mem _ (List.mem_append_right _ (h))) (by decide +kernel))
set_option maxRecDepth 20000 in
theorem gX10_rank_X10_isNext : GoodIn wsX10_rank (wsV RX10 182 RX10 yX10_isNext wsX10_isNext) := goodIn_app (goodIn_c chX10_rank chX10_rank_in _ [(2, 12), (2, 13), (2, 14), (0, 7)] (by rfl) (by decide +kernel)) ggX10_rank_X10_isNext
theorem dX10_rank_0 : decode cX10_rank 0 = .ok (.aload_n 0, 1) := by decide +kernel
theorem dX10_rank_1 : decode cX10_rank 1 = .ok (.iconst 0, 1) := by decide +kernel
theorem dX10_rank_2 : decode cX10_rank 2 = .ok (.putfield 79, 3) := by decide +kernel
theorem dX10_rank_5 : decode cX10_rank 5 = .ok (.aload_n 0, 1) := by decide +kernel
theorem dX10_rank_6 : decode cX10_rank 6 = .ok (.iload_n 1, 1) := by decide +kernel
theorem dX10_rank_7 : decode cX10_rank 7 = .ok (.invokevirtual 96, 3) := by decide +kernel
theorem dX10_rank_10 : decode cX10_rank 10 = .ok (.ifCond .eq 22, 3) := by decide +kernel
