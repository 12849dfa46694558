abbrev cX10_job : ByteArray := prog_12_method_13_code
def yX10_job : MethodName := ⟨RX10, "job", "(III)I"⟩
abbrev cX10_clash : ByteArray := prog_12_method_37_code
def yX10_clash : MethodName := ⟨RX10, "clash", "(I)I"⟩
abbrev cX10_seek : ByteArray := prog_12_method_38_code
def yX10_seek : MethodName := ⟨RX10, "seek", "(I)I"⟩
abbrev cX10_best : ByteArray := prog_12_method_39_code
def yX10_best : MethodName := ⟨RX10, "best", "(I)I"⟩
abbrev cX10_bestOne : ByteArray := prog_12_method_40_code
def yX10_bestOne : MethodName := ⟨RX10, "bestOne", "(I)J"⟩
abbrev cX10_goSwitches : ByteArray := prog_12_method_41_code
def yX10_goSwitches : MethodName := ⟨RX10, "goSwitches", "(IIJI)I"⟩
abbrev cX10_switches : ByteArray := prog_12_method_42_code
def yX10_switches : MethodName := ⟨RX10, "switches", "(IIJ)I"⟩
abbrev cX10_switched : ByteArray := prog_12_method_43_code
def yX10_switched : MethodName := ⟨RX10, "switched", "(IIJI)J"⟩
abbrev cX10_joined : ByteArray := prog_12_method_48_code
def yX10_joined : MethodName := ⟨RX10, "joined", "(IIJ)I"⟩
abbrev cX10_even : ByteArray := prog_12_method_49_code
def yX10_even : MethodName := ⟨RX10, "even", "(IIJZ)I"⟩
abbrev cX10_turned : ByteArray := prog_12_method_50_code
def yX10_turned : MethodName := ⟨RX10, "turned", "(IIJI)J"⟩
abbrev cX10_parts : ByteArray := prog_12_method_51_code
def yX10_parts : MethodName := ⟨RX10, "parts", "(IIJJI)I"⟩
abbrev cX10_list : ByteArray := prog_12_method_52_code
def yX10_list : MethodName := ⟨RX10, "list", "(IIJ)I"⟩
abbrev cX10_clear : ByteArray := prog_12_method_53_code
def yX10_clear : MethodName := ⟨RX10, "clear", "()I"⟩
abbrev cX10_tells : ByteArray := prog_12_method_54_code
def yX10_tells : MethodName := ⟨RX10, "tells", "(I)Z"⟩
abbrev cX10_ways : ByteArray := prog_12_method_55_code
def yX10_ways : MethodName := ⟨RX10, "ways", "()I"⟩
abbrev cX10_across : ByteArray := prog_12_method_56_code
def yX10_across : MethodName := ⟨RX10, "across", "(I)I"⟩
abbrev cX10_down : ByteArray := prog_12_method_57_code
def yX10_down : MethodName := ⟨RX10, "down", "(I)I"⟩
abbrev cX10_haunt : ByteArray := prog_12_method_58_code
def yX10_haunt : MethodName := ⟨RX10, "haunt", "(I)V"⟩
abbrev cX10_ghost : ByteArray := prog_12_method_59_code
def yX10_ghost : MethodName := ⟨RX10, "ghost", "(III)I"⟩
abbrev cX10_placesOf : ByteArray := prog_12_method_60_code
def yX10_placesOf : MethodName := ⟨RX10, "placesOf", "(III)I"⟩
abbrev cX10_haunts : ByteArray := prog_12_method_61_code
def yX10_haunts : MethodName := ⟨RX10, "haunts", "(III)I"⟩
abbrev cX10_ghosts : ByteArray := prog_12_method_62_code
def yX10_ghosts : MethodName := ⟨RX10, "ghosts", "(III)I"⟩
abbrev cX10_weightOf : ByteArray := prog_12_method_64_code
def yX10_weightOf : MethodName := ⟨RX10, "weightOf", "(I)I"⟩
abbrev cX10_make : ByteArray := prog_12_method_66_code
def yX10_make : MethodName := ⟨RX10, "make", "(III)I"⟩
abbrev cX10_element : ByteArray := prog_12_method_67_code
def yX10_element : MethodName := ⟨RX10, "element", "(II)J"⟩
abbrev cX10_hasPlaces : ByteArray := prog_12_method_68_code
def yX10_hasPlaces : MethodName := ⟨RX10, "hasPlaces", "(III)Z"⟩
abbrev cX10_copy : ByteArray := prog_12_method_69_code
def yX10_copy : MethodName := ⟨RX10, "copy", "(IIIII)I"⟩
abbrev cX10_layer : ByteArray := prog_12_method_70_code
def yX10_layer : MethodName := ⟨RX10, "layer", "(II)J"⟩
abbrev cX10_weight : ByteArray := prog_12_method_71_code
def yX10_weight : MethodName := ⟨RX10, "weight", "(I)I"⟩
abbrev cX10_toss : ByteArray := prog_12_method_72_code
def yX10_toss : MethodName := ⟨RX10, "toss", "(I)I"⟩
def wsX10_job : List Cond := .code yX10_job cX10_job 5 (some .int) :: ([.fieldLink RX10 79 "ShadowBenchModel" "thrown" "I", .constantLong RX10 116 (3), .fieldLink RX10 93 "ShadowBenchModel" "jobs" "I", .fieldLink RX10 7 "ShadowBenchModel" "kind" "[I", .fieldLink RX10 13 "ShadowBenchModel" "wide" "[I", .fieldLink RX10 16 "ShadowBenchModel" "high" "[I", .fieldLink RX10 22 "ShadowBenchModel" "isTold" "[Z", .fieldLink RX10 26 "ShadowBenchModel" "held" "[I", .methodLink RX10 85 yX10_isIn, .static yX10_isIn, .initialized RX10, .code yX10_isIn cX10_isIn 6 (some .boolean), .methodLink RX10 89 yX10_isBoard, .static yX10_isBoard, .code yX10_isBoard cX10_isBoard 2 (some .boolean), .constantLong RX10 83 (6)] ++ wsX100)
def wsX10_clash : List Cond := .code yX10_clash cX10_clash 11 (some .int) :: ([.fieldLink RX10 79 "ShadowBenchModel" "thrown" "I", .fieldLink RX10 13 "ShadowBenchModel" "wide" "[I", .fieldLink RX10 16 "ShadowBenchModel" "high" "[I", .fieldLink RX10 19 "ShadowBenchModel" "sums" "[I", .fieldLink RX10 38 "ShadowBenchModel" "columns" "[I", .methodLink RX10 96 yX10_isJob, .instanceMethod yX10_isJob, .selects RX10 yX10_isJob yX10_isJob, .initialized RX10, .code yX10_isJob cX10_isJob 2 (some .boolean), .fieldLink RX10 93 "ShadowBenchModel" "jobs" "I"] ++ wsX100)
def wsX10_seek_r1 : List Cond := [Cond.fieldLink RX10 7 "ShadowBenchModel" "kind" "[I", Cond.fieldLink RX10 13 "ShadowBenchModel" "wide" "[I", Cond.fieldLink RX10 16 "ShadowBenchModel" "high" "[I", Cond.fieldLink RX10 175 "ShadowBenchModel" "found" "J", Cond.fieldLink RX10 29 "ShadowBenchModel" "weight" "[I", Cond.fieldLink RX10 191 "ShadowBenchModel" "bestSum" "I", Cond.fieldLink RX10 194 "ShadowBenchModel" "bestPicture" "J", Cond.fieldLink RX10 163 "ShadowBenchModel" "spent" "Z", Cond.methodLink RX10 96 yX10_isJob, Cond.instanceMethod yX10_isJob, Cond.selects RX10 yX10_isJob yX10_isJob, Cond.initialized RX10, Cond.code yX10_isJob cX10_isJob 2 (some .boolean), Cond.fieldLink RX10 93 "ShadowBenchModel" "jobs" "I", Cond.methodLink RX10 179 yX10_begin, Cond.instanceMethod yX10_begin, Cond.selects RX10 yX10_begin yX10_begin, Cond.code yX10_begin cX10_begin 1 none, Cond.fieldLink RX10 157 "ShadowBenchModel" "depth" "I", Cond.fieldLink RX10 35 "ShadowBenchModel" "rows" "[I", Cond.fieldLink RX10 160 "ShadowBenchModel" "tries" "I", Cond.methodLink RX10 182 yX10_isNext, Cond.instanceMethod yX10_isNext, Cond.selects RX10 yX10_isNext yX10_isNext]
def wsX10_seek_r2 : List Cond := [Cond.code yX10_isNext cX10_isNext 2 (some .boolean), Cond.constant RX10 167 (200000), Cond.methodLink RX10 168 yX10_goesOn, Cond.instanceMethod yX10_goesOn, Cond.selects RX10 yX10_goesOn yX10_goesOn, Cond.code yX10_goesOn cX10_goesOn 10 (some .boolean), Cond.fieldLink RX10 26 "ShadowBenchModel" "held" "[I", Cond.fieldLink RX10 19 "ShadowBenchModel" "sums" "[I", Cond.methodLink RX10 171 yX10_picture, Cond.instanceMethod yX10_picture, Cond.selects RX10 yX10_picture yX10_picture, Cond.code yX10_picture cX10_picture 6 (some .long), Cond.methodLink RX10 154 yX10_isFitting, Cond.instanceMethod yX10_isFitting, Cond.selects RX10 yX10_isFitting yX10_isFitting, Cond.code yX10_isFitting cX10_isFitting 7 (some .boolean), Cond.fieldLink RX10 22 "ShadowBenchModel" "isTold" "[Z", Cond.methodLink RX10 104 yX10_one, Cond.static yX10_one, Cond.code yX10_one cX10_one 3 (some .int), Cond.methodLink RX10 108 yX10_linesOf, Cond.static yX10_linesOf, Cond.code yX10_linesOf cX10_linesOf 3 (some .int), Cond.methodLink RX10 112 yX10_shadowOf]
def wsX10_seek_r3 : List Cond := [Cond.static yX10_shadowOf, Cond.code yX10_shadowOf cX10_shadowOf 8 (some .int), Cond.methodLink RX10 100 yX10_lineOf, Cond.static yX10_lineOf, Cond.code yX10_lineOf cX10_lineOf 4 (some .int), Cond.methodLink RX10 150 yX10_isKind, Cond.instanceMethod yX10_isKind, Cond.selects RX10 yX10_isKind yX10_isKind, Cond.code yX10_isKind cX10_isKind 6 (some .boolean), Cond.methodLink RX10 143 yX10_isJoined, Cond.instanceMethod yX10_isJoined, Cond.selects RX10 yX10_isJoined yX10_isJoined, Cond.code yX10_isJoined cX10_isJoined 9 (some .boolean), Cond.fieldLink RX10 32 "ShadowBenchModel" "met" "[Z", Cond.methodLink RX10 146 yX10_isEven, Cond.static yX10_isEven, Cond.code yX10_isEven cX10_isEven 13 (some .boolean)]
def wsX10_seek : List Cond := .code yX10_seek cX10_seek 5 (some .int) :: ((wsX10_seek_r1 ++ (wsX10_seek_r2 ++ wsX10_seek_r3)) ++ wsX100)
def wsX10_best_r1 : List Cond := [Cond.fieldLink RX10 79 "ShadowBenchModel" "thrown" "I", Cond.fieldLink RX10 191 "ShadowBenchModel" "bestSum" "I", Cond.methodLink RX10 197 yX10_seek, Cond.instanceMethod yX10_seek, Cond.selects RX10 yX10_seek yX10_seek, Cond.initialized RX10, Cond.code yX10_seek cX10_seek 5 (some .int), Cond.fieldLink RX10 7 "ShadowBenchModel" "kind" "[I", Cond.fieldLink RX10 13 "ShadowBenchModel" "wide" "[I", Cond.fieldLink RX10 16 "ShadowBenchModel" "high" "[I", Cond.fieldLink RX10 175 "ShadowBenchModel" "found" "J", Cond.fieldLink RX10 29 "ShadowBenchModel" "weight" "[I", Cond.fieldLink RX10 194 "ShadowBenchModel" "bestPicture" "J", Cond.fieldLink RX10 163 "ShadowBenchModel" "spent" "Z", Cond.methodLink RX10 96 yX10_isJob, Cond.instanceMethod yX10_isJob, Cond.selects RX10 yX10_isJob yX10_isJob, Cond.code yX10_isJob cX10_isJob 2 (some .boolean), Cond.fieldLink RX10 93 "ShadowBenchModel" "jobs" "I", Cond.methodLink RX10 179 yX10_begin, Cond.instanceMethod yX10_begin, Cond.selects RX10 yX10_begin yX10_begin, Cond.code yX10_begin cX10_begin 1 none, Cond.fieldLink RX10 157 "ShadowBenchModel" "depth" "I"]
def wsX10_best_r2 : List Cond := [Cond.fieldLink RX10 35 "ShadowBenchModel" "rows" "[I", Cond.fieldLink RX10 160 "ShadowBenchModel" "tries" "I", Cond.methodLink RX10 182 yX10_isNext, Cond.instanceMethod yX10_isNext, Cond.selects RX10 yX10_isNext yX10_isNext, Cond.code yX10_isNext cX10_isNext 2 (some .boolean), Cond.constant RX10 167 (200000), Cond.methodLink RX10 168 yX10_goesOn, Cond.instanceMethod yX10_goesOn, Cond.selects RX10 yX10_goesOn yX10_goesOn, Cond.code yX10_goesOn cX10_goesOn 10 (some .boolean), Cond.fieldLink RX10 26 "ShadowBenchModel" "held" "[I", Cond.fieldLink RX10 19 "ShadowBenchModel" "sums" "[I", Cond.methodLink RX10 171 yX10_picture, Cond.instanceMethod yX10_picture, Cond.selects RX10 yX10_picture yX10_picture, Cond.code yX10_picture cX10_picture 6 (some .long), Cond.methodLink RX10 154 yX10_isFitting, Cond.instanceMethod yX10_isFitting, Cond.selects RX10 yX10_isFitting yX10_isFitting, Cond.code yX10_isFitting cX10_isFitting 7 (some .boolean), Cond.fieldLink RX10 22 "ShadowBenchModel" "isTold" "[Z", Cond.methodLink RX10 104 yX10_one, Cond.static yX10_one]
def wsX10_best_r3 : List Cond := [Cond.code yX10_one cX10_one 3 (some .int), Cond.methodLink RX10 108 yX10_linesOf, Cond.static yX10_linesOf, Cond.code yX10_linesOf cX10_linesOf 3 (some .int), Cond.methodLink RX10 112 yX10_shadowOf, Cond.static yX10_shadowOf, Cond.code yX10_shadowOf cX10_shadowOf 8 (some .int), Cond.methodLink RX10 100 yX10_lineOf, Cond.static yX10_lineOf, Cond.code yX10_lineOf cX10_lineOf 4 (some .int), Cond.methodLink RX10 150 yX10_isKind, Cond.instanceMethod yX10_isKind, Cond.selects RX10 yX10_isKind yX10_isKind, Cond.code yX10_isKind cX10_isKind 6 (some .boolean), Cond.methodLink RX10 143 yX10_isJoined, Cond.instanceMethod yX10_isJoined, Cond.selects RX10 yX10_isJoined yX10_isJoined, Cond.code yX10_isJoined cX10_isJoined 9 (some .boolean), Cond.fieldLink RX10 32 "ShadowBenchModel" "met" "[Z", Cond.methodLink RX10 146 yX10_isEven, Cond.static yX10_isEven, Cond.code yX10_isEven cX10_isEven 13 (some .boolean)]
def wsX10_best : List Cond := .code yX10_best cX10_best 2 (some .int) :: ((wsX10_best_r1 ++ (wsX10_best_r2 ++ wsX10_best_r3)) ++ wsX100)
def wsX10_bestOne_r1 : List Cond := [Cond.fieldLink RX10 79 "ShadowBenchModel" "thrown" "I", Cond.fieldLink RX10 194 "ShadowBenchModel" "bestPicture" "J", Cond.methodLink RX10 197 yX10_seek, Cond.instanceMethod yX10_seek, Cond.selects RX10 yX10_seek yX10_seek, Cond.initialized RX10, Cond.code yX10_seek cX10_seek 5 (some .int), Cond.fieldLink RX10 7 "ShadowBenchModel" "kind" "[I", Cond.fieldLink RX10 13 "ShadowBenchModel" "wide" "[I", Cond.fieldLink RX10 16 "ShadowBenchModel" "high" "[I", Cond.fieldLink RX10 175 "ShadowBenchModel" "found" "J", Cond.fieldLink RX10 29 "ShadowBenchModel" "weight" "[I", Cond.fieldLink RX10 191 "ShadowBenchModel" "bestSum" "I", Cond.fieldLink RX10 163 "ShadowBenchModel" "spent" "Z", Cond.methodLink RX10 96 yX10_isJob, Cond.instanceMethod yX10_isJob, Cond.selects RX10 yX10_isJob yX10_isJob, Cond.code yX10_isJob cX10_isJob 2 (some .boolean), Cond.fieldLink RX10 93 "ShadowBenchModel" "jobs" "I", Cond.methodLink RX10 179 yX10_begin, Cond.instanceMethod yX10_begin, Cond.selects RX10 yX10_begin yX10_begin, Cond.code yX10_begin cX10_begin 1 none, Cond.fieldLink RX10 157 "ShadowBenchModel" "depth" "I"]
def wsX10_bestOne_r2 : List Cond := [Cond.fieldLink RX10 35 "ShadowBenchModel" "rows" "[I", Cond.fieldLink RX10 160 "ShadowBenchModel" "tries" "I", Cond.methodLink RX10 182 yX10_isNext, Cond.instanceMethod yX10_isNext, Cond.selects RX10 yX10_isNext yX10_isNext, Cond.code yX10_isNext cX10_isNext 2 (some .boolean), Cond.constant RX10 167 (200000), Cond.methodLink RX10 168 yX10_goesOn, Cond.instanceMethod yX10_goesOn, Cond.selects RX10 yX10_goesOn yX10_goesOn, Cond.code yX10_goesOn cX10_goesOn 10 (some .boolean), Cond.fieldLink RX10 26 "ShadowBenchModel" "held" "[I", Cond.fieldLink RX10 19 "ShadowBenchModel" "sums" "[I", Cond.methodLink RX10 171 yX10_picture, Cond.instanceMethod yX10_picture, Cond.selects RX10 yX10_picture yX10_picture, Cond.code yX10_picture cX10_picture 6 (some .long), Cond.methodLink RX10 154 yX10_isFitting, Cond.instanceMethod yX10_isFitting, Cond.selects RX10 yX10_isFitting yX10_isFitting, Cond.code yX10_isFitting cX10_isFitting 7 (some .boolean), Cond.fieldLink RX10 22 "ShadowBenchModel" "isTold" "[Z", Cond.methodLink RX10 104 yX10_one, Cond.static yX10_one]
def wsX10_bestOne_r3 : List Cond := [Cond.code yX10_one cX10_one 3 (some .int), Cond.methodLink RX10 108 yX10_linesOf, Cond.static yX10_linesOf, Cond.code yX10_linesOf cX10_linesOf 3 (some .int), Cond.methodLink RX10 112 yX10_shadowOf, Cond.static yX10_shadowOf, Cond.code yX10_shadowOf cX10_shadowOf 8 (some .int), Cond.methodLink RX10 100 yX10_lineOf, Cond.static yX10_lineOf, Cond.code yX10_lineOf cX10_lineOf 4 (some .int), Cond.methodLink RX10 150 yX10_isKind, Cond.instanceMethod yX10_isKind, Cond.selects RX10 yX10_isKind yX10_isKind, Cond.code yX10_isKind cX10_isKind 6 (some .boolean), Cond.methodLink RX10 143 yX10_isJoined, Cond.instanceMethod yX10_isJoined, Cond.selects RX10 yX10_isJoined yX10_isJoined, Cond.code yX10_isJoined cX10_isJoined 9 (some .boolean), Cond.fieldLink RX10 32 "ShadowBenchModel" "met" "[Z", Cond.methodLink RX10 146 yX10_isEven, Cond.static yX10_isEven, Cond.code yX10_isEven cX10_isEven 13 (some .boolean)]
def wsX10_bestOne : List Cond := .code yX10_bestOne cX10_bestOne 2 (some .long) :: ((wsX10_bestOne_r1 ++ (wsX10_bestOne_r2 ++ wsX10_bestOne_r3)) ++ wsX100)
def wsX10_goSwitches : List Cond := .code yX10_goSwitches cX10_goSwitches 15 (some .int) :: ([.fieldLink RX10 201 "ShadowBenchModel" "behind" "J", .methodLink RX10 104 yX10_one, .static yX10_one, .initialized RX10, .code yX10_one cX10_one 3 (some .int)] ++ wsX100)
def wsX10_switches : List Cond := .code yX10_switches cX10_switches 5 (some .int) :: ([.fieldLink RX10 79 "ShadowBenchModel" "thrown" "I", .methodLink RX10 126 yX10_isPicture, .static yX10_isPicture, .initialized RX10, .code yX10_isPicture cX10_isPicture 4 (some .boolean), .methodLink RX10 89 yX10_isBoard, .static yX10_isBoard, .code yX10_isBoard cX10_isBoard 2 (some .boolean), .constantLong RX10 83 (6), .methodLink RX10 85 yX10_isIn, .static yX10_isIn, .code yX10_isIn cX10_isIn 6 (some .boolean), .methodLink RX10 204 yX10_goSwitches, .instanceMethod yX10_goSwitches, .selects RX10 yX10_goSwitches yX10_goSwitches, .code yX10_goSwitches cX10_goSwitches 15 (some .int), .fieldLink RX10 201 "ShadowBenchModel" "behind" "J", .methodLink RX10 104 yX10_one, .static yX10_one, .code yX10_one cX10_one 3 (some .int)] ++ wsX100)
def wsX10_switched : List Cond := .code yX10_switched cX10_switched 6 (some .long) :: ([.fieldLink RX10 79 "ShadowBenchModel" "thrown" "I", .constantLong RX10 185 (-1), .fieldLink RX10 201 "ShadowBenchModel" "behind" "J", .constantLong RX10 189 (-2), .methodLink RX10 126 yX10_isPicture, .static yX10_isPicture, .initialized RX10, .code yX10_isPicture cX10_isPicture 4 (some .boolean), .methodLink RX10 89 yX10_isBoard, .static yX10_isBoard, .code yX10_isBoard cX10_isBoard 2 (some .boolean), .constantLong RX10 83 (6), .methodLink RX10 85 yX10_isIn, .static yX10_isIn, .code yX10_isIn cX10_isIn 6 (some .boolean), .methodLink RX10 204 yX10_goSwitches, .instanceMethod yX10_goSwitches, .selects RX10 yX10_goSwitches yX10_goSwitches, .code yX10_goSwitches cX10_goSwitches 15 (some .int), .methodLink RX10 104 yX10_one, .static yX10_one, .code yX10_one cX10_one 3 (some .int)] ++ wsX100)
def wsX10_joined : List Cond := .code yX10_joined cX10_joined 5 (some .int) :: ([.fieldLink RX10 79 "ShadowBenchModel" "thrown" "I", .methodLink RX10 126 yX10_isPicture, .static yX10_isPicture, .initialized RX10, .code yX10_isPicture cX10_isPicture 4 (some .boolean), .methodLink RX10 89 yX10_isBoard, .static yX10_isBoard, .code yX10_isBoard cX10_isBoard 2 (some .boolean), .constantLong RX10 83 (6), .methodLink RX10 85 yX10_isIn, .static yX10_isIn, .code yX10_isIn cX10_isIn 6 (some .boolean), .methodLink RX10 143 yX10_isJoined, .instanceMethod yX10_isJoined, .selects RX10 yX10_isJoined yX10_isJoined, .code yX10_isJoined cX10_isJoined 9 (some .boolean), .fieldLink RX10 32 "ShadowBenchModel" "met" "[Z", .methodLink RX10 104 yX10_one, .static yX10_one, .code yX10_one cX10_one 3 (some .int)] ++ wsX100)
def wsX10_even : List Cond := .code yX10_even cX10_even 6 (some .int) :: ([.fieldLink RX10 79 "ShadowBenchModel" "thrown" "I", .methodLink RX10 126 yX10_isPicture, .static yX10_isPicture, .initialized RX10, .code yX10_isPicture cX10_isPicture 4 (some .boolean), .methodLink RX10 89 yX10_isBoard, .static yX10_isBoard, .code yX10_isBoard cX10_isBoard 2 (some .boolean), .constantLong RX10 83 (6), .methodLink RX10 85 yX10_isIn, .static yX10_isIn, .code yX10_isIn cX10_isIn 6 (some .boolean), .methodLink RX10 146 yX10_isEven, .static yX10_isEven, .code yX10_isEven cX10_isEven 13 (some .boolean), .methodLink RX10 104 yX10_one, .static yX10_one, .code yX10_one cX10_one 3 (some .int)] ++ wsX100)
def wsX10_turned : List Cond := .code yX10_turned cX10_turned 12 (some .long) :: ([.fieldLink RX10 79 "ShadowBenchModel" "thrown" "I", .constantLong RX10 116 (3), .constantLong RX10 185 (-1), .methodLink RX10 126 yX10_isPicture, .static yX10_isPicture, .initialized RX10, .code yX10_isPicture cX10_isPicture 4 (some .boolean), .methodLink RX10 89 yX10_isBoard, .static yX10_isBoard, .code yX10_isBoard cX10_isBoard 2 (some .boolean), .constantLong RX10 83 (6), .methodLink RX10 85 yX10_isIn, .static yX10_isIn, .code yX10_isIn cX10_isIn 6 (some .boolean), .methodLink RX10 104 yX10_one, .static yX10_one, .code yX10_one cX10_one 3 (some .int)] ++ wsX100)
def wsX10_parts_r1 : List Cond := [Cond.fieldLink RX10 79 "ShadowBenchModel" "thrown" "I", Cond.constantLong RX10 228 (15), Cond.methodLink RX10 126 yX10_isPicture, Cond.static yX10_isPicture, Cond.initialized RX10, Cond.code yX10_isPicture cX10_isPicture 4 (some .boolean), Cond.methodLink RX10 89 yX10_isBoard, Cond.static yX10_isBoard, Cond.code yX10_isBoard cX10_isBoard 2 (some .boolean), Cond.constantLong RX10 83 (6), Cond.methodLink RX10 85 yX10_isIn, Cond.static yX10_isIn, Cond.code yX10_isIn cX10_isIn 6 (some .boolean), Cond.methodLink RX10 210 yX10_areAlike, Cond.static yX10_areAlike, Cond.code yX10_areAlike cX10_areAlike 9 (some .boolean), Cond.methodLink RX10 108 yX10_linesOf, Cond.static yX10_linesOf, Cond.code yX10_linesOf cX10_linesOf 3 (some .int), Cond.methodLink RX10 112 yX10_shadowOf, Cond.static yX10_shadowOf, Cond.code yX10_shadowOf cX10_shadowOf 8 (some .int), Cond.methodLink RX10 100 yX10_lineOf, Cond.static yX10_lineOf]
def wsX10_parts_r2 : List Cond := [Cond.code yX10_lineOf cX10_lineOf 4 (some .int), Cond.methodLink RX10 104 yX10_one, Cond.static yX10_one, Cond.code yX10_one cX10_one 3 (some .int)]
def wsX10_parts : List Cond := .code yX10_parts cX10_parts 9 (some .int) :: ((wsX10_parts_r1 ++ wsX10_parts_r2) ++ wsX100)
def wsX10_list : List Cond := .code yX10_list cX10_list 7 (some .int) :: ([.fieldLink RX10 79 "ShadowBenchModel" "thrown" "I", .fieldLink RX10 230 "ShadowBenchModel" "listed" "I", .fieldLink RX10 233 "ShadowBenchModel" "listWide" "I", .fieldLink RX10 236 "ShadowBenchModel" "listHigh" "I", .fieldLink RX10 52 "ShadowBenchModel" "list" "[J", .methodLink RX10 126 yX10_isPicture, .static yX10_isPicture, .initialized RX10, .code yX10_isPicture cX10_isPicture 4 (some .boolean), .methodLink RX10 89 yX10_isBoard, .static yX10_isBoard, .code yX10_isBoard cX10_isBoard 2 (some .boolean), .constantLong RX10 83 (6), .methodLink RX10 85 yX10_isIn, .static yX10_isIn, .code yX10_isIn cX10_isIn 6 (some .boolean)] ++ wsX100)
def wsX10_clear : List Cond := .code yX10_clear cX10_clear 2 (some .int) :: ([.fieldLink RX10 79 "ShadowBenchModel" "thrown" "I", .fieldLink RX10 230 "ShadowBenchModel" "listed" "I"] ++ wsX100)
def wsX10_tells : List Cond := .code yX10_tells cX10_tells 7 (some .boolean) :: ([.fieldLink RX10 230 "ShadowBenchModel" "listed" "I", .fieldLink RX10 233 "ShadowBenchModel" "listWide" "I", .fieldLink RX10 236 "ShadowBenchModel" "listHigh" "I", .fieldLink RX10 52 "ShadowBenchModel" "list" "[J", .methodLink RX10 210 yX10_areAlike, .static yX10_areAlike, .initialized RX10, .code yX10_areAlike cX10_areAlike 9 (some .boolean), .methodLink RX10 108 yX10_linesOf, .static yX10_linesOf, .code yX10_linesOf cX10_linesOf 3 (some .int), .methodLink RX10 112 yX10_shadowOf, .static yX10_shadowOf, .code yX10_shadowOf cX10_shadowOf 8 (some .int), .methodLink RX10 100 yX10_lineOf, .static yX10_lineOf, .code yX10_lineOf cX10_lineOf 4 (some .int), .methodLink RX10 104 yX10_one, .static yX10_one, .code yX10_one cX10_one 3 (some .int)] ++ wsX100)
def wsX10_ways_r1 : List Cond := [Cond.fieldLink RX10 79 "ShadowBenchModel" "thrown" "I", Cond.methodLink RX10 130 yX10_countOnes, Cond.static yX10_countOnes, Cond.initialized RX10, Cond.code yX10_countOnes cX10_countOnes 4 (some .int), Cond.methodLink RX10 104 yX10_one, Cond.static yX10_one, Cond.code yX10_one cX10_one 3 (some .int), Cond.methodLink RX10 239 yX10_tells, Cond.instanceMethod yX10_tells, Cond.selects RX10 yX10_tells yX10_tells, Cond.code yX10_tells cX10_tells 7 (some .boolean), Cond.fieldLink RX10 230 "ShadowBenchModel" "listed" "I", Cond.fieldLink RX10 233 "ShadowBenchModel" "listWide" "I", Cond.fieldLink RX10 236 "ShadowBenchModel" "listHigh" "I", Cond.fieldLink RX10 52 "ShadowBenchModel" "list" "[J", Cond.methodLink RX10 210 yX10_areAlike, Cond.static yX10_areAlike, Cond.code yX10_areAlike cX10_areAlike 9 (some .boolean), Cond.methodLink RX10 108 yX10_linesOf, Cond.static yX10_linesOf, Cond.code yX10_linesOf cX10_linesOf 3 (some .int), Cond.methodLink RX10 112 yX10_shadowOf, Cond.static yX10_shadowOf]
def wsX10_ways_r2 : List Cond := [Cond.code yX10_shadowOf cX10_shadowOf 8 (some .int), Cond.methodLink RX10 100 yX10_lineOf, Cond.static yX10_lineOf, Cond.code yX10_lineOf cX10_lineOf 4 (some .int)]
def wsX10_ways : List Cond := .code yX10_ways cX10_ways 3 (some .int) :: ((wsX10_ways_r1 ++ wsX10_ways_r2) ++ wsX100)
def wsX10_across : List Cond := .code yX10_across cX10_across 1 (some .int) :: ([])
def wsX10_down : List Cond := .code yX10_down cX10_down 1 (some .int) :: ([])
def wsX10_haunt : List Cond := .code yX10_haunt cX10_haunt 7 none :: ([.fieldLink RX10 55 "ShadowBenchModel" "ghost" "[I", .constantLong RX10 248 (10), .fieldLink RX10 58 "ShadowBenchModel" "moved" "[I", .methodLink RX10 242 yX10_across, .static yX10_across, .initialized RX10, .code yX10_across cX10_across 1 (some .int), .methodLink RX10 245 yX10_down, .static yX10_down, .code yX10_down cX10_down 1 (some .int), .methodLink RX10 85 yX10_isIn, .static yX10_isIn, .code yX10_isIn cX10_isIn 6 (some .boolean)] ++ wsX100)
def wsX10_ghost : List Cond := .code yX10_ghost cX10_ghost 4 (some .int) :: ([.constantLong RX10 228 (15), .constantLong RX10 250 (8), .fieldLink RX10 79 "ShadowBenchModel" "thrown" "I", .fieldLink RX10 55 "ShadowBenchModel" "ghost" "[I", .methodLink RX10 85 yX10_isIn, .static yX10_isIn, .initialized RX10, .code yX10_isIn cX10_isIn 6 (some .boolean), .methodLink RX10 252 yX10_haunt, .instanceMethod yX10_haunt, .selects RX10 yX10_haunt yX10_haunt, .code yX10_haunt cX10_haunt 7 none, .constantLong RX10 248 (10), .fieldLink RX10 58 "ShadowBenchModel" "moved" "[I", .methodLink RX10 242 yX10_across, .static yX10_across, .code yX10_across cX10_across 1 (some .int), .methodLink RX10 245 yX10_down, .static yX10_down, .code yX10_down cX10_down 1 (some .int)] ++ wsX100)
def wsX10_placesOf : List Cond := .code yX10_placesOf cX10_placesOf 8 (some .int) :: ([.methodLink RX10 242 yX10_across, .static yX10_across, .initialized RX10, .code yX10_across cX10_across 1 (some .int)])
def wsX10_haunts : List Cond := .code yX10_haunts cX10_haunts 4 (some .int) :: ([.fieldLink RX10 79 "ShadowBenchModel" "thrown" "I", .constantLong RX10 228 (15), .methodLink RX10 85 yX10_isIn, .static yX10_isIn, .initialized RX10, .code yX10_isIn cX10_isIn 6 (some .boolean), .methodLink RX10 89 yX10_isBoard, .static yX10_isBoard, .code yX10_isBoard cX10_isBoard 2 (some .boolean), .constantLong RX10 83 (6), .methodLink RX10 256 yX10_placesOf, .instanceMethod yX10_placesOf, .selects RX10 yX10_placesOf yX10_placesOf, .code yX10_placesOf cX10_placesOf 8 (some .int), .methodLink RX10 242 yX10_across, .static yX10_across, .code yX10_across cX10_across 1 (some .int)] ++ wsX100)
def wsX10_ghosts : List Cond := .code yX10_ghosts cX10_ghosts 4 (some .int) :: ([.fieldLink RX10 79 "ShadowBenchModel" "thrown" "I", .constantLong RX10 228 (15), .methodLink RX10 85 yX10_isIn, .static yX10_isIn, .initialized RX10, .code yX10_isIn cX10_isIn 6 (some .boolean), .methodLink RX10 89 yX10_isBoard, .static yX10_isBoard, .code yX10_isBoard cX10_isBoard 2 (some .boolean), .constantLong RX10 83 (6), .methodLink RX10 256 yX10_placesOf, .instanceMethod yX10_placesOf, .selects RX10 yX10_placesOf yX10_placesOf, .code yX10_placesOf cX10_placesOf 8 (some .int), .methodLink RX10 242 yX10_across, .static yX10_across, .code yX10_across cX10_across 1 (some .int)] ++ wsX100)
def wsX10_weightOf : List Cond := .code yX10_weightOf cX10_weightOf 5 (some .int) :: ([.fieldLink RX10 13 "ShadowBenchModel" "wide" "[I", .fieldLink RX10 16 "ShadowBenchModel" "high" "[I", .fieldLink RX10 29 "ShadowBenchModel" "weight" "[I", .fieldLink RX10 7 "ShadowBenchModel" "kind" "[I"] ++ wsX100)
def wsX10_make : List Cond := .code yX10_make cX10_make 5 (some .int) :: ([.fieldLink RX10 79 "ShadowBenchModel" "thrown" "I", .constantLong RX10 116 (3), .constantLong RX10 265 (4), .fieldLink RX10 61 "ShadowBenchModel" "shelf" "[I", .fieldLink RX10 64 "ShadowBenchModel" "shelfSize" "[I", .fieldLink RX10 73 "ShadowBenchModel" "shelfRow" "[J", .methodLink RX10 259 yX10_isShelf, .static yX10_isShelf, .initialized RX10, .code yX10_isShelf cX10_isShelf 1 (some .boolean), .methodLink RX10 85 yX10_isIn, .static yX10_isIn, .code yX10_isIn cX10_isIn 6 (some .boolean)] ++ wsX100)
def wsX10_element : List Cond := .code yX10_element cX10_element 4 (some .long) :: ([.fieldLink RX10 61 "ShadowBenchModel" "shelf" "[I", .fieldLink RX10 64 "ShadowBenchModel" "shelfSize" "[I", .fieldLink RX10 79 "ShadowBenchModel" "thrown" "I", .fieldLink RX10 73 "ShadowBenchModel" "shelfRow" "[J", .methodLink RX10 259 yX10_isShelf, .static yX10_isShelf, .initialized RX10, .code yX10_isShelf cX10_isShelf 1 (some .boolean), .methodLink RX10 85 yX10_isIn, .static yX10_isIn, .code yX10_isIn cX10_isIn 6 (some .boolean)] ++ wsX100)
def wsX10_hasPlaces : List Cond := .code yX10_hasPlaces cX10_hasPlaces 4 (some .boolean) :: ([.fieldLink RX10 64 "ShadowBenchModel" "shelfSize" "[I"] ++ wsX100)
def wsX10_copy : List Cond := .code yX10_copy cX10_copy 7 (some .int) :: ([.fieldLink RX10 79 "ShadowBenchModel" "thrown" "I", .fieldLink RX10 61 "ShadowBenchModel" "shelf" "[I", .fieldLink RX10 76 "ShadowBenchModel" "between" "[J", .fieldLink RX10 73 "ShadowBenchModel" "shelfRow" "[J", .methodLink RX10 259 yX10_isShelf, .static yX10_isShelf, .initialized RX10, .code yX10_isShelf cX10_isShelf 1 (some .boolean), .methodLink RX10 267 yX10_hasPlaces, .instanceMethod yX10_hasPlaces, .selects RX10 yX10_hasPlaces yX10_hasPlaces, .code yX10_hasPlaces cX10_hasPlaces 4 (some .boolean), .fieldLink RX10 64 "ShadowBenchModel" "shelfSize" "[I"] ++ wsX100)
def wsX10_layer : List Cond := .code yX10_layer cX10_layer 8 (some .long) :: ([.fieldLink RX10 79 "ShadowBenchModel" "thrown" "I", .constantLong RX10 250 (8), .constantLong RX10 185 (-1), .fieldLink RX10 61 "ShadowBenchModel" "shelf" "[I", .constantLong RX10 270 (-11), .constantLong RX10 272 (-12), .fieldLink RX10 64 "ShadowBenchModel" "shelfSize" "[I", .constantLong RX10 274 (-13), .fieldLink RX10 73 "ShadowBenchModel" "shelfRow" "[J", .constantLong RX10 276 (9), .constantLong RX10 189 (-2), .methodLink RX10 259 yX10_isShelf, .static yX10_isShelf, .initialized RX10, .code yX10_isShelf cX10_isShelf 1 (some .boolean), .methodLink RX10 85 yX10_isIn, .static yX10_isIn, .code yX10_isIn cX10_isIn 6 (some .boolean)] ++ wsX100)
def wsX10_weight : List Cond := .code yX10_weight cX10_weight 2 (some .int) :: ([.fieldLink RX10 61 "ShadowBenchModel" "shelf" "[I", .fieldLink RX10 79 "ShadowBenchModel" "thrown" "I", .fieldLink RX10 67 "ShadowBenchModel" "shelfWeight" "[I", .methodLink RX10 259 yX10_isShelf, .static yX10_isShelf, .initialized RX10, .code yX10_isShelf cX10_isShelf 1 (some .boolean)] ++ wsX100)
def wsX10_toss : List Cond := .code yX10_toss cX10_toss 2 (some .int) :: ([.fieldLink RX10 79 "ShadowBenchModel" "thrown" "I", .fieldLink RX10 61 "ShadowBenchModel" "shelf" "[I", .fieldLink RX10 70 "ShadowBenchModel" "shelfFailure" "[I", .methodLink RX10 259 yX10_isShelf, .static yX10_isShelf, .initialized RX10, .code yX10_isShelf cX10_isShelf 1 (some .boolean)] ++ wsX100)
set_option maxRecDepth 20000 in
theorem ggX10_job_X10_isIn : GoodIn wsX10_job wsX10_isIn := goodIn_r _ [12] (by decide +kernel) (by decide +kernel)
set_option maxRecDepth 20000 in
theorem gX10_job_X10_isIn : GoodIn wsX10_job (va_wsS RX10 85 yX10_isIn wsX10_isIn) := goodIn_app (goodIn_of _ (by decide +kernel)) ggX10_job_X10_isIn
set_option maxRecDepth 20000 in
theorem ggX10_job_X10_isBoard : GoodIn wsX10_job wsX10_isBoard := goodIn_r _ [15, 16, 9, 10, 11, 12] (by decide +kernel) (by decide +kernel)
set_option maxRecDepth 20000 in
theorem gX10_job_X10_isBoard : GoodIn wsX10_job (va_wsS RX10 89 yX10_isBoard wsX10_isBoard) := goodIn_app (goodIn_of _ (by decide +kernel)) ggX10_job_X10_isBoard
theorem dX10_job_0 : decode cX10_job 0 = .ok (.aload_n 0, 1) := by decide +kernel
theorem dX10_job_1 : decode cX10_job 1 = .ok (.iconst 0, 1) := by decide +kernel
theorem dX10_job_2 : decode cX10_job 2 = .ok (.putfield 79, 3) := by decide +kernel
theorem dX10_job_5 : decode cX10_job 5 = .ok (.iload_n 1, 1) := by decide +kernel
theorem dX10_job_6 : decode cX10_job 6 = .ok (.i2l, 1) := by decide +kernel
theorem dX10_job_7 : decode cX10_job 7 = .ok (.lconst 0, 1) := by decide +kernel
theorem dX10_job_8 : decode cX10_job 8 = .ok (.ldc2_w 116, 3) := by decide +kernel
theorem dX10_job_11 : decode cX10_job 11 = .ok (.invokestatic 85, 3) := by decide +kernel
theorem dX10_job_14 : decode cX10_job 14 = .ok (.ifCond .eq 11, 3) := by decide +kernel
theorem dX10_job_17 : decode cX10_job 17 = .ok (.iload_n 2, 1) := by decide +kernel
theorem dX10_job_18 : decode cX10_job 18 = .ok (.iload_n 3, 1) := by decide +kernel
theorem dX10_job_19 : decode cX10_job 19 = .ok (.invokestatic 89, 3) := by decide +kernel
theorem dX10_job_22 : decode cX10_job 22 = .ok (.ifCond .ne 5, 3) := by decide +kernel
theorem dX10_job_25 : decode cX10_job 25 = .ok (.iconst (-1), 1) := by decide +kernel
theorem dX10_job_26 : decode cX10_job 26 = .ok (.ireturn, 1) := by decide +kernel
theorem dX10_job_27 : decode cX10_job 27 = .ok (.aload_n 0, 1) := by decide +kernel
theorem dX10_job_28 : decode cX10_job 28 = .ok (.getfield 93, 3) := by decide +kernel
theorem dX10_job_31 : decode cX10_job 31 = .ok (.bipush 8, 2) := by decide +kernel
theorem dX10_job_33 : decode cX10_job 33 = .ok (.if_icmp .ne 6, 3) := by decide +kernel
theorem dX10_job_36 : decode cX10_job 36 = .ok (.bipush (-2), 2) := by decide +kernel
theorem dX10_job_38 : decode cX10_job 38 = .ok (.ireturn, 1) := by decide +kernel
theorem dX10_job_39 : decode cX10_job 39 = .ok (.aload_n 0, 1) := by decide +kernel
theorem dX10_job_40 : decode cX10_job 40 = .ok (.getfield 7, 3) := by decide +kernel
theorem dX10_job_43 : decode cX10_job 43 = .ok (.aload_n 0, 1) := by decide +kernel
theorem dX10_job_44 : decode cX10_job 44 = .ok (.getfield 93, 3) := by decide +kernel
theorem dX10_job_47 : decode cX10_job 47 = .ok (.iload_n 1, 1) := by decide +kernel
theorem dX10_job_48 : decode cX10_job 48 = .ok (.iastore, 1) := by decide +kernel
theorem dX10_job_49 : decode cX10_job 49 = .ok (.aload_n 0, 1) := by decide +kernel
theorem dX10_job_50 : decode cX10_job 50 = .ok (.getfield 13, 3) := by decide +kernel
theorem dX10_job_53 : decode cX10_job 53 = .ok (.aload_n 0, 1) := by decide +kernel
theorem dX10_job_54 : decode cX10_job 54 = .ok (.getfield 93, 3) := by decide +kernel
theorem dX10_job_57 : decode cX10_job 57 = .ok (.iload_n 2, 1) := by decide +kernel
theorem dX10_job_58 : decode cX10_job 58 = .ok (.iastore, 1) := by decide +kernel
theorem dX10_job_59 : decode cX10_job 59 = .ok (.aload_n 0, 1) := by decide +kernel
theorem dX10_job_60 : decode cX10_job 60 = .ok (.getfield 16, 3) := by decide +kernel
theorem dX10_job_63 : decode cX10_job 63 = .ok (.aload_n 0, 1) := by decide +kernel
theorem dX10_job_64 : decode cX10_job 64 = .ok (.getfield 93, 3) := by decide +kernel
theorem dX10_job_67 : decode cX10_job 67 = .ok (.iload_n 3, 1) := by decide +kernel
theorem dX10_job_68 : decode cX10_job 68 = .ok (.iastore, 1) := by decide +kernel
theorem dX10_job_69 : decode cX10_job 69 = .ok (.aload_n 0, 1) := by decide +kernel
theorem dX10_job_70 : decode cX10_job 70 = .ok (.getfield 22, 3) := by decide +kernel
theorem dX10_job_73 : decode cX10_job 73 = .ok (.iconst 4, 1) := by decide +kernel
theorem dX10_job_74 : decode cX10_job 74 = .ok (.aload_n 0, 1) := by decide +kernel
theorem dX10_job_75 : decode cX10_job 75 = .ok (.getfield 93, 3) := by decide +kernel
theorem dX10_job_78 : decode cX10_job 78 = .ok (.imul, 1) := by decide +kernel
theorem dX10_job_79 : decode cX10_job 79 = .ok (.iconst 1, 1) := by decide +kernel
theorem dX10_job_80 : decode cX10_job 80 = .ok (.bastore, 1) := by decide +kernel
theorem dX10_job_81 : decode cX10_job 81 = .ok (.aload_n 0, 1) := by decide +kernel
theorem dX10_job_82 : decode cX10_job 82 = .ok (.getfield 22, 3) := by decide +kernel
theorem dX10_job_85 : decode cX10_job 85 = .ok (.iconst 4, 1) := by decide +kernel
theorem dX10_job_86 : decode cX10_job 86 = .ok (.aload_n 0, 1) := by decide +kernel
theorem dX10_job_87 : decode cX10_job 87 = .ok (.getfield 93, 3) := by decide +kernel
theorem dX10_job_90 : decode cX10_job 90 = .ok (.imul, 1) := by decide +kernel
theorem dX10_job_91 : decode cX10_job 91 = .ok (.iconst 1, 1) := by decide +kernel
theorem dX10_job_92 : decode cX10_job 92 = .ok (.iadd, 1) := by decide +kernel
theorem dX10_job_93 : decode cX10_job 93 = .ok (.iconst 1, 1) := by decide +kernel
theorem dX10_job_94 : decode cX10_job 94 = .ok (.bastore, 1) := by decide +kernel
theorem dX10_job_95 : decode cX10_job 95 = .ok (.bipush 36, 2) := by decide +kernel
theorem dX10_job_97 : decode cX10_job 97 = .ok (.aload_n 0, 1) := by decide +kernel
theorem dX10_job_98 : decode cX10_job 98 = .ok (.getfield 93, 3) := by decide +kernel
theorem dX10_job_101 : decode cX10_job 101 = .ok (.imul, 1) := by decide +kernel
theorem dX10_job_102 : decode cX10_job 102 = .ok (.istore 4, 2) := by decide +kernel
theorem dX10_job_104 : decode cX10_job 104 = .ok (.iload 4, 2) := by decide +kernel
theorem dX10_job_106 : decode cX10_job 106 = .ok (.bipush 36, 2) := by decide +kernel
theorem dX10_job_108 : decode cX10_job 108 = .ok (.aload_n 0, 1) := by decide +kernel
theorem dX10_job_109 : decode cX10_job 109 = .ok (.getfield 93, 3) := by decide +kernel
theorem dX10_job_112 : decode cX10_job 112 = .ok (.imul, 1) := by decide +kernel
theorem dX10_job_113 : decode cX10_job 113 = .ok (.bipush 36, 2) := by decide +kernel
theorem dX10_job_115 : decode cX10_job 115 = .ok (.iadd, 1) := by decide +kernel
theorem dX10_job_116 : decode cX10_job 116 = .ok (.if_icmp .ge 17, 3) := by decide +kernel
theorem dX10_job_119 : decode cX10_job 119 = .ok (.aload_n 0, 1) := by decide +kernel
theorem dX10_job_120 : decode cX10_job 120 = .ok (.getfield 26, 3) := by decide +kernel
theorem dX10_job_123 : decode cX10_job 123 = .ok (.iload 4, 2) := by decide +kernel
theorem dX10_job_125 : decode cX10_job 125 = .ok (.iconst 2, 1) := by decide +kernel
theorem dX10_job_126 : decode cX10_job 126 = .ok (.iastore, 1) := by decide +kernel
theorem dX10_job_127 : decode cX10_job 127 = .ok (.iinc 4 1, 3) := by decide +kernel
theorem dX10_job_130 : decode cX10_job 130 = .ok (.goto (-26), 3) := by decide +kernel
theorem dX10_job_133 : decode cX10_job 133 = .ok (.aload_n 0, 1) := by decide +kernel
theorem dX10_job_134 : decode cX10_job 134 = .ok (.dup, 1) := by decide +kernel
theorem dX10_job_135 : decode cX10_job 135 = .ok (.getfield 93, 3) := by decide +kernel
theorem dX10_job_138 : decode cX10_job 138 = .ok (.iconst 1, 1) := by decide +kernel
theorem dX10_job_139 : decode cX10_job 139 = .ok (.iadd, 1) := by decide +kernel
theorem dX10_job_140 : decode cX10_job 140 = .ok (.putfield 93, 3) := by decide +kernel
theorem dX10_job_143 : decode cX10_job 143 = .ok (.aload_n 0, 1) := by decide +kernel
theorem dX10_job_144 : decode cX10_job 144 = .ok (.getfield 93, 3) := by decide +kernel
theorem dX10_job_147 : decode cX10_job 147 = .ok (.iconst 1, 1) := by decide +kernel
theorem dX10_job_148 : decode cX10_job 148 = .ok (.isub, 1) := by decide +kernel
theorem dX10_job_149 : decode cX10_job 149 = .ok (.ireturn, 1) := by decide +kernel
set_option maxRecDepth 20000 in
theorem ggX10_clash_X10_isJob : GoodIn wsX10_clash wsX10_isJob := goodIn_r _ [10, 11, 12, 13, 14, 15, 16, 17, 18, 19, 20, 21, 22, 23, 24, 25, 26, 27, 28, 29, 30, 31, 32, 33, 34, 35, 36, 37, 38, 39, 40, 41, 42, 43, 44, 45, 46] (by decide +kernel) (by decide +kernel)
set_option maxRecDepth 20000 in
theorem gX10_clash_X10_isJob : GoodIn wsX10_clash (wsV RX10 96 RX10 yX10_isJob wsX10_isJob) := goodIn_app (goodIn_of _ (by decide +kernel)) ggX10_clash_X10_isJob
theorem dX10_clash_0 : decode cX10_clash 0 = .ok (.aload_n 0, 1) := by decide +kernel
theorem dX10_clash_1 : decode cX10_clash 1 = .ok (.iconst 0, 1) := by decide +kernel
theorem dX10_clash_2 : decode cX10_clash 2 = .ok (.putfield 79, 3) := by decide +kernel
theorem dX10_clash_5 : decode cX10_clash 5 = .ok (.aload_n 0, 1) := by decide +kernel
theorem dX10_clash_6 : decode cX10_clash 6 = .ok (.iload_n 1, 1) := by decide +kernel
theorem dX10_clash_7 : decode cX10_clash 7 = .ok (.invokevirtual 96, 3) := by decide +kernel
theorem dX10_clash_10 : decode cX10_clash 10 = .ok (.ifCond .ne 5, 3) := by decide +kernel
theorem dX10_clash_13 : decode cX10_clash 13 = .ok (.iconst (-1), 1) := by decide +kernel
theorem dX10_clash_14 : decode cX10_clash 14 = .ok (.ireturn, 1) := by decide +kernel
theorem dX10_clash_15 : decode cX10_clash 15 = .ok (.aload_n 0, 1) := by decide +kernel
theorem dX10_clash_16 : decode cX10_clash 16 = .ok (.getfield 13, 3) := by decide +kernel
theorem dX10_clash_19 : decode cX10_clash 19 = .ok (.iload_n 1, 1) := by decide +kernel
theorem dX10_clash_20 : decode cX10_clash 20 = .ok (.iaload, 1) := by decide +kernel
theorem dX10_clash_21 : decode cX10_clash 21 = .ok (.istore_n 2, 1) := by decide +kernel
theorem dX10_clash_22 : decode cX10_clash 22 = .ok (.iconst 0, 1) := by decide +kernel
theorem dX10_clash_23 : decode cX10_clash 23 = .ok (.istore_n 3, 1) := by decide +kernel
theorem dX10_clash_24 : decode cX10_clash 24 = .ok (.iconst 0, 1) := by decide +kernel
theorem dX10_clash_25 : decode cX10_clash 25 = .ok (.istore 4, 2) := by decide +kernel
theorem dX10_clash_27 : decode cX10_clash 27 = .ok (.iconst 0, 1) := by decide +kernel
theorem dX10_clash_28 : decode cX10_clash 28 = .ok (.istore 5, 2) := by decide +kernel
theorem dX10_clash_30 : decode cX10_clash 30 = .ok (.iload 5, 2) := by decide +kernel
theorem dX10_clash_32 : decode cX10_clash 32 = .ok (.aload_n 0, 1) := by decide +kernel
theorem dX10_clash_33 : decode cX10_clash 33 = .ok (.getfield 16, 3) := by decide +kernel
theorem dX10_clash_36 : decode cX10_clash 36 = .ok (.iload_n 1, 1) := by decide +kernel
theorem dX10_clash_37 : decode cX10_clash 37 = .ok (.iaload, 1) := by decide +kernel
theorem dX10_clash_38 : decode cX10_clash 38 = .ok (.if_icmp .ge 24, 3) := by decide +kernel
theorem dX10_clash_41 : decode cX10_clash 41 = .ok (.iload_n 3, 1) := by decide +kernel
theorem dX10_clash_42 : decode cX10_clash 42 = .ok (.aload_n 0, 1) := by decide +kernel
theorem dX10_clash_43 : decode cX10_clash 43 = .ok (.getfield 19, 3) := by decide +kernel
theorem dX10_clash_46 : decode cX10_clash 46 = .ok (.bipush 44, 2) := by decide +kernel
theorem dX10_clash_48 : decode cX10_clash 48 = .ok (.iload_n 1, 1) := by decide +kernel
theorem dX10_clash_49 : decode cX10_clash 49 = .ok (.imul, 1) := by decide +kernel
theorem dX10_clash_50 : decode cX10_clash 50 = .ok (.iload 5, 2) := by decide +kernel
theorem dX10_clash_52 : decode cX10_clash 52 = .ok (.iadd, 1) := by decide +kernel
theorem dX10_clash_53 : decode cX10_clash 53 = .ok (.iaload, 1) := by decide +kernel
theorem dX10_clash_54 : decode cX10_clash 54 = .ok (.iadd, 1) := by decide +kernel
theorem dX10_clash_55 : decode cX10_clash 55 = .ok (.istore_n 3, 1) := by decide +kernel
theorem dX10_clash_56 : decode cX10_clash 56 = .ok (.iinc 5 1, 3) := by decide +kernel
theorem dX10_clash_59 : decode cX10_clash 59 = .ok (.goto (-29), 3) := by decide +kernel
theorem dX10_clash_62 : decode cX10_clash 62 = .ok (.iconst 0, 1) := by decide +kernel
theorem dX10_clash_63 : decode cX10_clash 63 = .ok (.istore 5, 2) := by decide +kernel
theorem dX10_clash_65 : decode cX10_clash 65 = .ok (.iload 5, 2) := by decide +kernel
theorem dX10_clash_67 : decode cX10_clash 67 = .ok (.iload_n 2, 1) := by decide +kernel
theorem dX10_clash_68 : decode cX10_clash 68 = .ok (.if_icmp .ge 43, 3) := by decide +kernel
theorem dX10_clash_71 : decode cX10_clash 71 = .ok (.aload_n 0, 1) := by decide +kernel
theorem dX10_clash_72 : decode cX10_clash 72 = .ok (.getfield 38, 3) := by decide +kernel
theorem dX10_clash_75 : decode cX10_clash 75 = .ok (.iload 5, 2) := by decide +kernel
theorem dX10_clash_77 : decode cX10_clash 77 = .ok (.aload_n 0, 1) := by decide +kernel
theorem dX10_clash_78 : decode cX10_clash 78 = .ok (.getfield 19, 3) := by decide +kernel
theorem dX10_clash_81 : decode cX10_clash 81 = .ok (.bipush 44, 2) := by decide +kernel
theorem dX10_clash_83 : decode cX10_clash 83 = .ok (.iload_n 1, 1) := by decide +kernel
theorem dX10_clash_84 : decode cX10_clash 84 = .ok (.imul, 1) := by decide +kernel
theorem dX10_clash_85 : decode cX10_clash 85 = .ok (.bipush 11, 2) := by decide +kernel
theorem dX10_clash_87 : decode cX10_clash 87 = .ok (.iadd, 1) := by decide +kernel
theorem dX10_clash_88 : decode cX10_clash 88 = .ok (.iload 5, 2) := by decide +kernel
theorem dX10_clash_90 : decode cX10_clash 90 = .ok (.iadd, 1) := by decide +kernel
theorem dX10_clash_91 : decode cX10_clash 91 = .ok (.iaload, 1) := by decide +kernel
theorem dX10_clash_92 : decode cX10_clash 92 = .ok (.iastore, 1) := by decide +kernel
theorem dX10_clash_93 : decode cX10_clash 93 = .ok (.iload 4, 2) := by decide +kernel
theorem dX10_clash_95 : decode cX10_clash 95 = .ok (.aload_n 0, 1) := by decide +kernel
theorem dX10_clash_96 : decode cX10_clash 96 = .ok (.getfield 38, 3) := by decide +kernel
theorem dX10_clash_99 : decode cX10_clash 99 = .ok (.iload 5, 2) := by decide +kernel
theorem dX10_clash_101 : decode cX10_clash 101 = .ok (.iaload, 1) := by decide +kernel
theorem dX10_clash_102 : decode cX10_clash 102 = .ok (.iadd, 1) := by decide +kernel
theorem dX10_clash_103 : decode cX10_clash 103 = .ok (.istore 4, 2) := by decide +kernel
theorem dX10_clash_105 : decode cX10_clash 105 = .ok (.iinc 5 1, 3) := by decide +kernel
theorem dX10_clash_108 : decode cX10_clash 108 = .ok (.goto (-43), 3) := by decide +kernel
theorem dX10_clash_111 : decode cX10_clash 111 = .ok (.iload_n 3, 1) := by decide +kernel
theorem dX10_clash_112 : decode cX10_clash 112 = .ok (.iload 4, 2) := by decide +kernel
theorem dX10_clash_114 : decode cX10_clash 114 = .ok (.if_icmp .eq 5, 3) := by decide +kernel
theorem dX10_clash_117 : decode cX10_clash 117 = .ok (.iconst 0, 1) := by decide +kernel
theorem dX10_clash_118 : decode cX10_clash 118 = .ok (.ireturn, 1) := by decide +kernel
theorem dX10_clash_119 : decode cX10_clash 119 = .ok (.iconst 0, 1) := by decide +kernel
theorem dX10_clash_120 : decode cX10_clash 120 = .ok (.istore 5, 2) := by decide +kernel
theorem dX10_clash_122 : decode cX10_clash 122 = .ok (.iconst 1, 1) := by decide +kernel
theorem dX10_clash_123 : decode cX10_clash 123 = .ok (.istore 6, 2) := by decide +kernel
theorem dX10_clash_125 : decode cX10_clash 125 = .ok (.iload 6, 2) := by decide +kernel
theorem dX10_clash_127 : decode cX10_clash 127 = .ok (.iload_n 2, 1) := by decide +kernel
theorem dX10_clash_128 : decode cX10_clash 128 = .ok (.if_icmp .gt 139, 3) := by decide +kernel
theorem dX10_clash_131 : decode cX10_clash 131 = .ok (.iconst 0, 1) := by decide +kernel
theorem dX10_clash_132 : decode cX10_clash 132 = .ok (.istore 7, 2) := by decide +kernel
theorem dX10_clash_134 : decode cX10_clash 134 = .ok (.iconst 0, 1) := by decide +kernel
theorem dX10_clash_135 : decode cX10_clash 135 = .ok (.istore 8, 2) := by decide +kernel
theorem dX10_clash_137 : decode cX10_clash 137 = .ok (.iload 8, 2) := by decide +kernel
theorem dX10_clash_139 : decode cX10_clash 139 = .ok (.iload_n 2, 1) := by decide +kernel
theorem dX10_clash_140 : decode cX10_clash 140 = .ok (.if_icmp .ge 35, 3) := by decide +kernel
theorem dX10_clash_143 : decode cX10_clash 143 = .ok (.aload_n 0, 1) := by decide +kernel
theorem dX10_clash_144 : decode cX10_clash 144 = .ok (.getfield 38, 3) := by decide +kernel
theorem dX10_clash_147 : decode cX10_clash 147 = .ok (.iload 8, 2) := by decide +kernel
theorem dX10_clash_149 : decode cX10_clash 149 = .ok (.iaload, 1) := by decide +kernel
theorem dX10_clash_150 : decode cX10_clash 150 = .ok (.aload_n 0, 1) := by decide +kernel
theorem dX10_clash_151 : decode cX10_clash 151 = .ok (.getfield 38, 3) := by decide +kernel
theorem dX10_clash_154 : decode cX10_clash 154 = .ok (.iload 7, 2) := by decide +kernel
theorem dX10_clash_156 : decode cX10_clash 156 = .ok (.iaload, 1) := by decide +kernel
theorem dX10_clash_157 : decode cX10_clash 157 = .ok (.if_icmp .le 8, 3) := by decide +kernel
theorem dX10_clash_160 : decode cX10_clash 160 = .ok (.iload 8, 2) := by decide +kernel
theorem dX10_clash_162 : decode cX10_clash 162 = .ok (.goto 5, 3) := by decide +kernel
theorem dX10_clash_165 : decode cX10_clash 165 = .ok (.iload 7, 2) := by decide +kernel
theorem dX10_clash_167 : decode cX10_clash 167 = .ok (.istore 7, 2) := by decide +kernel
theorem dX10_clash_169 : decode cX10_clash 169 = .ok (.iinc 8 1, 3) := by decide +kernel
theorem dX10_clash_172 : decode cX10_clash 172 = .ok (.goto (-35), 3) := by decide +kernel
theorem dX10_clash_175 : decode cX10_clash 175 = .ok (.iload 5, 2) := by decide +kernel
theorem dX10_clash_177 : decode cX10_clash 177 = .ok (.aload_n 0, 1) := by decide +kernel
theorem dX10_clash_178 : decode cX10_clash 178 = .ok (.getfield 38, 3) := by decide +kernel
theorem dX10_clash_181 : decode cX10_clash 181 = .ok (.iload 7, 2) := by decide +kernel
theorem dX10_clash_183 : decode cX10_clash 183 = .ok (.iaload, 1) := by decide +kernel
theorem dX10_clash_184 : decode cX10_clash 184 = .ok (.iadd, 1) := by decide +kernel
theorem dX10_clash_185 : decode cX10_clash 185 = .ok (.istore 5, 2) := by decide +kernel
theorem dX10_clash_187 : decode cX10_clash 187 = .ok (.aload_n 0, 1) := by decide +kernel
theorem dX10_clash_188 : decode cX10_clash 188 = .ok (.getfield 38, 3) := by decide +kernel
theorem dX10_clash_191 : decode cX10_clash 191 = .ok (.iload 7, 2) := by decide +kernel
theorem dX10_clash_193 : decode cX10_clash 193 = .ok (.iconst (-1), 1) := by decide +kernel
theorem dX10_clash_194 : decode cX10_clash 194 = .ok (.iastore, 1) := by decide +kernel
theorem dX10_clash_195 : decode cX10_clash 195 = .ok (.iconst 0, 1) := by decide +kernel
theorem dX10_clash_196 : decode cX10_clash 196 = .ok (.istore 8, 2) := by decide +kernel
theorem dX10_clash_198 : decode cX10_clash 198 = .ok (.iconst 0, 1) := by decide +kernel
theorem dX10_clash_199 : decode cX10_clash 199 = .ok (.istore 9, 2) := by decide +kernel
theorem dX10_clash_201 : decode cX10_clash 201 = .ok (.iload 9, 2) := by decide +kernel
theorem dX10_clash_203 : decode cX10_clash 203 = .ok (.aload_n 0, 1) := by decide +kernel
theorem dX10_clash_204 : decode cX10_clash 204 = .ok (.getfield 16, 3) := by decide +kernel
theorem dX10_clash_207 : decode cX10_clash 207 = .ok (.iload_n 1, 1) := by decide +kernel
theorem dX10_clash_208 : decode cX10_clash 208 = .ok (.iaload, 1) := by decide +kernel
theorem dX10_clash_209 : decode cX10_clash 209 = .ok (.if_icmp .ge 42, 3) := by decide +kernel
theorem dX10_clash_212 : decode cX10_clash 212 = .ok (.aload_n 0, 1) := by decide +kernel
theorem dX10_clash_213 : decode cX10_clash 213 = .ok (.getfield 19, 3) := by decide +kernel
theorem dX10_clash_216 : decode cX10_clash 216 = .ok (.bipush 44, 2) := by decide +kernel
theorem dX10_clash_218 : decode cX10_clash 218 = .ok (.iload_n 1, 1) := by decide +kernel
theorem dX10_clash_219 : decode cX10_clash 219 = .ok (.imul, 1) := by decide +kernel
theorem dX10_clash_220 : decode cX10_clash 220 = .ok (.iload 9, 2) := by decide +kernel
theorem dX10_clash_222 : decode cX10_clash 222 = .ok (.iadd, 1) := by decide +kernel
theorem dX10_clash_223 : decode cX10_clash 223 = .ok (.iaload, 1) := by decide +kernel
theorem dX10_clash_224 : decode cX10_clash 224 = .ok (.istore 10, 2) := by decide +kernel
theorem dX10_clash_226 : decode cX10_clash 226 = .ok (.iload 8, 2) := by decide +kernel
theorem dX10_clash_228 : decode cX10_clash 228 = .ok (.iload 10, 2) := by decide +kernel
theorem dX10_clash_230 : decode cX10_clash 230 = .ok (.iload 6, 2) := by decide +kernel
theorem dX10_clash_232 : decode cX10_clash 232 = .ok (.if_icmp .ge 8, 3) := by decide +kernel
theorem dX10_clash_235 : decode cX10_clash 235 = .ok (.iload 10, 2) := by decide +kernel
theorem dX10_clash_237 : decode cX10_clash 237 = .ok (.goto 5, 3) := by decide +kernel
theorem dX10_clash_240 : decode cX10_clash 240 = .ok (.iload 6, 2) := by decide +kernel
theorem dX10_clash_242 : decode cX10_clash 242 = .ok (.iadd, 1) := by decide +kernel
theorem dX10_clash_243 : decode cX10_clash 243 = .ok (.istore 8, 2) := by decide +kernel
theorem dX10_clash_245 : decode cX10_clash 245 = .ok (.iinc 9 1, 3) := by decide +kernel
theorem dX10_clash_248 : decode cX10_clash 248 = .ok (.goto (-47), 3) := by decide +kernel
theorem dX10_clash_251 : decode cX10_clash 251 = .ok (.iload 5, 2) := by decide +kernel
theorem dX10_clash_253 : decode cX10_clash 253 = .ok (.iload 8, 2) := by decide +kernel
theorem dX10_clash_255 : decode cX10_clash 255 = .ok (.if_icmp .le 6, 3) := by decide +kernel
theorem dX10_clash_258 : decode cX10_clash 258 = .ok (.iload 6, 2) := by decide +kernel
theorem dX10_clash_260 : decode cX10_clash 260 = .ok (.ireturn, 1) := by decide +kernel
theorem dX10_clash_261 : decode cX10_clash 261 = .ok (.iinc 6 1, 3) := by decide +kernel
theorem dX10_clash_264 : decode cX10_clash 264 = .ok (.goto (-139), 3) := by decide +kernel
theorem dX10_clash_267 : decode cX10_clash 267 = .ok (.bipush (-2), 2) := by decide +kernel
theorem dX10_clash_269 : decode cX10_clash 269 = .ok (.ireturn, 1) := by decide +kernel
set_option maxRecDepth 20000 in
theorem ggX10_seek_X10_isJob : GoodIn wsX10_seek wsX10_isJob := goodIn_r _ [13, 14, 66, 67, 68, 69, 70, 71, 72, 73, 74, 75, 76, 77, 78, 79, 80, 81, 82, 83, 84, 85, 86, 87, 88, 89, 90, 91, 92, 93, 94, 95, 96, 97, 98, 99, 100] (by decide +kernel) (by decide +kernel)
set_option maxRecDepth 20000 in
theorem gX10_seek_X10_isJob : GoodIn wsX10_seek (wsV RX10 96 RX10 yX10_isJob wsX10_isJob) := goodIn_app (goodIn_of _ (by decide +kernel)) ggX10_seek_X10_isJob
set_option maxRecDepth 20000 in
theorem ggX10_seek_X10_begin : GoodIn wsX10_seek wsX10_begin := goodIn_r _ [18, 19, 20, 21, 8, 66, 67, 68, 69, 70, 71, 72, 73, 74, 75, 76, 77, 78, 79, 80, 81, 82, 83, 84, 85, 86, 87, 88, 89, 90, 91, 92, 93, 94, 95, 96, 97, 98, 99, 100] (by decide +kernel) (by decide +kernel)
set_option maxRecDepth 20000 in
theorem gX10_seek_X10_begin : GoodIn wsX10_seek (wsV RX10 179 RX10 yX10_begin wsX10_begin) := goodIn_app (goodIn_of _ (by decide +kernel)) ggX10_seek_X10_begin
set_option maxRecDepth 20000 in
theorem ggX10_seek_X10_isNext : GoodIn wsX10_seek wsX10_isNext := goodIn_r _ [25, 19, 20, 2, 21, 26, 8, 3, 4, 27, 28, 29, 12, 30, 31, 32, 33, 34, 35, 36, 37, 38, 39, 40, 41, 42, 43, 44, 45, 46, 47, 48, 49, 50, 51, 52, 53, 54, 55, 56, 57, 1, 58, 59, 60, 61, 62, 63, 64, 65, 66, 67, 68, 69, 70, 71, 72, 73, 74, 75, 76, 77, 78, 79, 80, 81, 82, 83, 84, 85, 86, 87, 88, 89, 90, 91, 92, 93, 94, 95, 96, 97, 98, 99, 100] (by decide +kernel) (by decide +kernel)
set_option maxRecDepth 20000 in
theorem gX10_seek_X10_isNext : GoodIn wsX10_seek (wsV RX10 182 RX10 yX10_isNext wsX10_isNext) := goodIn_app (goodIn_of _ (by decide +kernel)) ggX10_seek_X10_isNext
set_option maxRecDepth 20000 in
theorem ggX10_seek_X10_one : GoodIn wsX10_seek wsX10_one := goodIn_r _ [44] (by decide +kernel) (by decide +kernel)
set_option maxRecDepth 20000 in
theorem gX10_seek_X10_one : GoodIn wsX10_seek (va_wsS RX10 104 yX10_one wsX10_one) := goodIn_app (goodIn_of _ (by decide +kernel)) ggX10_seek_X10_one
theorem dX10_seek_0 : decode cX10_seek 0 = .ok (.aload_n 0, 1) := by decide +kernel
theorem dX10_seek_1 : decode cX10_seek 1 = .ok (.iload_n 1, 1) := by decide +kernel
theorem dX10_seek_2 : decode cX10_seek 2 = .ok (.invokevirtual 96, 3) := by decide +kernel
theorem dX10_seek_5 : decode cX10_seek 5 = .ok (.ifCond .eq 13, 3) := by decide +kernel
theorem dX10_seek_8 : decode cX10_seek 8 = .ok (.aload_n 0, 1) := by decide +kernel
theorem dX10_seek_9 : decode cX10_seek 9 = .ok (.getfield 7, 3) := by decide +kernel
theorem dX10_seek_12 : decode cX10_seek 12 = .ok (.iload_n 1, 1) := by decide +kernel
theorem dX10_seek_13 : decode cX10_seek 13 = .ok (.iaload, 1) := by decide +kernel
theorem dX10_seek_14 : decode cX10_seek 14 = .ok (.iconst 3, 1) := by decide +kernel
theorem dX10_seek_15 : decode cX10_seek 15 = .ok (.if_icmp .eq 5, 3) := by decide +kernel
theorem dX10_seek_18 : decode cX10_seek 18 = .ok (.iconst 1, 1) := by decide +kernel
theorem dX10_seek_19 : decode cX10_seek 19 = .ok (.ireturn, 1) := by decide +kernel
theorem dX10_seek_20 : decode cX10_seek 20 = .ok (.aload_n 0, 1) := by decide +kernel
theorem dX10_seek_21 : decode cX10_seek 21 = .ok (.invokevirtual 179, 3) := by decide +kernel
theorem dX10_seek_24 : decode cX10_seek 24 = .ok (.iconst 0, 1) := by decide +kernel
theorem dX10_seek_25 : decode cX10_seek 25 = .ok (.istore_n 2, 1) := by decide +kernel
theorem dX10_seek_26 : decode cX10_seek 26 = .ok (.aload_n 0, 1) := by decide +kernel
theorem dX10_seek_27 : decode cX10_seek 27 = .ok (.iload_n 1, 1) := by decide +kernel
theorem dX10_seek_28 : decode cX10_seek 28 = .ok (.invokevirtual 182, 3) := by decide +kernel
theorem dX10_seek_31 : decode cX10_seek 31 = .ok (.ifCond .eq 87, 3) := by decide +kernel
theorem dX10_seek_34 : decode cX10_seek 34 = .ok (.iconst 0, 1) := by decide +kernel
theorem dX10_seek_35 : decode cX10_seek 35 = .ok (.istore_n 3, 1) := by decide +kernel
theorem dX10_seek_36 : decode cX10_seek 36 = .ok (.iconst 0, 1) := by decide +kernel
theorem dX10_seek_37 : decode cX10_seek 37 = .ok (.istore 4, 2) := by decide +kernel
theorem dX10_seek_39 : decode cX10_seek 39 = .ok (.iload 4, 2) := by decide +kernel
theorem dX10_seek_41 : decode cX10_seek 41 = .ok (.aload_n 0, 1) := by decide +kernel
theorem dX10_seek_42 : decode cX10_seek 42 = .ok (.getfield 13, 3) := by decide +kernel
theorem dX10_seek_45 : decode cX10_seek 45 = .ok (.iload_n 1, 1) := by decide +kernel
theorem dX10_seek_46 : decode cX10_seek 46 = .ok (.iaload, 1) := by decide +kernel
theorem dX10_seek_47 : decode cX10_seek 47 = .ok (.aload_n 0, 1) := by decide +kernel
theorem dX10_seek_48 : decode cX10_seek 48 = .ok (.getfield 16, 3) := by decide +kernel
theorem dX10_seek_51 : decode cX10_seek 51 = .ok (.iload_n 1, 1) := by decide +kernel
theorem dX10_seek_52 : decode cX10_seek 52 = .ok (.iaload, 1) := by decide +kernel
theorem dX10_seek_53 : decode cX10_seek 53 = .ok (.imul, 1) := by decide +kernel
theorem dX10_seek_54 : decode cX10_seek 54 = .ok (.if_icmp .ge 34, 3) := by decide +kernel
theorem dX10_seek_57 : decode cX10_seek 57 = .ok (.iload_n 3, 1) := by decide +kernel
theorem dX10_seek_58 : decode cX10_seek 58 = .ok (.aload_n 0, 1) := by decide +kernel
theorem dX10_seek_59 : decode cX10_seek 59 = .ok (.getfield 175, 3) := by decide +kernel
theorem dX10_seek_62 : decode cX10_seek 62 = .ok (.iload 4, 2) := by decide +kernel
theorem dX10_seek_64 : decode cX10_seek 64 = .ok (.invokestatic 104, 3) := by decide +kernel
