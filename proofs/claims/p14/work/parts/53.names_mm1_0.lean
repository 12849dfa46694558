abbrev cX10_switches : ByteArray := prog_12_method_42_code
def yX10_switches : MethodName := ⟨RX10, "switches", "(IIJ)I"⟩
abbrev cX10_switched : ByteArray := prog_12_method_43_code
def yX10_switched : MethodName := ⟨RX10, "switched", "(IIJI)J"⟩
abbrev cX10_joined : ByteArray := prog_12_method_48_code
def yX10_joined : MethodName := ⟨RX10, "joined", "(IIJ)I"⟩
abbrev cX10_even : ByteArray := prog_12_method_49_code
def yX10_even : MethodName := ⟨RX10, "even", "(IIJZ)I"⟩
abbrev cX10_turned : ByteArray := prog_12_method_50_code
def yX10_turned : MethodName := ⟨RX10, "turned", "(IIJI)J"⟩
abbrev cX10_parts : ByteArray := prog_12_method_51_code
def yX10_parts : MethodName := ⟨RX10, "parts", "(IIJJI)I"⟩
abbrev cX10_list : ByteArray := prog_12_method_52_code
def yX10_list : MethodName := ⟨RX10, "list", "(IIJ)I"⟩
abbrev cX10_clear : ByteArray := prog_12_method_53_code
def yX10_clear : MethodName := ⟨RX10, "clear", "()I"⟩
abbrev cX10_tells : ByteArray := prog_12_method_54_code
def yX10_tells : MethodName := ⟨RX10, "tells", "(I)Z"⟩
abbrev cX10_ways : ByteArray := prog_12_method_55_code
def yX10_ways : MethodName := ⟨RX10, "ways", "()I"⟩
abbrev cX10_haunt : ByteArray := prog_12_method_58_code
def yX10_haunt : MethodName := ⟨RX10, "haunt", "(I)V"⟩
abbrev cX10_ghost : ByteArray := prog_12_method_59_code
def yX10_ghost : MethodName := ⟨RX10, "ghost", "(III)I"⟩
abbrev cX10_placesOf : ByteArray := prog_12_method_60_code
def yX10_placesOf : MethodName := ⟨RX10, "placesOf", "(III)I"⟩
abbrev cX10_haunts : ByteArray := prog_12_method_61_code
def yX10_haunts : MethodName := ⟨RX10, "haunts", "(III)I"⟩
def wsX10_switches : List Cond := .code yX10_switches cX10_switches 5 (some .int) :: ([.fieldLink RX10 79 "ShadowBenchModel" "thrown" "I", .methodLink RX10 126 yX10_isPicture, .static yX10_isPicture, .initialized RX10, .code yX10_isPicture cX10_isPicture 4 (some .boolean), .methodLink RX10 89 yX10_isBoard, .static yX10_isBoard, .code yX10_isBoard cX10_isBoard 2 (some .boolean), .constantLong RX10 83 (6), .methodLink RX10 85 yX10_isIn, .static yX10_isIn, .code yX10_isIn cX10_isIn 6 (some .boolean), .methodLink RX10 204 yX10_goSwitches, .instanceMethod yX10_goSwitches, .selects RX10 yX10_goSwitches yX10_goSwitches, .code yX10_goSwitches cX10_goSwitches 15 (some .int), .fieldLink RX10 201 "ShadowBenchModel" "behind" "J", .methodLink RX10 104 yX10_one, .static yX10_one, .code yX10_one cX10_one 3 (some .int)] ++ wsX100)
def wsX10_switched : List Cond := .code yX10_switched cX10_switched 6 (some .long) :: ([.fieldLink RX10 79 "ShadowBenchModel" "thrown" "I", .constantLong RX10 185 (-1), .fieldLink RX10 201 "ShadowBenchModel" "behind" "J", .constantLong RX10 189 (-2), .methodLink RX10 126 yX10_isPicture, .static yX10_isPicture, .initialized RX10, .code yX10_isPicture cX10_isPicture 4 (some .boolean), .methodLink RX10 89 yX10_isBoard, .static yX10_isBoard, .code yX10_isBoard cX10_isBoard 2 (some .boolean), .constantLong RX10 83 (6), .methodLink RX10 85 yX10_isIn, .static yX10_isIn, .code yX10_isIn cX10_isIn 6 (some .boolean), .methodLink RX10 204 yX10_goSwitches, .instanceMethod yX10_goSwitches, .selects RX10 yX10_goSwitches yX10_goSwitches, .code yX10_goSwitches cX10_goSwitches 15 (some .int), .methodLink RX10 104 yX10_one, .static yX10_one, .code yX10_one cX10_one 3 (some .int)] ++ wsX100)
def wsX10_joined : List Cond := .code yX10_joined cX10_joined 5 (some .int) :: ([.fieldLink RX10 79 "ShadowBenchModel" "thrown" "I", .methodLink RX10 126 yX10_isPicture, .static yX10_isPicture, .initialized RX10, .code yX10_isPicture cX10_isPicture 4 (some .boolean), .methodLink RX10 89 yX10_isBoard, .static yX10_isBoard, .code yX10_isBoard cX10_isBoard 2 (some .boolean), .constantLong RX10 83 (6), .methodLink RX10 85 yX10_isIn, .static yX10_isIn, .code yX10_isIn cX10_isIn 6 (some .boolean), .methodLink RX10 143 yX10_isJoined, .instanceMethod yX10_isJoined, .selects RX10 yX10_isJoined yX10_isJoined, .code yX10_isJoined cX10_isJoined 9 (some .boolean), .fieldLink RX10 32 "ShadowBenchModel" "met" "[Z", .methodLink RX10 104 yX10_one, .static yX10_one, .code yX10_one cX10_one 3 (some .int)] ++ wsX100)
def wsX10_even : List Cond := .code yX10_even cX10_even 6 (some .int) :: ([.fieldLink RX10 79 "ShadowBenchModel" "thrown" "I", .methodLink RX10 126 yX10_isPicture, .static yX10_isPicture, .initialized RX10, .code yX10_isPicture cX10_isPicture 4 (some .boolean), .methodLink RX10 89 yX10_isBoard, .static yX10_isBoard, .code yX10_isBoard cX10_isBoard 2 (some .boolean), .constantLong RX10 83 (6), .methodLink RX10 85 yX10_isIn, .static yX10_isIn, .code yX10_isIn cX10_isIn 6 (some .boolean), .methodLink RX10 146 yX10_isEven, .static yX10_isEven, .code yX10_isEven cX10_isEven 13 (some .boolean), .methodLink RX10 104 yX10_one, .static yX10_one, .code yX10_one cX10_one 3 (some .int)] ++ wsX100)
def wsX10_turned : List Cond := .code yX10_turned cX10_turned 12 (some .long) :: ([.fieldLink RX10 79 "ShadowBenchModel" "thrown" "I", .constantLong RX10 116 (3), .constantLong RX10 185 (-1), .methodLink RX10 126 yX10_isPicture, .static yX10_isPicture, .initialized RX10, .code yX10_isPicture cX10_isPicture 4 (some .boolean), .methodLink RX10 89 yX10_isBoard, .static yX10_isBoard, .code yX10_isBoard cX10_isBoard 2 (some .boolean), .constantLong RX10 83 (6), .methodLink RX10 85 yX10_isIn, .static yX10_isIn, .code yX10_isIn cX10_isIn 6 (some .boolean), .methodLink RX10 104 yX10_one, .static yX10_one, .code yX10_one cX10_one 3 (some .int)] ++ wsX100)
def wsX10_parts_r1 : List Cond := [Cond.fieldLink RX10 79 "ShadowBenchModel" "thrown" "I", Cond.constantLong RX10 228 (15), Cond.methodLink RX10 126 yX10_isPicture, Cond.static yX10_isPicture, Cond.initialized RX10, Cond.code yX10_isPicture cX10_isPicture 4 (some .boolean), Cond.methodLink RX10 89 yX10_isBoard, Cond.static yX10_isBoard, Cond.code yX10_isBoard cX10_isBoard 2 (some .boolean), Cond.constantLong RX10 83 (6), Cond.methodLink RX10 85 yX10_isIn, Cond.static yX10_isIn, Cond.code yX10_isIn cX10_isIn 6 (some .boolean), Cond.methodLink RX10 210 yX10_areAlike, Cond.static yX10_areAlike, Cond.code yX10_areAlike cX10_areAlike 9 (some .boolean), Cond.methodLink RX10 108 yX10_linesOf, Cond.static yX10_linesOf, Cond.code yX10_linesOf cX10_linesOf 3 (some .int), Cond.methodLink RX10 112 yX10_shadowOf, Cond.static yX10_shadowOf, Cond.code yX10_shadowOf cX10_shadowOf 8 (some .int), Cond.methodLink RX10 100 yX10_lineOf, Cond.static yX10_lineOf]
def wsX10_parts_r2 : List Cond := [Cond.code yX10_lineOf cX10_lineOf 4 (some .int), Cond.methodLink RX10 104 yX10_one, Cond.static yX10_one, Cond.code yX10_one cX10_one 3 (some .int)]
def wsX10_parts : List Cond := .code yX10_parts cX10_parts 9 (some .int) :: ((wsX10_parts_r1 ++ wsX10_parts_r2) ++ wsX100)
def wsX10_list : List Cond := .code yX10_list cX10_list 7 (some .int) :: ([.fieldLink RX10 79 "ShadowBenchModel" "thrown" "I", .fieldLink RX10 230 "ShadowBenchModel" "listed" "I", .fieldLink RX10 233 "ShadowBenchModel" "listWide" "I", .fieldLink RX10 236 "ShadowBenchModel" "listHigh" "I", .fieldLink RX10 52 "ShadowBenchModel" "list" "[J", .methodLink RX10 126 yX10_isPicture, .static yX10_isPicture, .initialized RX10, .code yX10_isPicture cX10_isPicture 4 (some .boolean), .methodLink RX10 89 yX10_isBoard, .static yX10_isBoard, .code yX10_isBoard cX10_isBoard 2 (some .boolean), .constantLong RX10 83 (6), .methodLink RX10 85 yX10_isIn, .static yX10_isIn, .code yX10_isIn cX10_isIn 6 (some .boolean)] ++ wsX100)
def wsX10_clear : List Cond := .code yX10_clear cX10_clear 2 (some .int) :: ([.fieldLink RX10 79 "ShadowBenchModel" "thrown" "I", .fieldLink RX10 230 "ShadowBenchModel" "listed" "I"] ++ wsX100)
def wsX10_tells : List Cond := .code yX10_tells cX10_tells 7 (some .boolean) :: ([.fieldLink RX10 230 "ShadowBenchModel" "listed" "I", .fieldLink RX10 233 "ShadowBenchModel" "listWide" "I", .fieldLink RX10 236 "ShadowBenchModel" "listHigh" "I", .fieldLink RX10 52 "ShadowBenchModel" "list" "[J", .methodLink RX10 210 yX10_areAlike, .static yX10_areAlike, .initialized RX10, .code yX10_areAlike cX10_areAlike 9 (some .boolean), .methodLink RX10 108 yX10_linesOf, .static yX10_linesOf, .code yX10_linesOf cX10_linesOf 3 (some .int), .methodLink RX10 112 yX10_shadowOf, .static yX10_shadowOf, .code yX10_shadowOf cX10_shadowOf 8 (some .int), .methodLink RX10 100 yX10_lineOf, .static yX10_lineOf, .code yX10_lineOf cX10_lineOf 4 (some .int), .methodLink RX10 104 yX10_one, .static yX10_one, .code yX10_one cX10_one 3 (some .int)] ++ wsX100)
def wsX10_ways_r1 : List Cond := [Cond.fieldLink RX10 79 "ShadowBenchModel" "thrown" "I", Cond.methodLink RX10 130 yX10_countOnes, Cond.static yX10_countOnes, Cond.initialized RX10, Cond.code yX10_countOnes cX10_countOnes 4 (some .int), Cond.methodLink RX10 104 yX10_one, Cond.static yX10_one, Cond.code yX10_one cX10_one 3 (some .int), Cond.methodLink RX10 239 yX10_tells, Cond.instanceMethod yX10_tells, Cond.selects RX10 yX10_tells yX10_tells, Cond.code yX10_tells cX10_tells 7 (some .boolean), Cond.fieldLink RX10 230 "ShadowBenchModel" "listed" "I", Cond.fieldLink RX10 233 "ShadowBenchModel" "listWide" "I", Cond.fieldLink RX10 236 "ShadowBenchModel" "listHigh" "I", Cond.fieldLink RX10 52 "ShadowBenchModel" "list" "[J", Cond.methodLink RX10 210 yX10_areAlike, Cond.static yX10_areAlike, Cond.code yX10_areAlike cX10_areAlike 9 (some .boolean), Cond.methodLink RX10 108 yX10_linesOf, Cond.static yX10_linesOf, Cond.code yX10_linesOf cX10_linesOf 3 (some .int), Cond.methodLink RX10 112 yX10_shadowOf, Cond.static yX10_shadowOf]
def wsX10_ways_r2 : List Cond := [Cond.code yX10_shadowOf cX10_shadowOf 8 (some .int), Cond.methodLink RX10 100 yX10_lineOf, Cond.static yX10_lineOf, Cond.code yX10_lineOf cX10_lineOf 4 (some .int)]
def wsX10_ways : List Cond := .code yX10_ways cX10_ways 3 (some .int) :: ((wsX10_ways_r1 ++ wsX10_ways_r2) ++ wsX100)
def wsX10_haunt : List Cond := .code yX10_haunt cX10_haunt 7 none :: ([.fieldLink RX10 55 "ShadowBenchModel" "ghost" "[I", .constantLong RX10 248 (10), .fieldLink RX10 58 "ShadowBenchModel" "moved" "[I", .methodLink RX10 242 yX10_across, .static yX10_across, .initialized RX10, .code yX10_across cX10_across 1 (some .int), .methodLink RX10 245 yX10_down, .static yX10_down, .code yX10_down cX10_down 1 (some .int), .methodLink RX10 85 yX10_isIn, .static yX10_isIn, .code yX10_isIn cX10_isIn 6 (some .boolean)] ++ wsX100)
def wsX10_ghost : List Cond := .code yX10_ghost cX10_ghost 4 (some .int) :: ([.constantLong RX10 228 (15), .constantLong RX10 250 (8), .fieldLink RX10 79 "ShadowBenchModel" "thrown" "I", .fieldLink RX10 55 "ShadowBenchModel" "ghost" "[I", .methodLink RX10 85 yX10_isIn, .static yX10_isIn, .initialized RX10, .code yX10_isIn cX10_isIn 6 (some .boolean), .methodLink RX10 252 yX10_haunt, .instanceMethod yX10_haunt, .selects RX10 yX10_haunt yX10_haunt, .code yX10_haunt cX10_haunt 7 none, .constantLong RX10 248 (10), .fieldLink RX10 58 "ShadowBenchModel" "moved" "[I", .methodLink RX10 242 yX10_across, .static yX10_across, .code yX10_across cX10_across 1 (some .int), .methodLink RX10 245 yX10_down, .static yX10_down, .code yX10_down cX10_down 1 (some .int)] ++ wsX100)
def wsX10_placesOf : List Cond := .code yX10_placesOf cX10_placesOf 8 (some .int) :: ([.methodLink RX10 242 yX10_across, .static yX10_across, .initialized RX10, .code yX10_across cX10_across 1 (some .int)])
def wsX10_haunts : List Cond := .code yX10_haunts cX10_haunts 4 (some .int) :: ([.fieldLink RX10 79 "ShadowBenchModel" "thrown" "I", .constantLong RX10 228 (15), .methodLink RX10 85 yX10_isIn, .static yX10_isIn, .initialized RX10, .code yX10_isIn cX10_isIn 6 (some .boolean), .methodLink RX10 89 yX10_isBoard, .static yX10_isBoard, .code yX10_isBoard cX10_isBoard 2 (some .boolean), .constantLong RX10 83 (6), .methodLink RX10 256 yX10_placesOf, .instanceMethod yX10_placesOf, .selects RX10 yX10_placesOf yX10_placesOf, .code yX10_placesOf cX10_placesOf 8 (some .int), .methodLink RX10 242 yX10_across, .static yX10_across, .code yX10_across cX10_across 1 (some .int)] ++ wsX100)
def chX10_switches : List (List Cond) := [[.fieldLink RX10 79 "ShadowBenchModel" "thrown" "I", .methodLink RX10 126 yX10_isPicture, .static yX10_isPicture, .initialized RX10, .code yX10_isPicture cX10_isPicture 4 (some .boolean), .methodLink RX10 89 yX10_isBoard, .static yX10_isBoard, .code yX10_isBoard cX10_isBoard 2 (some .boolean), .constantLong RX10 83 (6), .methodLink RX10 85 yX10_isIn, .static yX10_isIn, .code yX10_isIn cX10_isIn 6 (some .boolean), .methodLink RX10 204 yX10_goSwitches, .instanceMethod yX10_goSwitches, .selects RX10 yX10_goSwitches yX10_goSwitches, .code yX10_goSwitches cX10_goSwitches 15 (some .int), .fieldLink RX10 201 "ShadowBenchModel" "behind" "J", .methodLink RX10 104 yX10_one, .static yX10_one, .code yX10_one cX10_one 3 (some .int)], wsX100]
set_option maxRecDepth 20000 in
theorem chX10_switches_in : ∀ c ∈ chX10_switches, ∀ w ∈ c, w ∈ wsX10_switches := (all_c (P := fun c => ∀ w ∈ c, w ∈ wsX10_switches) (fun w h => List.mem_cons_of_mem _ (List.mem_append_left _ (h))) (all_c (P := fun c => ∀ w ∈ c, w ∈ wsX10_switches) (fun w h => List.mem_cons_of_mem _ (List.mem_append_right _ (h))) (fun _ h => nomatch h)))
set_option maxRecDepth 20000 in
theorem ggX10_switches_X10_isPicture : GoodIn wsX10_switches wsX10_isPicture := goodIn_c chX10_switches chX10_switches_in _ [(0, 4), (0, 5), (0, 6), (0, 3), (0, 7), (0, 8), (0, 9), (0, 10), (0, 11)] (by rfl) (by decide +kernel)
set_option maxRecDepth 20000 in
theorem gX10_switches_X10_isPicture : GoodIn wsX10_switches (va_wsS RX10 126 yX10_isPicture wsX10_isPicture) := goodIn_app (goodIn_c chX10_switches chX10_switches_in _ [(0, 1), (0, 2), (0, 3)] (by rfl) (by decide +kernel)) ggX10_switches_X10_isPicture
set_option maxRecDepth 20000 in
theorem ggX10_switches_X10_goSwitches : GoodIn wsX10_switches wsX10_goSwitches := goodIn_ca (goodIn_c chX10_switches chX10_switches_in _ [(0, 15), (0, 16), (0, 17), (0, 18), (0, 3), (0, 19)] (by rfl) (by decide +kernel)) (goodIn_sub (fun _ h => List.mem_cons_of_mem _ (List.mem_append_right _ (h))) (by decide +kernel))
set_option maxRecDepth 20000 in
theorem gX10_switches_X10_goSwitches : GoodIn wsX10_switches (wsV RX10 204 RX10 yX10_goSwitches wsX10_goSwitches) := goodIn_app (goodIn_c chX10_switches chX10_switches_in _ [(0, 12), (0, 13), (0, 14), (0, 3)] (by rfl) (by decide +kernel)) ggX10_switches_X10_goSwitches
theorem dX10_switches_0 : decode cX10_switches 0 = .ok (.aload_n 0, 1) := by decide +kernel
theorem dX10_switches_1 : decode cX10_switches 1 = .ok (.iconst 0, 1) := by decide +kernel
theorem dX10_switches_2 : decode cX10_switches 2 = .ok (.putfield 79, 3) := by decide +kernel
theorem dX10_switches_5 : decode cX10_switches 5 = .ok (.iload_n 1, 1) := by decide +kernel
theorem dX10_switches_6 : decode cX10_switches 6 = .ok (.iload_n 2, 1) := by decide +kernel
theorem dX10_switches_7 : decode cX10_switches 7 = .ok (.lload_n 3, 1) := by decide +kernel
theorem dX10_switches_8 : decode cX10_switches 8 = .ok (.invokestatic 126, 3) := by decide +kernel
theorem dX10_switches_11 : decode cX10_switches 11 = .ok (.ifCond .eq 14, 3) := by decide +kernel
theorem dX10_switches_14 : decode cX10_switches 14 = .ok (.aload_n 0, 1) := by decide +kernel
theorem dX10_switches_15 : decode cX10_switches 15 = .ok (.iload_n 1, 1) := by decide +kernel
theorem dX10_switches_16 : decode cX10_switches 16 = .ok (.iload_n 2, 1) := by decide +kernel
theorem dX10_switches_17 : decode cX10_switches 17 = .ok (.lload_n 3, 1) := by decide +kernel
theorem dX10_switches_18 : decode cX10_switches 18 = .ok (.iconst (-1), 1) := by decide +kernel
theorem dX10_switches_19 : decode cX10_switches 19 = .ok (.invokevirtual 204, 3) := by decide +kernel
theorem dX10_switches_22 : decode cX10_switches 22 = .ok (.goto 4, 3) := by decide +kernel
theorem dX10_switches_25 : decode cX10_switches 25 = .ok (.iconst (-1), 1) := by decide +kernel
theorem dX10_switches_26 : decode cX10_switches 26 = .ok (.ireturn, 1) := by decide +kernel
def chX10_switched : List (List Cond) := [[.fieldLink RX10 79 "ShadowBenchModel" "thrown" "I", .constantLong RX10 185 (-1), .fieldLink RX10 201 "ShadowBenchModel" "behind" "J", .constantLong RX10 189 (-2), .methodLink RX10 126 yX10_isPicture, .static yX10_isPicture, .initialized RX10, .code yX10_isPicture cX10_isPicture 4 (some .boolean), .methodLink RX10 89 yX10_isBoard, .static yX10_isBoard, .code yX10_isBoard cX10_isBoard 2 (some .boolean), .constantLong RX10 83 (6), .methodLink RX10 85 yX10_isIn, .static yX10_isIn, .code yX10_isIn cX10_isIn 6 (some .boolean), .methodLink RX10 204 yX10_goSwitches, .instanceMethod yX10_goSwitches, .selects RX10 yX10_goSwitches yX10_goSwitches, .code yX10_goSwitches cX10_goSwitches 15 (some .int), .methodLink RX10 104 yX10_one, .static yX10_one, .code yX10_one cX10_one 3 (some .int)], wsX100]
set_option maxRecDepth 20000 in
theorem chX10_switched_in : ∀ c ∈ chX10_switched, ∀ w ∈ c, w ∈ wsX10_switched := (all_c (P := fun c => ∀ w ∈ c, w ∈ wsX10_switched) (fun w h => List.mem_cons_of_mem _ (List.mem_append_left _ (h))) (all_c (P := fun c => ∀ w ∈ c, w ∈ wsX10_switched) (fun w h => List.mem_cons_of_mem _ (List.mem_append_right _ (h))) (fun _ h => nomatch h)))
set_option maxRecDepth 20000 in
theorem ggX10_switched_X10_isPicture : GoodIn wsX10_switched wsX10_isPicture := goodIn_c chX10_switched chX10_switched_in _ [(0, 7), (0, 8), (0, 9), (0, 6), (0, 10), (0, 11), (0, 12), (0, 13), (0, 14)] (by rfl) (by decide +kernel)
set_option maxRecDepth 20000 in
theorem gX10_switched_X10_isPicture : GoodIn wsX10_switched (va_wsS RX10 126 yX10_isPicture wsX10_isPicture) := goodIn_app (goodIn_c chX10_switched chX10_switched_in _ [(0, 4), (0, 5), (0, 6)] (by rfl) (by decide +kernel)) ggX10_switched_X10_isPicture
set_option maxRecDepth 20000 in
theorem ggX10_switched_X10_goSwitches : GoodIn wsX10_switched wsX10_goSwitches := goodIn_ca (goodIn_c chX10_switched chX10_switched_in _ [(0, 18), (0, 2), (0, 19), (0, 20), (0, 6), (0, 21)] (by rfl) (by decide +kernel)) (goodIn_sub (fun _ h => List.mem_cons_of_mem _ (List.mem_append_right _ (h))) (by decide +kernel))
set_option maxRecDepth 20000 in
theorem gX10_switched_X10_goSwitches : GoodIn wsX10_switched (wsV RX10 204 RX10 yX10_goSwitches wsX10_goSwitches) := goodIn_app (goodIn_c chX10_switched chX10_switched_in _ [(0, 15), (0, 16), (0, 17), (0, 6)] (by rfl) (by decide +kernel)) ggX10_switched_X10_goSwitches
theorem dX10_switched_0 : decode cX10_switched 0 = .ok (.aload_n 0, 1) := by decide +kernel
theorem dX10_switched_1 : decode cX10_switched 1 = .ok (.iconst 0, 1) := by decide +kernel
theorem dX10_switched_2 : decode cX10_switched 2 = .ok (.putfield 79, 3) := by decide +kernel
theorem dX10_switched_5 : decode cX10_switched 5 = .ok (.iload_n 1, 1) := by decide +kernel
theorem dX10_switched_6 : decode cX10_switched 6 = .ok (.iload_n 2, 1) := by decide +kernel
theorem dX10_switched_7 : decode cX10_switched 7 = .ok (.lload_n 3, 1) := by decide +kernel
theorem dX10_switched_8 : decode cX10_switched 8 = .ok (.invokestatic 126, 3) := by decide +kernel
theorem dX10_switched_11 : decode cX10_switched 11 = .ok (.ifCond .eq 8, 3) := by decide +kernel
theorem dX10_switched_14 : decode cX10_switched 14 = .ok (.iload 5, 2) := by decide +kernel
theorem dX10_switched_16 : decode cX10_switched 16 = .ok (.ifCond .ge 7, 3) := by decide +kernel
theorem dX10_switched_19 : decode cX10_switched 19 = .ok (.ldc2_w 185, 3) := by decide +kernel
theorem dX10_switched_22 : decode cX10_switched 22 = .ok (.lreturn, 1) := by decide +kernel
theorem dX10_switched_23 : decode cX10_switched 23 = .ok (.iload 5, 2) := by decide +kernel
theorem dX10_switched_25 : decode cX10_switched 25 = .ok (.aload_n 0, 1) := by decide +kernel
theorem dX10_switched_26 : decode cX10_switched 26 = .ok (.iload_n 1, 1) := by decide +kernel
theorem dX10_switched_27 : decode cX10_switched 27 = .ok (.iload_n 2, 1) := by decide +kernel
theorem dX10_switched_28 : decode cX10_switched 28 = .ok (.lload_n 3, 1) := by decide +kernel
theorem dX10_switched_29 : decode cX10_switched 29 = .ok (.iload 5, 2) := by decide +kernel
theorem dX10_switched_31 : decode cX10_switched 31 = .ok (.invokevirtual 204, 3) := by decide +kernel
theorem dX10_switched_34 : decode cX10_switched 34 = .ok (.if_icmp .ge 10, 3) := by decide +kernel
theorem dX10_switched_37 : decode cX10_switched 37 = .ok (.aload_n 0, 1) := by decide +kernel
theorem dX10_switched_38 : decode cX10_switched 38 = .ok (.getfield 201, 3) := by decide +kernel
theorem dX10_switched_41 : decode cX10_switched 41 = .ok (.goto 6, 3) := by decide +kernel
theorem dX10_switched_44 : decode cX10_switched 44 = .ok (.ldc2_w 189, 3) := by decide +kernel
theorem dX10_switched_47 : decode cX10_switched 47 = .ok (.lreturn, 1) := by decide +kernel
def chX10_joined : List (List Cond) := [[.fieldLink RX10 79 "ShadowBenchModel" "thrown" "I", .methodLink RX10 126 yX10_isPicture, .static yX10_isPicture, .initialized RX10, .code yX10_isPicture cX10_isPicture 4 (some .boolean), .methodLink RX10 89 yX10_isBoard, .static yX10_isBoard, .code yX10_isBoard cX10_isBoard 2 (some .boolean), .constantLong RX10 83 (6), .methodLink RX10 85 yX10_isIn, .static yX10_isIn, .code yX10_isIn cX10_isIn 6 (some .boolean), .methodLink RX10 143 yX10_isJoined, .instanceMethod yX10_isJoined, .selects RX10 yX10_isJoined yX10_isJoined, .code yX10_isJoined cX10_isJoined 9 (some .boolean), .fieldLink RX10 32 "ShadowBenchModel" "met" "[Z", .methodLink RX10 104 yX10_one, .static yX10_one, .code yX10_one cX10_one 3 (some .int)], wsX100]
set_option maxRecDepth 20000 in
theorem chX10_joined_in : ∀ c ∈ chX10_joined, ∀ w ∈ c, w ∈ wsX10_joined := (all_c (P := fun c => ∀ w ∈ c, w ∈ wsX10_joined) (fun w h => List.mem_cons_of_mem _ (List.mem_append_left _ (h))) (all_c (P := fun c => ∀ w ∈ c, w ∈ wsX10_joined) (fun w h => List.mem_cons_of_mem _ (List.mem_append_right _ (h))) (fun _ h => nomatch h)))
set_option maxRecDepth 20000 in
theorem ggX10_joined_X10_isPicture : GoodIn wsX10_joined wsX10_isPicture := goodIn_c chX10_joined chX10_joined_in _ [(0, 4), (0, 5), (0, 6), (0, 3), (0, 7), (0, 8), (0, 9), (0, 10), (0, 11)] (by rfl) (by decide +kernel)
set_option maxRecDepth 20000 in
theorem gX10_joined_X10_isPicture : GoodIn wsX10_joined (va_wsS RX10 126 yX10_isPicture wsX10_isPicture) := goodIn_app (goodIn_c chX10_joined chX10_joined_in _ [(0, 1), (0, 2), (0, 3)] (by rfl) (by decide +kernel)) ggX10_joined_X10_isPicture
set_option maxRecDepth 20000 in
theorem ggX10_joined_X10_isJoined : GoodIn wsX10_joined wsX10_isJoined := goodIn_ca (goodIn_c chX10_joined chX10_joined_in _ [(0, 15), (0, 16), (0, 17), (0, 18), (0, 3), (0, 19)] (by rfl) (by decide +kernel)) (goodIn_sub (fun _ h => List.mem_cons_of_mem _ (List.mem_append_right _ (h))) (by decide +kernel))
set_option maxRecDepth 20000 in
theorem gX10_joined_X10_isJoined : GoodIn wsX10_joined (wsV RX10 143 RX10 yX10_isJoined wsX10_isJoined) := goodIn_app (goodIn_c chX10_joined chX10_joined_in _ [(0, 12), (0, 13), (0, 14), (0, 3)] (by rfl) (by decide +kernel)) ggX10_joined_X10_isJoined
theorem dX10_joined_0 : decode cX10_joined 0 = .ok (.aload_n 0, 1) := by decide +kernel
theorem dX10_joined_1 : decode cX10_joined 1 = .ok (.iconst 0, 1) := by decide +kernel
theorem dX10_joined_2 : decode cX10_joined 2 = .ok (.putfield 79, 3) := by decide +kernel
theorem dX10_joined_5 : decode cX10_joined 5 = .ok (.iload_n 1, 1) := by decide +kernel
theorem dX10_joined_6 : decode cX10_joined 6 = .ok (.iload_n 2, 1) := by decide +kernel
theorem dX10_joined_7 : decode cX10_joined 7 = .ok (.lload_n 3, 1) := by decide +kernel
theorem dX10_joined_8 : decode cX10_joined 8 = .ok (.invokestatic 126, 3) := by decide +kernel
theorem dX10_joined_11 : decode cX10_joined 11 = .ok (.ifCond .ne 7, 3) := by decide +kernel
theorem dX10_joined_14 : decode cX10_joined 14 = .ok (.iconst (-1), 1) := by decide +kernel
theorem dX10_joined_15 : decode cX10_joined 15 = .ok (.goto 18, 3) := by decide +kernel
theorem dX10_joined_18 : decode cX10_joined 18 = .ok (.aload_n 0, 1) := by decide +kernel
theorem dX10_joined_19 : decode cX10_joined 19 = .ok (.iload_n 1, 1) := by decide +kernel
theorem dX10_joined_20 : decode cX10_joined 20 = .ok (.iload_n 2, 1) := by decide +kernel
theorem dX10_joined_21 : decode cX10_joined 21 = .ok (.lload_n 3, 1) := by decide +kernel
theorem dX10_joined_22 : decode cX10_joined 22 = .ok (.invokevirtual 143, 3) := by decide +kernel
theorem dX10_joined_25 : decode cX10_joined 25 = .ok (.ifCond .eq 7, 3) := by decide +kernel
theorem dX10_joined_28 : decode cX10_joined 28 = .ok (.iconst 1, 1) := by decide +kernel
theorem dX10_joined_29 : decode cX10_joined 29 = .ok (.goto 4, 3) := by decide +kernel
theorem dX10_joined_32 : decode cX10_joined 32 = .ok (.iconst 0, 1) := by decide +kernel
theorem dX10_joined_33 : decode cX10_joined 33 = .ok (.ireturn, 1) := by decide +kernel
def chX10_even : List (List Cond) := [[.fieldLink RX10 79 "ShadowBenchModel" "thrown" "I", .methodLink RX10 126 yX10_isPicture, .static yX10_isPicture, .initialized RX10, .code yX10_isPicture cX10_isPicture 4 (some .boolean), .methodLink RX10 89 yX10_isBoard, .static yX10_isBoard, .code yX10_isBoard cX10_isBoard 2 (some .boolean), .constantLong RX10 83 (6), .methodLink RX10 85 yX10_isIn, .static yX10_isIn, .code yX10_isIn cX10_isIn 6 (some .boolean), .methodLink RX10 146 yX10_isEven, .static yX10_isEven, .code yX10_isEven cX10_isEven 13 (some .boolean), .methodLink RX10 104 yX10_one, .static yX10_one, .code yX10_one cX10_one 3 (some .int)], wsX100]
set_option maxRecDepth 20000 in
theorem chX10_even_in : ∀ c ∈ chX10_even, ∀ w ∈ c, w ∈ wsX10_even := (all_c (P := fun c => ∀ w ∈ c, w ∈ wsX10_even) (fun w h => List.mem_cons_of_mem _ (List.mem_append_left _ (h))) (all_c (P := fun c => ∀ w ∈ c, w ∈ wsX10_even) (fun w h => List.mem_cons_of_mem _ (List.mem_append_right _ (h))) (fun _ h => nomatch h)))
set_option maxRecDepth 20000 in
theorem ggX10_even_X10_isPicture : GoodIn wsX10_even wsX10_isPicture := goodIn_c chX10_even chX10_even_in _ [(0, 4), (0, 5), (0, 6), (0, 3), (0, 7), (0, 8), (0, 9), (0, 10), (0, 11)] (by rfl) (by decide +kernel)
set_option maxRecDepth 20000 in
theorem gX10_even_X10_isPicture : GoodIn wsX10_even (va_wsS RX10 126 yX10_isPicture wsX10_isPicture) := goodIn_app (goodIn_c chX10_even chX10_even_in _ [(0, 1), (0, 2), (0, 3)] (by rfl) (by decide +kernel)) ggX10_even_X10_isPicture
set_option maxRecDepth 20000 in
theorem ggX10_even_X10_isEven : GoodIn wsX10_even wsX10_isEven := goodIn_r _ [15, 16, 17, 4, 18] (by decide +kernel) (by decide +kernel)
set_option maxRecDepth 20000 in
theorem gX10_even_X10_isEven : GoodIn wsX10_even (va_wsS RX10 146 yX10_isEven wsX10_isEven) := goodIn_app (goodIn_c chX10_even chX10_even_in _ [(0, 12), (0, 13), (0, 3)] (by rfl) (by decide +kernel)) ggX10_even_X10_isEven
theorem dX10_even_0 : decode cX10_even 0 = .ok (.aload_n 0, 1) := by decide +kernel
theorem dX10_even_1 : decode cX10_even 1 = .ok (.iconst 0, 1) := by decide +kernel
theorem dX10_even_2 : decode cX10_even 2 = .ok (.putfield 79, 3) := by decide +kernel
theorem dX10_even_5 : decode cX10_even 5 = .ok (.iload_n 1, 1) := by decide +kernel
theorem dX10_even_6 : decode cX10_even 6 = .ok (.iload_n 2, 1) := by decide +kernel
theorem dX10_even_7 : decode cX10_even 7 = .ok (.lload_n 3, 1) := by decide +kernel
theorem dX10_even_8 : decode cX10_even 8 = .ok (.invokestatic 126, 3) := by decide +kernel
theorem dX10_even_11 : decode cX10_even 11 = .ok (.ifCond .ne 7, 3) := by decide +kernel
theorem dX10_even_14 : decode cX10_even 14 = .ok (.iconst (-1), 1) := by decide +kernel
theorem dX10_even_15 : decode cX10_even 15 = .ok (.goto 19, 3) := by decide +kernel
theorem dX10_even_18 : decode cX10_even 18 = .ok (.iload_n 1, 1) := by decide +kernel
theorem dX10_even_19 : decode cX10_even 19 = .ok (.iload_n 2, 1) := by decide +kernel
theorem dX10_even_20 : decode cX10_even 20 = .ok (.lload_n 3, 1) := by decide +kernel
theorem dX10_even_21 : decode cX10_even 21 = .ok (.iload 5, 2) := by decide +kernel
theorem dX10_even_23 : decode cX10_even 23 = .ok (.invokestatic 146, 3) := by decide +kernel
theorem dX10_even_26 : decode cX10_even 26 = .ok (.ifCond .eq 7, 3) := by decide +kernel
theorem dX10_even_29 : decode cX10_even 29 = .ok (.iconst 1, 1) := by decide +kernel
theorem dX10_even_30 : decode cX10_even 30 = .ok (.goto 4, 3) := by decide +kernel
theorem dX10_even_33 : decode cX10_even 33 = .ok (.iconst 0, 1) := by decide +kernel
theorem dX10_even_34 : decode cX10_even 34 = .ok (.ireturn, 1) := by decide +kernel
def chX10_turned : List (List Cond) := [[.fieldLink RX10 79 "ShadowBenchModel" "thrown" "I", .constantLong RX10 116 (3), .constantLong RX10 185 (-1), .methodLink RX10 126 yX10_isPicture, .static yX10_isPicture, .initialized RX10, .code yX10_isPicture cX10_isPicture 4 (some .boolean), .methodLink RX10 89 yX10_isBoard, .static yX10_isBoard, .code yX10_isBoard cX10_isBoard 2 (some .boolean), .constantLong RX10 83 (6), .methodLink RX10 85 yX10_isIn, .static yX10_isIn, .code yX10_isIn cX10_isIn 6 (some .boolean), .methodLink RX10 104 yX10_one, .static yX10_one, .code yX10_one cX10_one 3 (some .int)], wsX100]
set_option maxRecDepth 20000 in
theorem chX10_turned_in : ∀ c ∈ chX10_turned, ∀ w ∈ c, w ∈ wsX10_turned := (all_c (P := fun c => ∀ w ∈ c, w ∈ wsX10_turned) (fun w h => List.mem_cons_of_mem _ (List.mem_append_left _ (h))) (all_c (P := fun c => ∀ w ∈ c, w ∈ wsX10_turned) (fun w h => List.mem_cons_of_mem _ (List.mem_append_right _ (h))) (fun _ h => nomatch h)))
set_option maxRecDepth 20000 in
theorem ggX10_turned_X10_isPicture : GoodIn wsX10_turned wsX10_isPicture := goodIn_c chX10_turned chX10_turned_in _ [(0, 6), (0, 7), (0, 8), (0, 5), (0, 9), (0, 10), (0, 11), (0, 12), (0, 13)] (by rfl) (by decide +kernel)
set_option maxRecDepth 20000 in
theorem gX10_turned_X10_isPicture : GoodIn wsX10_turned (va_wsS RX10 126 yX10_isPicture wsX10_isPicture) := goodIn_app (goodIn_c chX10_turned chX10_turned_in _ [(0, 3), (0, 4), (0, 5)] (by rfl) (by decide +kernel)) ggX10_turned_X10_isPicture
set_option maxRecDepth 20000 in
theorem ggX10_turned_X10_isIn : GoodIn wsX10_turned wsX10_isIn := goodIn_r _ [14] (by decide +kernel) (by decide +kernel)
set_option maxRecDepth 20000 in
theorem gX10_turned_X10_isIn : GoodIn wsX10_turned (va_wsS RX10 85 yX10_isIn wsX10_isIn) := goodIn_app (goodIn_c chX10_turned chX10_turned_in _ [(0, 11), (0, 12), (0, 5)] (by rfl) (by decide +kernel)) ggX10_turned_X10_isIn
set_option maxRecDepth 20000 in
theorem ggX10_turned_X10_one : GoodIn wsX10_turned wsX10_one := goodIn_r _ [17] (by decide +kernel) (by decide +kernel)
set_option maxRecDepth 20000 in
theorem gX10_turned_X10_one : GoodIn wsX10_turned (va_wsS RX10 104 yX10_one wsX10_one) := goodIn_app (goodIn_c chX10_turned chX10_turned_in _ [(0, 14), (0, 15), (0, 5)] (by rfl) (by decide +kernel)) ggX10_turned_X10_one
theorem dX10_turned_0 : decode cX10_turned 0 = .ok (.aload_n 0, 1) := by decide +kernel
theorem dX10_turned_1 : decode cX10_turned 1 = .ok (.iconst 0, 1) := by decide +kernel
theorem dX10_turned_2 : decode cX10_turned 2 = .ok (.putfield 79, 3) := by decide +kernel
theorem dX10_turned_5 : decode cX10_turned 5 = .ok (.iload_n 1, 1) := by decide +kernel
theorem dX10_turned_6 : decode cX10_turned 6 = .ok (.iload_n 2, 1) := by decide +kernel
theorem dX10_turned_7 : decode cX10_turned 7 = .ok (.lload_n 3, 1) := by decide +kernel
theorem dX10_turned_8 : decode cX10_turned 8 = .ok (.invokestatic 126, 3) := by decide +kernel
theorem dX10_turned_11 : decode cX10_turned 11 = .ok (.ifCond .eq 16, 3) := by decide +kernel
theorem dX10_turned_14 : decode cX10_turned 14 = .ok (.iload 5, 2) := by decide +kernel
theorem dX10_turned_16 : decode cX10_turned 16 = .ok (.i2l, 1) := by decide +kernel
theorem dX10_turned_17 : decode cX10_turned 17 = .ok (.lconst 0, 1) := by decide +kernel
theorem dX10_turned_18 : decode cX10_turned 18 = .ok (.ldc2_w 116, 3) := by decide +kernel
theorem dX10_turned_21 : decode cX10_turned 21 = .ok (.invokestatic 85, 3) := by decide +kernel
theorem dX10_turned_24 : decode cX10_turned 24 = .ok (.ifCond .ne 7, 3) := by decide +kernel
theorem dX10_turned_27 : decode cX10_turned 27 = .ok (.ldc2_w 185, 3) := by decide +kernel
theorem dX10_turned_30 : decode cX10_turned 30 = .ok (.lreturn, 1) := by decide +kernel
theorem dX10_turned_31 : decode cX10_turned 31 = .ok (.lconst 0, 1) := by decide +kernel
theorem dX10_turned_32 : decode cX10_turned 32 = .ok (.lstore 6, 2) := by decide +kernel
theorem dX10_turned_34 : decode cX10_turned 34 = .ok (.iconst 0, 1) := by decide +kernel
theorem dX10_turned_35 : decode cX10_turned 35 = .ok (.istore 8, 2) := by decide +kernel
theorem dX10_turned_37 : decode cX10_turned 37 = .ok (.iload 8, 2) := by decide +kernel
theorem dX10_turned_39 : decode cX10_turned 39 = .ok (.iload_n 1, 1) := by decide +kernel
theorem dX10_turned_40 : decode cX10_turned 40 = .ok (.iload_n 2, 1) := by decide +kernel
theorem dX10_turned_41 : decode cX10_turned 41 = .ok (.imul, 1) := by decide +kernel
theorem dX10_turned_42 : decode cX10_turned 42 = .ok (.if_icmp .ge 112, 3) := by decide +kernel
theorem dX10_turned_45 : decode cX10_turned 45 = .ok (.iload 8, 2) := by decide +kernel
theorem dX10_turned_47 : decode cX10_turned 47 = .ok (.iload_n 1, 1) := by decide +kernel
theorem dX10_turned_48 : decode cX10_turned 48 = .ok (.irem, 1) := by decide +kernel
theorem dX10_turned_49 : decode cX10_turned 49 = .ok (.istore 9, 2) := by decide +kernel
theorem dX10_turned_51 : decode cX10_turned 51 = .ok (.iload 8, 2) := by decide +kernel
theorem dX10_turned_53 : decode cX10_turned 53 = .ok (.iload_n 1, 1) := by decide +kernel
theorem dX10_turned_54 : decode cX10_turned 54 = .ok (.idiv, 1) := by decide +kernel
theorem dX10_turned_55 : decode cX10_turned 55 = .ok (.istore 10, 2) := by decide +kernel
theorem dX10_turned_57 : decode cX10_turned 57 = .ok (.iload 5, 2) := by decide +kernel
theorem dX10_turned_59 : decode cX10_turned 59 = .ok (.ifCond .ne 17, 3) := by decide +kernel
theorem dX10_turned_62 : decode cX10_turned 62 = .ok (.iload 9, 2) := by decide +kernel
theorem dX10_turned_64 : decode cX10_turned 64 = .ok (.iload_n 2, 1) := by decide +kernel
theorem dX10_turned_65 : decode cX10_turned 65 = .ok (.imul, 1) := by decide +kernel
theorem dX10_turned_66 : decode cX10_turned 66 = .ok (.iload_n 2, 1) := by decide +kernel
theorem dX10_turned_67 : decode cX10_turned 67 = .ok (.iadd, 1) := by decide +kernel
theorem dX10_turned_68 : decode cX10_turned 68 = .ok (.iconst 1, 1) := by decide +kernel
theorem dX10_turned_69 : decode cX10_turned 69 = .ok (.isub, 1) := by decide +kernel
theorem dX10_turned_70 : decode cX10_turned 70 = .ok (.iload 10, 2) := by decide +kernel
theorem dX10_turned_72 : decode cX10_turned 72 = .ok (.isub, 1) := by decide +kernel
theorem dX10_turned_73 : decode cX10_turned 73 = .ok (.goto 41, 3) := by decide +kernel
theorem dX10_turned_76 : decode cX10_turned 76 = .ok (.iload 5, 2) := by decide +kernel
theorem dX10_turned_78 : decode cX10_turned 78 = .ok (.iconst 1, 1) := by decide +kernel
theorem dX10_turned_79 : decode cX10_turned 79 = .ok (.if_icmp .ne 17, 3) := by decide +kernel
theorem dX10_turned_82 : decode cX10_turned 82 = .ok (.iload_n 2, 1) := by decide +kernel
theorem dX10_turned_83 : decode cX10_turned 83 = .ok (.iconst 1, 1) := by decide +kernel
theorem dX10_turned_84 : decode cX10_turned 84 = .ok (.isub, 1) := by decide +kernel
theorem dX10_turned_85 : decode cX10_turned 85 = .ok (.iload 10, 2) := by decide +kernel
theorem dX10_turned_87 : decode cX10_turned 87 = .ok (.isub, 1) := by decide +kernel
theorem dX10_turned_88 : decode cX10_turned 88 = .ok (.iload_n 1, 1) := by decide +kernel
theorem dX10_turned_89 : decode cX10_turned 89 = .ok (.imul, 1) := by decide +kernel
theorem dX10_turned_90 : decode cX10_turned 90 = .ok (.iload 9, 2) := by decide +kernel
theorem dX10_turned_92 : decode cX10_turned 92 = .ok (.iadd, 1) := by decide +kernel
theorem dX10_turned_93 : decode cX10_turned 93 = .ok (.goto 21, 3) := by decide +kernel
theorem dX10_turned_96 : decode cX10_turned 96 = .ok (.iload 5, 2) := by decide +kernel
theorem dX10_turned_98 : decode cX10_turned 98 = .ok (.iconst 2, 1) := by decide +kernel
theorem dX10_turned_99 : decode cX10_turned 99 = .ok (.if_icmp .ne 13, 3) := by decide +kernel
theorem dX10_turned_102 : decode cX10_turned 102 = .ok (.iload 9, 2) := by decide +kernel
theorem dX10_turned_104 : decode cX10_turned 104 = .ok (.iload_n 2, 1) := by decide +kernel
theorem dX10_turned_105 : decode cX10_turned 105 = .ok (.imul, 1) := by decide +kernel
theorem dX10_turned_106 : decode cX10_turned 106 = .ok (.iload 10, 2) := by decide +kernel
theorem dX10_turned_108 : decode cX10_turned 108 = .ok (.iadd, 1) := by decide +kernel
theorem dX10_turned_109 : decode cX10_turned 109 = .ok (.goto 5, 3) := by decide +kernel
theorem dX10_turned_112 : decode cX10_turned 112 = .ok (.iload 8, 2) := by decide +kernel
theorem dX10_turned_114 : decode cX10_turned 114 = .ok (.istore 11, 2) := by decide +kernel
theorem dX10_turned_116 : decode cX10_turned 116 = .ok (.lload 6, 2) := by decide +kernel
theorem dX10_turned_118 : decode cX10_turned 118 = .ok (.iload 5, 2) := by decide +kernel
theorem dX10_turned_120 : decode cX10_turned 120 = .ok (.iconst 3, 1) := by decide +kernel
theorem dX10_turned_121 : decode cX10_turned 121 = .ok (.if_icmp .ne 14, 3) := by decide +kernel
theorem dX10_turned_124 : decode cX10_turned 124 = .ok (.iconst 1, 1) := by decide +kernel
theorem dX10_turned_125 : decode cX10_turned 125 = .ok (.lload_n 3, 1) := by decide +kernel
theorem dX10_turned_126 : decode cX10_turned 126 = .ok (.iload 8, 2) := by decide +kernel
theorem dX10_turned_128 : decode cX10_turned 128 = .ok (.invokestatic 104, 3) := by decide +kernel
theorem dX10_turned_131 : decode cX10_turned 131 = .ok (.isub, 1) := by decide +kernel
theorem dX10_turned_132 : decode cX10_turned 132 = .ok (.goto 9, 3) := by decide +kernel
theorem dX10_turned_135 : decode cX10_turned 135 = .ok (.lload_n 3, 1) := by decide +kernel
theorem dX10_turned_136 : decode cX10_turned 136 = .ok (.iload 8, 2) := by decide +kernel
theorem dX10_turned_138 : decode cX10_turned 138 = .ok (.invokestatic 104, 3) := by decide +kernel
theorem dX10_turned_141 : decode cX10_turned 141 = .ok (.i2l, 1) := by decide +kernel
theorem dX10_turned_142 : decode cX10_turned 142 = .ok (.iload 11, 2) := by decide +kernel
theorem dX10_turned_144 : decode cX10_turned 144 = .ok (.lshl, 1) := by decide +kernel
theorem dX10_turned_145 : decode cX10_turned 145 = .ok (.lor, 1) := by decide +kernel
theorem dX10_turned_146 : decode cX10_turned 146 = .ok (.lstore 6, 2) := by decide +kernel
theorem dX10_turned_148 : decode cX10_turned 148 = .ok (.iinc 8 1, 3) := by decide +kernel
theorem dX10_turned_151 : decode cX10_turned 151 = .ok (.goto (-114), 3) := by decide +kernel
theorem dX10_turned_154 : decode cX10_turned 154 = .ok (.lload 6, 2) := by decide +kernel
theorem dX10_turned_156 : decode cX10_turned 156 = .ok (.lreturn, 1) := by decide +kernel
def chX10_parts : List (List Cond) := [wsX10_parts_r1, wsX10_parts_r2, wsX100]
set_option maxRecDepth 20000 in
theorem chX10_parts_in : ∀ c ∈ chX10_parts, ∀ w ∈ c, w ∈ wsX10_parts := (all_c (P := fun c => ∀ w ∈ c, w ∈ wsX10_parts) (fun w h => List.mem_cons_of_mem _ (List.mem_append_left _ (List.mem_append_left _ (h)))) (all_c (P := fun c => ∀ w ∈ c, w ∈ wsX10_parts) (fun w h => List.mem_cons_of_mem _ (List.mem_append_left _ (List.mem_append_right _ (h)))) (all_c (P := fun c => ∀ w ∈ c, w ∈ wsX10_parts) (fun w h => List.mem_cons_of_mem _ (List.mem_append_right _ (h))) (fun _ h => nomatch h))))
set_option maxRecDepth 20000 in
theorem ggX10_parts_X10_isPicture : GoodIn wsX10_parts wsX10_isPicture := goodIn_c chX10_parts chX10_parts_in _ [(0, 5), (0, 6), (0, 7), (0, 4), (0, 8), (0, 9), (0, 10), (0, 11), (0, 12)] (by rfl) (by decide +kernel)
set_option maxRecDepth 20000 in
theorem gX10_parts_X10_isPicture : GoodIn wsX10_parts (va_wsS RX10 126 yX10_isPicture wsX10_isPicture) := goodIn_app (goodIn_c chX10_parts chX10_parts_in _ [(0, 2), (0, 3), (0, 4)] (by rfl) (by decide +kernel)) ggX10_parts_X10_isPicture
set_option maxRecDepth 20000 in
theorem ggX10_parts_X10_isIn : GoodIn wsX10_parts wsX10_isIn := goodIn_r _ [13] (by decide +kernel) (by decide +kernel)
set_option maxRecDepth 20000 in
theorem gX10_parts_X10_isIn : GoodIn wsX10_parts (va_wsS RX10 85 yX10_isIn wsX10_isIn) := goodIn_app (goodIn_c chX10_parts chX10_parts_in _ [(0, 10), (0, 11), (0, 4)] (by rfl) (by decide +kernel)) ggX10_parts_X10_isIn
set_option maxRecDepth 20000 in
theorem ggX10_parts_X10_areAlike : GoodIn wsX10_parts wsX10_areAlike := goodIn_c chX10_parts chX10_parts_in _ [(0, 15), (0, 16), (0, 17), (0, 4), (0, 18), (0, 19), (0, 20), (0, 21), (0, 22), (0, 23), (1, 0), (1, 1), (1, 2), (1, 3)] (by rfl) (by decide +kernel)
set_option maxRecDepth 20000 in
theorem gX10_parts_X10_areAlike : GoodIn wsX10_parts (va_wsS RX10 210 yX10_areAlike wsX10_areAlike) := goodIn_app (goodIn_c chX10_parts chX10_parts_in _ [(0, 13), (0, 14), (0, 4)] (by rfl) (by decide +kernel)) ggX10_parts_X10_areAlike
theorem dX10_parts_0 : decode cX10_parts 0 = .ok (.aload_n 0, 1) := by decide +kernel
theorem dX10_parts_1 : decode cX10_parts 1 = .ok (.iconst 0, 1) := by decide +kernel
theorem dX10_parts_2 : decode cX10_parts 2 = .ok (.putfield 79, 3) := by decide +kernel
theorem dX10_parts_5 : decode cX10_parts 5 = .ok (.iload_n 1, 1) := by decide +kernel
theorem dX10_parts_6 : decode cX10_parts 6 = .ok (.iload_n 2, 1) := by decide +kernel
theorem dX10_parts_7 : decode cX10_parts 7 = .ok (.lload_n 3, 1) := by decide +kernel
theorem dX10_parts_8 : decode cX10_parts 8 = .ok (.invokestatic 126, 3) := by decide +kernel
theorem dX10_parts_11 : decode cX10_parts 11 = .ok (.ifCond .eq 26, 3) := by decide +kernel
theorem dX10_parts_14 : decode cX10_parts 14 = .ok (.iload_n 1, 1) := by decide +kernel
theorem dX10_parts_15 : decode cX10_parts 15 = .ok (.iload_n 2, 1) := by decide +kernel
theorem dX10_parts_16 : decode cX10_parts 16 = .ok (.lload 5, 2) := by decide +kernel
theorem dX10_parts_18 : decode cX10_parts 18 = .ok (.invokestatic 126, 3) := by decide +kernel
theorem dX10_parts_21 : decode cX10_parts 21 = .ok (.ifCond .eq 16, 3) := by decide +kernel
theorem dX10_parts_24 : decode cX10_parts 24 = .ok (.iload 7, 2) := by decide +kernel
theorem dX10_parts_26 : decode cX10_parts 26 = .ok (.i2l, 1) := by decide +kernel
theorem dX10_parts_27 : decode cX10_parts 27 = .ok (.lconst 0, 1) := by decide +kernel
theorem dX10_parts_28 : decode cX10_parts 28 = .ok (.ldc2_w 228, 3) := by decide +kernel
theorem dX10_parts_31 : decode cX10_parts 31 = .ok (.invokestatic 85, 3) := by decide +kernel
theorem dX10_parts_34 : decode cX10_parts 34 = .ok (.ifCond .ne 5, 3) := by decide +kernel
theorem dX10_parts_37 : decode cX10_parts 37 = .ok (.iconst (-1), 1) := by decide +kernel
theorem dX10_parts_38 : decode cX10_parts 38 = .ok (.ireturn, 1) := by decide +kernel
theorem dX10_parts_39 : decode cX10_parts 39 = .ok (.iconst 0, 1) := by decide +kernel
theorem dX10_parts_40 : decode cX10_parts 40 = .ok (.istore 8, 2) := by decide +kernel
theorem dX10_parts_42 : decode cX10_parts 42 = .ok (.iload 8, 2) := by decide +kernel
theorem dX10_parts_44 : decode cX10_parts 44 = .ok (.iconst 4, 1) := by decide +kernel
theorem dX10_parts_45 : decode cX10_parts 45 = .ok (.if_icmp .ge 36, 3) := by decide +kernel
theorem dX10_parts_48 : decode cX10_parts 48 = .ok (.iload 7, 2) := by decide +kernel
theorem dX10_parts_50 : decode cX10_parts 50 = .ok (.iload 8, 2) := by decide +kernel
theorem dX10_parts_52 : decode cX10_parts 52 = .ok (.ishr, 1) := by decide +kernel
theorem dX10_parts_53 : decode cX10_parts 53 = .ok (.iconst 1, 1) := by decide +kernel
theorem dX10_parts_54 : decode cX10_parts 54 = .ok (.iand, 1) := by decide +kernel
theorem dX10_parts_55 : decode cX10_parts 55 = .ok (.iconst 1, 1) := by decide +kernel
theorem dX10_parts_56 : decode cX10_parts 56 = .ok (.if_icmp .ne 19, 3) := by decide +kernel
theorem dX10_parts_59 : decode cX10_parts 59 = .ok (.iload_n 1, 1) := by decide +kernel
theorem dX10_parts_60 : decode cX10_parts 60 = .ok (.iload_n 2, 1) := by decide +kernel
theorem dX10_parts_61 : decode cX10_parts 61 = .ok (.lload_n 3, 1) := by decide +kernel
theorem dX10_parts_62 : decode cX10_parts 62 = .ok (.lload 5, 2) := by decide +kernel
theorem dX10_parts_64 : decode cX10_parts 64 = .ok (.iload 8, 2) := by decide +kernel
theorem dX10_parts_66 : decode cX10_parts 66 = .ok (.invokestatic 210, 3) := by decide +kernel
theorem dX10_parts_69 : decode cX10_parts 69 = .ok (.ifCond .ne 6, 3) := by decide +kernel
theorem dX10_parts_72 : decode cX10_parts 72 = .ok (.iload 8, 2) := by decide +kernel
theorem dX10_parts_74 : decode cX10_parts 74 = .ok (.ireturn, 1) := by decide +kernel
theorem dX10_parts_75 : decode cX10_parts 75 = .ok (.iinc 8 1, 3) := by decide +kernel
theorem dX10_parts_78 : decode cX10_parts 78 = .ok (.goto (-36), 3) := by decide +kernel
theorem dX10_parts_81 : decode cX10_parts 81 = .ok (.bipush (-2), 2) := by decide +kernel
theorem dX10_parts_83 : decode cX10_parts 83 = .ok (.ireturn, 1) := by decide +kernel
def chX10_list : List (List Cond) := [[.fieldLink RX10 79 "ShadowBenchModel" "thrown" "I", .fieldLink RX10 230 "ShadowBenchModel" "listed" "I", .fieldLink RX10 233 "ShadowBenchModel" "listWide" "I", .fieldLink RX10 236 "ShadowBenchModel" "listHigh" "I", .fieldLink RX10 52 "ShadowBenchModel" "list" "[J", .methodLink RX10 126 yX10_isPicture, .static yX10_isPicture, .initialized RX10, .code yX10_isPicture cX10_isPicture 4 (some .boolean), .methodLink RX10 89 yX10_isBoard, .static yX10_isBoard, .code yX10_isBoard cX10_isBoard 2 (some .boolean), .constantLong RX10 83 (6), .methodLink RX10 85 yX10_isIn, .static yX10_isIn, .code yX10_isIn cX10_isIn 6 (some .boolean)], wsX100]
set_option maxRecDepth 20000 in
theorem chX10_list_in : ∀ c ∈ chX10_list, ∀ w ∈ c, w ∈ wsX10_list := (all_c (P := fun c => ∀ w ∈ c, w ∈ wsX10_list) (fun w h => List.mem_cons_of_mem _ (List.mem_append_left _ (h))) (all_c (P := fun c => ∀ w ∈ c, w ∈ wsX10_list) (fun w h => List.mem_cons_of_mem _ (List.mem_append_right _ (h))) (fun _ h => nomatch h)))
set_option maxRecDepth 20000 in
theorem ggX10_list_X10_isPicture : GoodIn wsX10_list wsX10_isPicture := goodIn_c chX10_list chX10_list_in _ [(0, 8), (0, 9), (0, 10), (0, 7), (0, 11), (0, 12), (0, 13), (0, 14), (0, 15)] (by rfl) (by decide +kernel)
set_option maxRecDepth 20000 in
theorem gX10_list_X10_isPicture : GoodIn wsX10_list (va_wsS RX10 126 yX10_isPicture wsX10_isPicture) := goodIn_app (goodIn_c chX10_list chX10_list_in _ [(0, 5), (0, 6), (0, 7)] (by rfl) (by decide +kernel)) ggX10_list_X10_isPicture
theorem dX10_list_0 : decode cX10_list 0 = .ok (.aload_n 0, 1) := by decide +kernel
theorem dX10_list_1 : decode cX10_list 1 = .ok (.iconst 0, 1) := by decide +kernel
theorem dX10_list_2 : decode cX10_list 2 = .ok (.putfield 79, 3) := by decide +kernel
theorem dX10_list_5 : decode cX10_list 5 = .ok (.iload_n 1, 1) := by decide +kernel
theorem dX10_list_6 : decode cX10_list 6 = .ok (.iload_n 2, 1) := by decide +kernel
theorem dX10_list_7 : decode cX10_list 7 = .ok (.lload_n 3, 1) := by decide +kernel
theorem dX10_list_8 : decode cX10_list 8 = .ok (.invokestatic 126, 3) := by decide +kernel
theorem dX10_list_11 : decode cX10_list 11 = .ok (.ifCond .ne 5, 3) := by decide +kernel
theorem dX10_list_14 : decode cX10_list 14 = .ok (.iconst (-1), 1) := by decide +kernel
theorem dX10_list_15 : decode cX10_list 15 = .ok (.ireturn, 1) := by decide +kernel
theorem dX10_list_16 : decode cX10_list 16 = .ok (.aload_n 0, 1) := by decide +kernel
theorem dX10_list_17 : decode cX10_list 17 = .ok (.getfield 230, 3) := by decide +kernel
theorem dX10_list_20 : decode cX10_list 20 = .ok (.bipush 12, 2) := by decide +kernel
theorem dX10_list_22 : decode cX10_list 22 = .ok (.if_icmp .ne 6, 3) := by decide +kernel
theorem dX10_list_25 : decode cX10_list 25 = .ok (.bipush (-2), 2) := by decide +kernel
theorem dX10_list_27 : decode cX10_list 27 = .ok (.ireturn, 1) := by decide +kernel
theorem dX10_list_28 : decode cX10_list 28 = .ok (.aload_n 0, 1) := by decide +kernel
theorem dX10_list_29 : decode cX10_list 29 = .ok (.getfield 230, 3) := by decide +kernel
theorem dX10_list_32 : decode cX10_list 32 = .ok (.ifCond .le 23, 3) := by decide +kernel
theorem dX10_list_35 : decode cX10_list 35 = .ok (.iload_n 1, 1) := by decide +kernel
theorem dX10_list_36 : decode cX10_list 36 = .ok (.aload_n 0, 1) := by decide +kernel
theorem dX10_list_37 : decode cX10_list 37 = .ok (.getfield 233, 3) := by decide +kernel
theorem dX10_list_40 : decode cX10_list 40 = .ok (.if_icmp .ne 11, 3) := by decide +kernel
theorem dX10_list_43 : decode cX10_list 43 = .ok (.iload_n 2, 1) := by decide +kernel
theorem dX10_list_44 : decode cX10_list 44 = .ok (.aload_n 0, 1) := by decide +kernel
theorem dX10_list_45 : decode cX10_list 45 = .ok (.getfield 236, 3) := by decide +kernel
theorem dX10_list_48 : decode cX10_list 48 = .ok (.if_icmp .eq 7, 3) := by decide +kernel
theorem dX10_list_51 : decode cX10_list 51 = .ok (.iconst 1, 1) := by decide +kernel
theorem dX10_list_52 : decode cX10_list 52 = .ok (.goto 4, 3) := by decide +kernel
theorem dX10_list_55 : decode cX10_list 55 = .ok (.iconst 0, 1) := by decide +kernel
theorem dX10_list_56 : decode cX10_list 56 = .ok (.istore 5, 2) := by decide +kernel
theorem dX10_list_58 : decode cX10_list 58 = .ok (.iconst 0, 1) := by decide +kernel
theorem dX10_list_59 : decode cX10_list 59 = .ok (.istore 6, 2) := by decide +kernel
theorem dX10_list_61 : decode cX10_list 61 = .ok (.iload 6, 2) := by decide +kernel
theorem dX10_list_63 : decode cX10_list 63 = .ok (.aload_n 0, 1) := by decide +kernel
theorem dX10_list_64 : decode cX10_list 64 = .ok (.getfield 230, 3) := by decide +kernel
theorem dX10_list_67 : decode cX10_list 67 = .ok (.if_icmp .ge 33, 3) := by decide +kernel
theorem dX10_list_70 : decode cX10_list 70 = .ok (.iload 5, 2) := by decide +kernel
theorem dX10_list_72 : decode cX10_list 72 = .ok (.ifCond .ne 15, 3) := by decide +kernel
theorem dX10_list_75 : decode cX10_list 75 = .ok (.aload_n 0, 1) := by decide +kernel
theorem dX10_list_76 : decode cX10_list 76 = .ok (.getfield 52, 3) := by decide +kernel
theorem dX10_list_79 : decode cX10_list 79 = .ok (.iload 6, 2) := by decide +kernel
theorem dX10_list_81 : decode cX10_list 81 = .ok (.laload, 1) := by decide +kernel
theorem dX10_list_82 : decode cX10_list 82 = .ok (.lload_n 3, 1) := by decide +kernel
theorem dX10_list_83 : decode cX10_list 83 = .ok (.lcmp, 1) := by decide +kernel
theorem dX10_list_84 : decode cX10_list 84 = .ok (.ifCond .ne 7, 3) := by decide +kernel
theorem dX10_list_87 : decode cX10_list 87 = .ok (.iconst 1, 1) := by decide +kernel
theorem dX10_list_88 : decode cX10_list 88 = .ok (.goto 4, 3) := by decide +kernel
theorem dX10_list_91 : decode cX10_list 91 = .ok (.iconst 0, 1) := by decide +kernel
theorem dX10_list_92 : decode cX10_list 92 = .ok (.istore 5, 2) := by decide +kernel
theorem dX10_list_94 : decode cX10_list 94 = .ok (.iinc 6 1, 3) := by decide +kernel
theorem dX10_list_97 : decode cX10_list 97 = .ok (.goto (-36), 3) := by decide +kernel
theorem dX10_list_100 : decode cX10_list 100 = .ok (.iload 5, 2) := by decide +kernel
theorem dX10_list_102 : decode cX10_list 102 = .ok (.ifCond .eq 6, 3) := by decide +kernel
theorem dX10_list_105 : decode cX10_list 105 = .ok (.bipush (-3), 2) := by decide +kernel
theorem dX10_list_107 : decode cX10_list 107 = .ok (.ireturn, 1) := by decide +kernel
theorem dX10_list_108 : decode cX10_list 108 = .ok (.aload_n 0, 1) := by decide +kernel
theorem dX10_list_109 : decode cX10_list 109 = .ok (.iload_n 1, 1) := by decide +kernel
theorem dX10_list_110 : decode cX10_list 110 = .ok (.putfield 233, 3) := by decide +kernel
theorem dX10_list_113 : decode cX10_list 113 = .ok (.aload_n 0, 1) := by decide +kernel
theorem dX10_list_114 : decode cX10_list 114 = .ok (.iload_n 2, 1) := by decide +kernel
theorem dX10_list_115 : decode cX10_list 115 = .ok (.putfield 236, 3) := by decide +kernel
theorem dX10_list_118 : decode cX10_list 118 = .ok (.aload_n 0, 1) := by decide +kernel
theorem dX10_list_119 : decode cX10_list 119 = .ok (.getfield 52, 3) := by decide +kernel
theorem dX10_list_122 : decode cX10_list 122 = .ok (.aload_n 0, 1) := by decide +kernel
theorem dX10_list_123 : decode cX10_list 123 = .ok (.getfield 230, 3) := by decide +kernel
theorem dX10_list_126 : decode cX10_list 126 = .ok (.lload_n 3, 1) := by decide +kernel
theorem dX10_list_127 : decode cX10_list 127 = .ok (.lastore, 1) := by decide +kernel
theorem dX10_list_128 : decode cX10_list 128 = .ok (.aload_n 0, 1) := by decide +kernel
theorem dX10_list_129 : decode cX10_list 129 = .ok (.dup, 1) := by decide +kernel
theorem dX10_list_130 : decode cX10_list 130 = .ok (.getfield 230, 3) := by decide +kernel
theorem dX10_list_133 : decode cX10_list 133 = .ok (.iconst 1, 1) := by decide +kernel
theorem dX10_list_134 : decode cX10_list 134 = .ok (.iadd, 1) := by decide +kernel
theorem dX10_list_135 : decode cX10_list 135 = .ok (.putfield 230, 3) := by decide +kernel
theorem dX10_list_138 : decode cX10_list 138 = .ok (.aload_n 0, 1) := by decide +kernel
theorem dX10_list_139 : decode cX10_list 139 = .ok (.getfield 230, 3) := by decide +kernel
theorem dX10_list_142 : decode cX10_list 142 = .ok (.ireturn, 1) := by decide +kernel
theorem dX10_clear_0 : decode cX10_clear 0 = .ok (.aload_n 0, 1) := by decide +kernel
theorem dX10_clear_1 : decode cX10_clear 1 = .ok (.iconst 0, 1) := by decide +kernel
theorem dX10_clear_2 : decode cX10_clear 2 = .ok (.putfield 79, 3) := by decide +kernel
theorem dX10_clear_5 : decode cX10_clear 5 = .ok (.aload_n 0, 1) := by decide +kernel
theorem dX10_clear_6 : decode cX10_clear 6 = .ok (.getfield 230, 3) := by decide +kernel
theorem dX10_clear_9 : decode cX10_clear 9 = .ok (.istore_n 1, 1) := by decide +kernel
theorem dX10_clear_10 : decode cX10_clear 10 = .ok (.aload_n 0, 1) := by decide +kernel
theorem dX10_clear_11 : decode cX10_clear 11 = .ok (.iconst 0, 1) := by decide +kernel
theorem dX10_clear_12 : decode cX10_clear 12 = .ok (.putfield 230, 3) := by decide +kernel
theorem dX10_clear_15 : decode cX10_clear 15 = .ok (.iload_n 1, 1) := by decide +kernel
theorem dX10_clear_16 : decode cX10_clear 16 = .ok (.ireturn, 1) := by decide +kernel
def chX10_tells : List (List Cond) := [[.fieldLink RX10 230 "ShadowBenchModel" "listed" "I", .fieldLink RX10 233 "ShadowBenchModel" "listWide" "I", .fieldLink RX10 236 "ShadowBenchModel" "listHigh" "I", .fieldLink RX10 52 "ShadowBenchModel" "list" "[J", .methodLink RX10 210 yX10_areAlike, .static yX10_areAlike, .initialized RX10, .code yX10_areAlike cX10_areAlike 9 (some .boolean), .methodLink RX10 108 yX10_linesOf, .static yX10_linesOf, .code yX10_linesOf cX10_linesOf 3 (some .int), .methodLink RX10 112 yX10_shadowOf, .static yX10_shadowOf, .code yX10_shadowOf cX10_shadowOf 8 (some .int), .methodLink RX10 100 yX10_lineOf, .static yX10_lineOf, .code yX10_lineOf cX10_lineOf 4 (some .int), .methodLink RX10 104 yX10_one, .static yX10_one, .code yX10_one cX10_one 3 (some .int)], wsX100]
set_option maxRecDepth 20000 in
theorem chX10_tells_in : ∀ c ∈ chX10_tells, ∀ w ∈ c, w ∈ wsX10_tells := (all_c (P := fun c => ∀ w ∈ c, w ∈ wsX10_tells) (fun w h => List.mem_cons_of_mem _ (List.mem_append_left _ (h))) (all_c (P := fun c => ∀ w ∈ c, w ∈ wsX10_tells) (fun w h => List.mem_cons_of_mem _ (List.mem_append_right _ (h))) (fun _ h => nomatch h)))
set_option maxRecDepth 20000 in
theorem ggX10_tells_X10_areAlike : GoodIn wsX10_tells wsX10_areAlike := goodIn_c chX10_tells chX10_tells_in _ [(0, 7), (0, 8), (0, 9), (0, 6), (0, 10), (0, 11), (0, 12), (0, 13), (0, 14), (0, 15), (0, 16), (0, 17), (0, 18), (0, 19)] (by rfl) (by decide +kernel)
