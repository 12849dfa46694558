abbrev cX9_haunts : ByteArray := prog_1_method_29_code
def yX9_haunts : MethodName := ⟨RX9, "haunts", "(III)I"⟩
abbrev cX9_ghosts : ByteArray := prog_1_method_30_code
def yX9_ghosts : MethodName := ⟨RX9, "ghosts", "(III)I"⟩
abbrev cX9_ghostNumber : ByteArray := prog_1_method_49_code
def yX9_ghostNumber : MethodName := ⟨RX9, "ghostNumber", "(IIII)I"⟩
abbrev cX9_ghostPlaces : ByteArray := prog_1_method_50_code
def yX9_ghostPlaces : MethodName := ⟨RX9, "ghostPlaces", "(III)I"⟩
def wsX9_ghostNumber : List Cond := .code yX9_ghostNumber cX9_ghostNumber 5 (some .int) :: ([.fieldLink RX9 309 "ShadowBench$Board" "STEP_X" "[I", .fieldLink RX9 313 "ShadowBench$Board" "STEP_Y" "[I", .methodLink RX9 230 yX9_ghostNumber, .static yX9_ghostNumber, .initialized RX9])
def wsX9_ghostPlaces_r1 : List Cond := [Cond.fieldLink RX9 309 "ShadowBench$Board" "STEP_X" "[I", Cond.methodLink RX9 316 Lib.Math.abs.name, Cond.static Lib.Math.abs.name, Cond.initialized "java/lang/Math", Cond.code Lib.Math.abs.name Lib.Math.abs.code 1 (some .int), Cond.fieldLink RX9 313 "ShadowBench$Board" "STEP_Y" "[I", Cond.methodLink RX9 220 yX9_isGhostSet, Cond.static yX9_isGhostSet, Cond.initialized RX9, Cond.code yX9_isGhostSet cX9_isGhostSet 1 (some .boolean), Cond.methodLink RX9 53 yX9_boardOf, Cond.instanceMethod yX9_boardOf, Cond.selects RX9 yX9_boardOf yX9_boardOf, Cond.code yX9_boardOf cX9_boardOf 4 (some (.object "ShadowBench$Board")), Cond.fieldLink RX9 9 "ShadowBench" "boards" "[LShadowBench$Board;", Cond.classLink RX9 7 RX0, Cond.instantiable RX0 8, Cond.initialized RX0, Cond.methodLink RX9 290 yX0_init, Cond.instanceMethod yX0_init, Cond.code yX0_init cX0_init 3 none, Cond.methodLink RX0 1 objectInit, Cond.instanceMethod objectInit, Cond.code objectInit ⟨#[0xb1]⟩ 1 none]
def wsX9_ghostPlaces_r2 : List Cond := [Cond.arrayClass .long, Cond.fieldLink RX0 9 "ShadowBench$Board" "lines" "[J", Cond.fieldLink RX0 13 "ShadowBench$Board" "wide" "I", Cond.fieldLink RX0 17 "ShadowBench$Board" "high" "I", Cond.fieldLink RX0 20 "ShadowBench$Board" "squares" "I", Cond.fieldLink RX0 23 "ShadowBench$Board" "rowNumbers" "I", Cond.fieldLink RX0 30 "ShadowBench$Board" "fours" "I", Cond.fieldLink RX0 33 "ShadowBench$Board" "falling" "[J", Cond.fieldLink RX0 36 "ShadowBench$Board" "rising" "[J", Cond.methodLink RX0 26 yX0_pairsOf, Cond.static yX0_pairsOf, Cond.code yX0_pairsOf cX0_pairsOf 1 (some .int), Cond.methodLink RX0 39 yX0_drawLines, Cond.instanceMethod yX0_drawLines, Cond.selects RX0 yX0_drawLines yX0_drawLines, Cond.code yX0_drawLines cX0_drawLines 4 none, Cond.methodLink RX0 45 yX0_lineThrough, Cond.instanceMethod yX0_lineThrough, Cond.selects RX0 yX0_lineThrough yX0_lineThrough, Cond.code yX0_lineThrough cX0_lineThrough 4 (some .int), Cond.methodLink RX0 49 yX0_bit, Cond.instanceMethod yX0_bit, Cond.selects RX0 yX0_bit yX0_bit, Cond.code yX0_bit cX0_bit 3 (some .long)]
def wsX9_ghostPlaces_r3 : List Cond := [Cond.methodLink RX0 42 yX0_drawFours, Cond.instanceMethod yX0_drawFours, Cond.selects RX0 yX0_drawFours yX0_drawFours, Cond.code yX0_drawFours cX0_drawFours 4 none, Cond.methodLink RX0 53 yX0_drawFoursOfRows, Cond.instanceMethod yX0_drawFoursOfRows, Cond.selects RX0 yX0_drawFoursOfRows yX0_drawFoursOfRows, Cond.code yX0_drawFoursOfRows cX0_drawFoursOfRows 7 (some .int)]
def wsX9_ghostPlaces : List Cond := .code yX9_ghostPlaces cX9_ghostPlaces 7 (some .int) :: ((wsX9_ghostPlaces_r1 ++ (wsX9_ghostPlaces_r2 ++ wsX9_ghostPlaces_r3)) ++ wsX90 ++ wsX00)
def wsX9_haunts_r1 : List Cond := [Cond.methodLink RX9 234 yX9_ghostPlaces, Cond.instanceMethod yX9_ghostPlaces, Cond.selects RX9 yX9_ghostPlaces yX9_ghostPlaces, Cond.initialized RX9, Cond.code yX9_ghostPlaces cX9_ghostPlaces 7 (some .int), Cond.fieldLink RX9 309 "ShadowBench$Board" "STEP_X" "[I", Cond.methodLink RX9 316 Lib.Math.abs.name, Cond.static Lib.Math.abs.name, Cond.initialized "java/lang/Math", Cond.code Lib.Math.abs.name Lib.Math.abs.code 1 (some .int), Cond.fieldLink RX9 313 "ShadowBench$Board" "STEP_Y" "[I", Cond.methodLink RX9 220 yX9_isGhostSet, Cond.static yX9_isGhostSet, Cond.code yX9_isGhostSet cX9_isGhostSet 1 (some .boolean), Cond.methodLink RX9 53 yX9_boardOf, Cond.instanceMethod yX9_boardOf, Cond.selects RX9 yX9_boardOf yX9_boardOf, Cond.code yX9_boardOf cX9_boardOf 4 (some (.object "ShadowBench$Board")), Cond.fieldLink RX9 9 "ShadowBench" "boards" "[LShadowBench$Board;", Cond.classLink RX9 7 RX0, Cond.instantiable RX0 8, Cond.initialized RX0, Cond.methodLink RX9 290 yX0_init, Cond.instanceMethod yX0_init]
def wsX9_haunts_r2 : List Cond := [Cond.code yX0_init cX0_init 3 none, Cond.methodLink RX0 1 objectInit, Cond.instanceMethod objectInit, Cond.code objectInit ⟨#[0xb1]⟩ 1 none, Cond.arrayClass .long, Cond.fieldLink RX0 9 "ShadowBench$Board" "lines" "[J", Cond.fieldLink RX0 13 "ShadowBench$Board" "wide" "I", Cond.fieldLink RX0 17 "ShadowBench$Board" "high" "I", Cond.fieldLink RX0 20 "ShadowBench$Board" "squares" "I", Cond.fieldLink RX0 23 "ShadowBench$Board" "rowNumbers" "I", Cond.fieldLink RX0 30 "ShadowBench$Board" "fours" "I", Cond.fieldLink RX0 33 "ShadowBench$Board" "falling" "[J", Cond.fieldLink RX0 36 "ShadowBench$Board" "rising" "[J", Cond.methodLink RX0 26 yX0_pairsOf, Cond.static yX0_pairsOf, Cond.code yX0_pairsOf cX0_pairsOf 1 (some .int), Cond.methodLink RX0 39 yX0_drawLines, Cond.instanceMethod yX0_drawLines, Cond.selects RX0 yX0_drawLines yX0_drawLines, Cond.code yX0_drawLines cX0_drawLines 4 none, Cond.methodLink RX0 45 yX0_lineThrough, Cond.instanceMethod yX0_lineThrough, Cond.selects RX0 yX0_lineThrough yX0_lineThrough, Cond.code yX0_lineThrough cX0_lineThrough 4 (some .int)]
def wsX9_haunts_r3 : List Cond := [Cond.methodLink RX0 49 yX0_bit, Cond.instanceMethod yX0_bit, Cond.selects RX0 yX0_bit yX0_bit, Cond.code yX0_bit cX0_bit 3 (some .long), Cond.methodLink RX0 42 yX0_drawFours, Cond.instanceMethod yX0_drawFours, Cond.selects RX0 yX0_drawFours yX0_drawFours, Cond.code yX0_drawFours cX0_drawFours 4 none, Cond.methodLink RX0 53 yX0_drawFoursOfRows, Cond.instanceMethod yX0_drawFoursOfRows, Cond.selects RX0 yX0_drawFoursOfRows yX0_drawFoursOfRows, Cond.code yX0_drawFoursOfRows cX0_drawFoursOfRows 7 (some .int)]
def wsX9_haunts : List Cond := .code yX9_haunts cX9_haunts 5 (some .int) :: ((wsX9_haunts_r1 ++ (wsX9_haunts_r2 ++ wsX9_haunts_r3)) ++ wsX90 ++ wsX00)
def wsX9_ghosts_r1 : List Cond := [Cond.methodLink RX9 234 yX9_ghostPlaces, Cond.instanceMethod yX9_ghostPlaces, Cond.selects RX9 yX9_ghostPlaces yX9_ghostPlaces, Cond.initialized RX9, Cond.code yX9_ghostPlaces cX9_ghostPlaces 7 (some .int), Cond.fieldLink RX9 309 "ShadowBench$Board" "STEP_X" "[I", Cond.methodLink RX9 316 Lib.Math.abs.name, Cond.static Lib.Math.abs.name, Cond.initialized "java/lang/Math", Cond.code Lib.Math.abs.name Lib.Math.abs.code 1 (some .int), Cond.fieldLink RX9 313 "ShadowBench$Board" "STEP_Y" "[I", Cond.methodLink RX9 220 yX9_isGhostSet, Cond.static yX9_isGhostSet, Cond.code yX9_isGhostSet cX9_isGhostSet 1 (some .boolean), Cond.methodLink RX9 53 yX9_boardOf, Cond.instanceMethod yX9_boardOf, Cond.selects RX9 yX9_boardOf yX9_boardOf, Cond.code yX9_boardOf cX9_boardOf 4 (some (.object "ShadowBench$Board")), Cond.fieldLink RX9 9 "ShadowBench" "boards" "[LShadowBench$Board;", Cond.classLink RX9 7 RX0, Cond.instantiable RX0 8, Cond.initialized RX0, Cond.methodLink RX9 290 yX0_init, Cond.instanceMethod yX0_init]
def wsX9_ghosts_r2 : List Cond := [Cond.code yX0_init cX0_init 3 none, Cond.methodLink RX0 1 objectInit, Cond.instanceMethod objectInit, Cond.code objectInit ⟨#[0xb1]⟩ 1 none, Cond.arrayClass .long, Cond.fieldLink RX0 9 "ShadowBench$Board" "lines" "[J", Cond.fieldLink RX0 13 "ShadowBench$Board" "wide" "I", Cond.fieldLink RX0 17 "ShadowBench$Board" "high" "I", Cond.fieldLink RX0 20 "ShadowBench$Board" "squares" "I", Cond.fieldLink RX0 23 "ShadowBench$Board" "rowNumbers" "I", Cond.fieldLink RX0 30 "ShadowBench$Board" "fours" "I", Cond.fieldLink RX0 33 "ShadowBench$Board" "falling" "[J", Cond.fieldLink RX0 36 "ShadowBench$Board" "rising" "[J", Cond.methodLink RX0 26 yX0_pairsOf, Cond.static yX0_pairsOf, Cond.code yX0_pairsOf cX0_pairsOf 1 (some .int), Cond.methodLink RX0 39 yX0_drawLines, Cond.instanceMethod yX0_drawLines, Cond.selects RX0 yX0_drawLines yX0_drawLines, Cond.code yX0_drawLines cX0_drawLines 4 none, Cond.methodLink RX0 45 yX0_lineThrough, Cond.instanceMethod yX0_lineThrough, Cond.selects RX0 yX0_lineThrough yX0_lineThrough, Cond.code yX0_lineThrough cX0_lineThrough 4 (some .int)]
def wsX9_ghosts_r3 : List Cond := [Cond.methodLink RX0 49 yX0_bit, Cond.instanceMethod yX0_bit, Cond.selects RX0 yX0_bit yX0_bit, Cond.code yX0_bit cX0_bit 3 (some .long), Cond.methodLink RX0 42 yX0_drawFours, Cond.instanceMethod yX0_drawFours, Cond.selects RX0 yX0_drawFours yX0_drawFours, Cond.code yX0_drawFours cX0_drawFours 4 none, Cond.methodLink RX0 53 yX0_drawFoursOfRows, Cond.instanceMethod yX0_drawFoursOfRows, Cond.selects RX0 yX0_drawFoursOfRows yX0_drawFoursOfRows, Cond.code yX0_drawFoursOfRows cX0_drawFoursOfRows 7 (some .int)]
def wsX9_ghosts : List Cond := .code yX9_ghosts cX9_ghosts 4 (some .int) :: ((wsX9_ghosts_r1 ++ (wsX9_ghosts_r2 ++ wsX9_ghosts_r3)) ++ wsX90 ++ wsX00)
def chX9_haunts : List (List Cond) := [wsX9_haunts_r1, wsX9_haunts_r2, wsX9_haunts_r3, wsX90, wsX00]
set_option maxRecDepth 20000 in
theorem chX9_haunts_in : ∀ c ∈ chX9_haunts, ∀ w ∈ c, w ∈ wsX9_haunts := (all_c (P := fun c => ∀ w ∈ c, w ∈ wsX9_haunts) (fun w h => List.mem_cons_of_mem _ (List.mem_append_left _ (List.mem_append_left _ (List.mem_append_left _ (h))))) (all_c (P := fun c => ∀ w ∈ c, w ∈ wsX9_haunts) (fun w h => List.mem_cons_of_mem _ (List.mem_append_left _ (List.mem_append_left _ (List.mem_append_right _ (List.mem_append_left _ (h)))))) (all_c (P := fun c => ∀ w ∈ c, w ∈ wsX9_haunts) (fun w h => List.mem_cons_of_mem _ (List.mem_append_left _ (List.mem_append_left _ (List.mem_append_right _ (List.mem_append_right _ (h)))))) (all_c (P := fun c => ∀ w ∈ c, w ∈ wsX9_haunts) (fun w h => List.mem_cons_of_mem _ (List.mem_append_left _ (List.mem_append_right _ (h)))) (all_c (P := fun c => ∀ w ∈ c, w ∈ wsX9_haunts) (fun w h => List.mem_cons_of_mem _ (List.mem_append_right _ (h))) (fun _ h => nomatch h))))))
set_option maxRecDepth 20000 in
theorem ggX9_haunts_X9_ghostPlaces : GoodIn wsX9_haunts wsX9_ghostPlaces := goodIn_ca (goodIn_ca (goodIn_c chX9_haunts chX9_haunts_in _ [(0, 4), (0, 5), (0, 6), (0, 7), (0, 8), (0, 9), (0, 10), (0, 11), (0, 12), (0, 3), (0, 13), (0, 14), (0, 15), (0, 16), (0, 17), (0, 18), (0, 19), (0, 20), (0, 21), (0, 22), (0, 23), (1, 0), (1, 1), (1, 2), (1, 3), (1, 4), (1, 5), (1, 6), (1, 7), (1, 8), (1, 9), (1, 10), (1, 11), (1, 12), (1, 13), (1, 14), (1, 15), (1, 16), (1, 17), (1, 18), (1, 19), (1, 20), (1, 21), (1, 22), (1, 23), (2, 0), (2, 1), (2, 2), (2, 3), (2, 4), (2, 5), (2, 6), (2, 7), (2, 8), (2, 9), (2, 10), (2, 11)] (by rfl) (by decide +kernel)) (goodIn_sub (fun _ h => List.mem_cons_of_mem _ (List.mem_append_left _ (List.mem_append_right _ (h)))) (by decide +kernel))) (goodIn_sub (fun _ h => List.mem_cons_of_mem _ (List.mem_append_right _ (h))) (by decide +kernel))
set_option maxRecDepth 20000 in
theorem gX9_haunts_X9_ghostPlaces : GoodIn wsX9_haunts (wsV RX9 234 RX9 yX9_ghostPlaces wsX9_ghostPlaces) := goodIn_app (goodIn_c chX9_haunts chX9_haunts_in _ [(0, 0), (0, 1), (0, 2), (0, 3)] (by rfl) (by decide +kernel)) ggX9_haunts_X9_ghostPlaces
theorem dX9_haunts_0 : decode cX9_haunts 0 = .ok (.aload_n 0, 1) := by decide +kernel
theorem dX9_haunts_1 : decode cX9_haunts 1 = .ok (.iload_n 1, 1) := by decide +kernel
theorem dX9_haunts_2 : decode cX9_haunts 2 = .ok (.iload_n 2, 1) := by decide +kernel
theorem dX9_haunts_3 : decode cX9_haunts 3 = .ok (.iload_n 3, 1) := by decide +kernel
theorem dX9_haunts_4 : decode cX9_haunts 4 = .ok (.invokevirtual 234, 3) := by decide +kernel
theorem dX9_haunts_7 : decode cX9_haunts 7 = .ok (.istore 4, 2) := by decide +kernel
theorem dX9_haunts_9 : decode cX9_haunts 9 = .ok (.iload 4, 2) := by decide +kernel
theorem dX9_haunts_11 : decode cX9_haunts 11 = .ok (.ifCond .le 7, 3) := by decide +kernel
theorem dX9_haunts_14 : decode cX9_haunts 14 = .ok (.iconst 1, 1) := by decide +kernel
theorem dX9_haunts_15 : decode cX9_haunts 15 = .ok (.goto 5, 3) := by decide +kernel
theorem dX9_haunts_18 : decode cX9_haunts 18 = .ok (.iload 4, 2) := by decide +kernel
theorem dX9_haunts_20 : decode cX9_haunts 20 = .ok (.ireturn, 1) := by decide +kernel
def chX9_ghosts : List (List Cond) := [wsX9_ghosts_r1, wsX9_ghosts_r2, wsX9_ghosts_r3, wsX90, wsX00]
set_option maxRecDepth 20000 in
theorem chX9_ghosts_in : ∀ c ∈ chX9_ghosts, ∀ w ∈ c, w ∈ wsX9_ghosts := (all_c (P := fun c => ∀ w ∈ c, w ∈ wsX9_ghosts) (fun w h => List.mem_cons_of_mem _ (List.mem_append_left _ (List.mem_append_left _ (List.mem_append_left _ (h))))) (all_c (P := fun c => ∀ w ∈ c, w ∈ wsX9_ghosts) (fun w h => List.mem_cons_of_mem _ (List.mem_append_left _ (List.mem_append_left _ (List.mem_append_right _ (List.mem_append_left _ (h)))))) (all_c (P := fun c => ∀ w ∈ c, w ∈ wsX9_ghosts) (fun w h => List.mem_cons_of_mem _ (List.mem_append_left _ (List.mem_append_left _ (List.mem_append_right _ (List.mem_append_right _ (h)))))) (all_c (P := fun c => ∀ w ∈ c, w ∈ wsX9_ghosts) (fun w h => List.mem_cons_of_mem _ (List.mem_append_left _ (List.mem_append_right _ (h)))) (all_c (P := fun c => ∀ w ∈ c, w ∈ wsX9_ghosts) (fun w h => List.mem_cons_of_mem _ (List.mem_append_right _ (h))) (fun _ h => nomatch h))))))
set_option maxRecDepth 20000 in
theorem ggX9_ghosts_X9_ghostPlaces : GoodIn wsX9_ghosts wsX9_ghostPlaces := goodIn_ca (goodIn_ca (goodIn_c chX9_ghosts chX9_ghosts_in _ [(0, 4), (0, 5), (0, 6), (0, 7), (0, 8), (0, 9), (0, 10), (0, 11), (0, 12), (0, 3), (0, 13), (0, 14), (0, 15), (0, 16), (0, 17), (0, 18), (0, 19), (0, 20), (0, 21), (0, 22), (0, 23), (1, 0), (1, 1), (1, 2), (1, 3), (1, 4), (1, 5), (1, 6), (1, 7), (1, 8), (1, 9), (1, 10), (1, 11), (1, 12), (1, 13), (1, 14), (1, 15), (1, 16), (1, 17), (1, 18), (1, 19), (1, 20), (1, 21), (1, 22), (1, 23), (2, 0), (2, 1), (2, 2), (2, 3), (2, 4), (2, 5), (2, 6), (2, 7), (2, 8), (2, 9), (2, 10), (2, 11)] (by rfl) (by decide +kernel)) (goodIn_sub (fun _ h => List.mem_cons_of_mem _ (List.mem_append_left _ (List.mem_append_right _ (h)))) (by decide +kernel))) (goodIn_sub (fun _ h => List.mem_cons_of_mem _ (List.mem_append_right _ (h))) (by decide +kernel))
set_option maxRecDepth 20000 in
theorem gX9_ghosts_X9_ghostPlaces : GoodIn wsX9_ghosts (wsV RX9 234 RX9 yX9_ghostPlaces wsX9_ghostPlaces) := goodIn_app (goodIn_c chX9_ghosts chX9_ghosts_in _ [(0, 0), (0, 1), (0, 2), (0, 3)] (by rfl) (by decide +kernel)) ggX9_ghosts_X9_ghostPlaces
theorem dX9_ghosts_0 : decode cX9_ghosts 0 = .ok (.aload_n 0, 1) := by decide +kernel
theorem dX9_ghosts_1 : decode cX9_ghosts 1 = .ok (.iload_n 1, 1) := by decide +kernel
theorem dX9_ghosts_2 : decode cX9_ghosts 2 = .ok (.iload_n 2, 1) := by decide +kernel
theorem dX9_ghosts_3 : decode cX9_ghosts 3 = .ok (.iload_n 3, 1) := by decide +kernel
theorem dX9_ghosts_4 : decode cX9_ghosts 4 = .ok (.invokevirtual 234, 3) := by decide +kernel
theorem dX9_ghosts_7 : decode cX9_ghosts 7 = .ok (.ireturn, 1) := by decide +kernel
set_option maxRecDepth 20000 in
theorem ggX9_ghostNumber_X9_ghostNumber : GoodIn wsX9_ghostNumber wsX9_ghostNumber := goodIn_r _ [0, 1, 2, 3, 4, 5] (by decide +kernel) (by decide +kernel)
def chX9_ghostNumber : List (List Cond) := [[.fieldLink RX9 309 "ShadowBench$Board" "STEP_X" "[I", .fieldLink RX9 313 "ShadowBench$Board" "STEP_Y" "[I", .methodLink RX9 230 yX9_ghostNumber, .static yX9_ghostNumber, .initialized RX9]]
set_option maxRecDepth 20000 in
theorem chX9_ghostNumber_in : ∀ c ∈ chX9_ghostNumber, ∀ w ∈ c, w ∈ wsX9_ghostNumber := (all_c (P := fun c => ∀ w ∈ c, w ∈ wsX9_ghostNumber) (fun w h => List.mem_cons_of_mem _ (h)) (fun _ h => nomatch h))
set_option maxRecDepth 20000 in
theorem gX9_ghostNumber_X9_ghostNumber : GoodIn wsX9_ghostNumber (va_wsS RX9 230 yX9_ghostNumber wsX9_ghostNumber) := goodIn_app (goodIn_c chX9_ghostNumber chX9_ghostNumber_in _ [(0, 2), (0, 3), (0, 4)] (by rfl) (by decide +kernel)) ggX9_ghostNumber_X9_ghostNumber
theorem dX9_ghostNumber_0 : decode cX9_ghostNumber 0 = .ok (.iload_n 1, 1) := by decide +kernel
theorem dX9_ghostNumber_1 : decode cX9_ghostNumber 1 = .ok (.ifCond .lt 8, 3) := by decide +kernel
theorem dX9_ghostNumber_4 : decode cX9_ghostNumber 4 = .ok (.iload_n 1, 1) := by decide +kernel
theorem dX9_ghostNumber_5 : decode cX9_ghostNumber 5 = .ok (.iconst 4, 1) := by decide +kernel
theorem dX9_ghostNumber_6 : decode cX9_ghostNumber 6 = .ok (.if_icmp .lt 17, 3) := by decide +kernel
theorem dX9_ghostNumber_9 : decode cX9_ghostNumber 9 = .ok (.iload_n 2, 1) := by decide +kernel
theorem dX9_ghostNumber_10 : decode cX9_ghostNumber 10 = .ok (.ifCond .ne 11, 3) := by decide +kernel
theorem dX9_ghostNumber_13 : decode cX9_ghostNumber 13 = .ok (.iload_n 3, 1) := by decide +kernel
theorem dX9_ghostNumber_14 : decode cX9_ghostNumber 14 = .ok (.ifCond .ne 7, 3) := by decide +kernel
theorem dX9_ghostNumber_17 : decode cX9_ghostNumber 17 = .ok (.iconst 1, 1) := by decide +kernel
theorem dX9_ghostNumber_18 : decode cX9_ghostNumber 18 = .ok (.goto 4, 3) := by decide +kernel
theorem dX9_ghostNumber_21 : decode cX9_ghostNumber 21 = .ok (.iconst 0, 1) := by decide +kernel
theorem dX9_ghostNumber_22 : decode cX9_ghostNumber 22 = .ok (.ireturn, 1) := by decide +kernel
theorem dX9_ghostNumber_23 : decode cX9_ghostNumber 23 = .ok (.iload_n 0, 1) := by decide +kernel
theorem dX9_ghostNumber_24 : decode cX9_ghostNumber 24 = .ok (.iload_n 1, 1) := by decide +kernel
theorem dX9_ghostNumber_25 : decode cX9_ghostNumber 25 = .ok (.iconst 1, 1) := by decide +kernel
theorem dX9_ghostNumber_26 : decode cX9_ghostNumber 26 = .ok (.isub, 1) := by decide +kernel
theorem dX9_ghostNumber_27 : decode cX9_ghostNumber 27 = .ok (.iload_n 2, 1) := by decide +kernel
theorem dX9_ghostNumber_28 : decode cX9_ghostNumber 28 = .ok (.iload_n 3, 1) := by decide +kernel
theorem dX9_ghostNumber_29 : decode cX9_ghostNumber 29 = .ok (.invokestatic 230, 3) := by decide +kernel
theorem dX9_ghostNumber_32 : decode cX9_ghostNumber 32 = .ok (.istore 4, 2) := by decide +kernel
theorem dX9_ghostNumber_34 : decode cX9_ghostNumber 34 = .ok (.iload_n 0, 1) := by decide +kernel
theorem dX9_ghostNumber_35 : decode cX9_ghostNumber 35 = .ok (.iload_n 1, 1) := by decide +kernel
theorem dX9_ghostNumber_36 : decode cX9_ghostNumber 36 = .ok (.ishr, 1) := by decide +kernel
theorem dX9_ghostNumber_37 : decode cX9_ghostNumber 37 = .ok (.iconst 1, 1) := by decide +kernel
theorem dX9_ghostNumber_38 : decode cX9_ghostNumber 38 = .ok (.iand, 1) := by decide +kernel
theorem dX9_ghostNumber_39 : decode cX9_ghostNumber 39 = .ok (.ifCond .ne 6, 3) := by decide +kernel
theorem dX9_ghostNumber_42 : decode cX9_ghostNumber 42 = .ok (.iload 4, 2) := by decide +kernel
theorem dX9_ghostNumber_44 : decode cX9_ghostNumber 44 = .ok (.ireturn, 1) := by decide +kernel
theorem dX9_ghostNumber_45 : decode cX9_ghostNumber 45 = .ok (.iload 4, 2) := by decide +kernel
theorem dX9_ghostNumber_47 : decode cX9_ghostNumber 47 = .ok (.iload_n 0, 1) := by decide +kernel
theorem dX9_ghostNumber_48 : decode cX9_ghostNumber 48 = .ok (.iload_n 1, 1) := by decide +kernel
theorem dX9_ghostNumber_49 : decode cX9_ghostNumber 49 = .ok (.iconst 1, 1) := by decide +kernel
theorem dX9_ghostNumber_50 : decode cX9_ghostNumber 50 = .ok (.isub, 1) := by decide +kernel
theorem dX9_ghostNumber_51 : decode cX9_ghostNumber 51 = .ok (.iload_n 2, 1) := by decide +kernel
theorem dX9_ghostNumber_52 : decode cX9_ghostNumber 52 = .ok (.getstatic 309, 3) := by decide +kernel
theorem dX9_ghostNumber_55 : decode cX9_ghostNumber 55 = .ok (.iload_n 1, 1) := by decide +kernel
theorem dX9_ghostNumber_56 : decode cX9_ghostNumber 56 = .ok (.iaload, 1) := by decide +kernel
theorem dX9_ghostNumber_57 : decode cX9_ghostNumber 57 = .ok (.isub, 1) := by decide +kernel
theorem dX9_ghostNumber_58 : decode cX9_ghostNumber 58 = .ok (.iload_n 3, 1) := by decide +kernel
theorem dX9_ghostNumber_59 : decode cX9_ghostNumber 59 = .ok (.getstatic 313, 3) := by decide +kernel
theorem dX9_ghostNumber_62 : decode cX9_ghostNumber 62 = .ok (.iload_n 1, 1) := by decide +kernel
theorem dX9_ghostNumber_63 : decode cX9_ghostNumber 63 = .ok (.iaload, 1) := by decide +kernel
theorem dX9_ghostNumber_64 : decode cX9_ghostNumber 64 = .ok (.isub, 1) := by decide +kernel
theorem dX9_ghostNumber_65 : decode cX9_ghostNumber 65 = .ok (.invokestatic 230, 3) := by decide +kernel
theorem dX9_ghostNumber_68 : decode cX9_ghostNumber 68 = .ok (.isub, 1) := by decide +kernel
theorem dX9_ghostNumber_69 : decode cX9_ghostNumber 69 = .ok (.ireturn, 1) := by decide +kernel
set_option maxRecDepth 20000 in
theorem ggX9_ghostPlaces_X9_isGhostSet : GoodIn wsX9_ghostPlaces wsX9_isGhostSet := goodIn_r _ [10] (by decide +kernel) (by decide +kernel)
def chX9_ghostPlaces : List (List Cond) := [wsX9_ghostPlaces_r1, wsX9_ghostPlaces_r2, wsX9_ghostPlaces_r3, wsX90, wsX00]
set_option maxRecDepth 20000 in
theorem chX9_ghostPlaces_in : ∀ c ∈ chX9_ghostPlaces, ∀ w ∈ c, w ∈ wsX9_ghostPlaces := (all_c (P := fun c => ∀ w ∈ c, w ∈ wsX9_ghostPlaces) (fun w h => List.mem_cons_of_mem _ (List.mem_append_left _ (List.mem_append_left _ (List.mem_append_left _ (h))))) (all_c (P := fun c => ∀ w ∈ c, w ∈ wsX9_ghostPlaces) (fun w h => List.mem_cons_of_mem _ (List.mem_append_left _ (List.mem_append_left _ (List.mem_append_right _ (List.mem_append_left _ (h)))))) (all_c (P := fun c => ∀ w ∈ c, w ∈ wsX9_ghostPlaces) (fun w h => List.mem_cons_of_mem _ (List.mem_append_left _ (List.mem_append_left _ (List.mem_append_right _ (List.mem_append_right _ (h)))))) (all_c (P := fun c => ∀ w ∈ c, w ∈ wsX9_ghostPlaces) (fun w h => List.mem_cons_of_mem _ (List.mem_append_left _ (List.mem_append_right _ (h)))) (all_c (P := fun c => ∀ w ∈ c, w ∈ wsX9_ghostPlaces) (fun w h => List.mem_cons_of_mem _ (List.mem_append_right _ (h))) (fun _ h => nomatch h))))))
set_option maxRecDepth 20000 in
theorem gX9_ghostPlaces_X9_isGhostSet : GoodIn wsX9_ghostPlaces (va_wsS RX9 220 yX9_isGhostSet wsX9_isGhostSet) := goodIn_app (goodIn_c chX9_ghostPlaces chX9_ghostPlaces_in _ [(0, 6), (0, 7), (0, 8)] (by rfl) (by decide +kernel)) ggX9_ghostPlaces_X9_isGhostSet
set_option maxRecDepth 20000 in
theorem ggX9_ghostPlaces_X9_boardOf : GoodIn wsX9_ghostPlaces wsX9_boardOf := goodIn_ca (goodIn_ca (goodIn_c chX9_ghostPlaces chX9_ghostPlaces_in _ [(0, 13), (0, 14), (0, 15), (0, 16), (0, 17), (0, 18), (0, 19), (0, 20), (0, 21), (0, 22), (0, 23), (1, 0), (1, 1), (1, 2), (1, 3), (1, 4), (1, 5), (1, 6), (1, 7), (1, 8), (1, 9), (1, 10), (1, 11), (1, 12), (1, 13), (1, 14), (1, 15), (1, 16), (1, 17), (1, 18), (1, 19), (1, 20), (1, 21), (1, 22), (1, 23), (2, 0), (2, 1), (2, 2), (2, 3), (2, 4), (2, 5), (2, 6), (2, 7)] (by rfl) (by decide +kernel)) (goodIn_sub (fun _ h => List.mem_cons_of_mem _ (List.mem_append_left _ (List.mem_append_right _ (h)))) (by decide +kernel))) (goodIn_sub (fun _ h => List.mem_cons_of_mem _ (List.mem_append_right _ (h))) (by decide +kernel))
set_option maxRecDepth 20000 in
theorem gX9_ghostPlaces_X9_boardOf : GoodIn wsX9_ghostPlaces (wsV RX9 53 RX9 yX9_boardOf wsX9_boardOf) := goodIn_app (goodIn_c chX9_ghostPlaces chX9_ghostPlaces_in _ [(0, 10), (0, 11), (0, 12), (0, 8)] (by rfl) (by decide +kernel)) ggX9_ghostPlaces_X9_boardOf
theorem dX9_ghostPlaces_0 : decode cX9_ghostPlaces 0 = .ok (.iload_n 1, 1) := by decide +kernel
theorem dX9_ghostPlaces_1 : decode cX9_ghostPlaces 1 = .ok (.invokestatic 220, 3) := by decide +kernel
theorem dX9_ghostPlaces_4 : decode cX9_ghostPlaces 4 = .ok (.ifCond .eq 12, 3) := by decide +kernel
theorem dX9_ghostPlaces_7 : decode cX9_ghostPlaces 7 = .ok (.aload_n 0, 1) := by decide +kernel
theorem dX9_ghostPlaces_8 : decode cX9_ghostPlaces 8 = .ok (.iload_n 2, 1) := by decide +kernel
theorem dX9_ghostPlaces_9 : decode cX9_ghostPlaces 9 = .ok (.iload_n 3, 1) := by decide +kernel
theorem dX9_ghostPlaces_10 : decode cX9_ghostPlaces 10 = .ok (.invokevirtual 53, 3) := by decide +kernel
theorem dX9_ghostPlaces_13 : decode cX9_ghostPlaces 13 = .ok (.ifnonnull 5, 3) := by decide +kernel
theorem dX9_ghostPlaces_16 : decode cX9_ghostPlaces 16 = .ok (.iconst (-1), 1) := by decide +kernel
theorem dX9_ghostPlaces_17 : decode cX9_ghostPlaces 17 = .ok (.ireturn, 1) := by decide +kernel
theorem dX9_ghostPlaces_18 : decode cX9_ghostPlaces 18 = .ok (.iload_n 2, 1) := by decide +kernel
theorem dX9_ghostPlaces_19 : decode cX9_ghostPlaces 19 = .ok (.istore 4, 2) := by decide +kernel
theorem dX9_ghostPlaces_21 : decode cX9_ghostPlaces 21 = .ok (.iload_n 3, 1) := by decide +kernel
theorem dX9_ghostPlaces_22 : decode cX9_ghostPlaces 22 = .ok (.istore 5, 2) := by decide +kernel
theorem dX9_ghostPlaces_24 : decode cX9_ghostPlaces 24 = .ok (.iconst 0, 1) := by decide +kernel
theorem dX9_ghostPlaces_25 : decode cX9_ghostPlaces 25 = .ok (.istore 6, 2) := by decide +kernel
theorem dX9_ghostPlaces_27 : decode cX9_ghostPlaces 27 = .ok (.iload 6, 2) := by decide +kernel
theorem dX9_ghostPlaces_29 : decode cX9_ghostPlaces 29 = .ok (.iconst 4, 1) := by decide +kernel
theorem dX9_ghostPlaces_30 : decode cX9_ghostPlaces 30 = .ok (.if_icmp .ge 47, 3) := by decide +kernel
theorem dX9_ghostPlaces_33 : decode cX9_ghostPlaces 33 = .ok (.iload_n 1, 1) := by decide +kernel
theorem dX9_ghostPlaces_34 : decode cX9_ghostPlaces 34 = .ok (.iload 6, 2) := by decide +kernel
theorem dX9_ghostPlaces_36 : decode cX9_ghostPlaces 36 = .ok (.ishr, 1) := by decide +kernel
theorem dX9_ghostPlaces_37 : decode cX9_ghostPlaces 37 = .ok (.iconst 1, 1) := by decide +kernel
theorem dX9_ghostPlaces_38 : decode cX9_ghostPlaces 38 = .ok (.iand, 1) := by decide +kernel
theorem dX9_ghostPlaces_39 : decode cX9_ghostPlaces 39 = .ok (.iconst 1, 1) := by decide +kernel
theorem dX9_ghostPlaces_40 : decode cX9_ghostPlaces 40 = .ok (.if_icmp .ne 31, 3) := by decide +kernel
theorem dX9_ghostPlaces_43 : decode cX9_ghostPlaces 43 = .ok (.iload 4, 2) := by decide +kernel
theorem dX9_ghostPlaces_45 : decode cX9_ghostPlaces 45 = .ok (.getstatic 309, 3) := by decide +kernel
theorem dX9_ghostPlaces_48 : decode cX9_ghostPlaces 48 = .ok (.iload 6, 2) := by decide +kernel
theorem dX9_ghostPlaces_50 : decode cX9_ghostPlaces 50 = .ok (.iaload, 1) := by decide +kernel
theorem dX9_ghostPlaces_51 : decode cX9_ghostPlaces 51 = .ok (.invokestatic 316, 3) := by decide +kernel
theorem dX9_ghostPlaces_54 : decode cX9_ghostPlaces 54 = .ok (.isub, 1) := by decide +kernel
theorem dX9_ghostPlaces_55 : decode cX9_ghostPlaces 55 = .ok (.istore 4, 2) := by decide +kernel
theorem dX9_ghostPlaces_57 : decode cX9_ghostPlaces 57 = .ok (.iload 5, 2) := by decide +kernel
theorem dX9_ghostPlaces_59 : decode cX9_ghostPlaces 59 = .ok (.getstatic 313, 3) := by decide +kernel
theorem dX9_ghostPlaces_62 : decode cX9_ghostPlaces 62 = .ok (.iload 6, 2) := by decide +kernel
theorem dX9_ghostPlaces_64 : decode cX9_ghostPlaces 64 = .ok (.iaload, 1) := by decide +kernel
theorem dX9_ghostPlaces_65 : decode cX9_ghostPlaces 65 = .ok (.invokestatic 316, 3) := by decide +kernel
theorem dX9_ghostPlaces_68 : decode cX9_ghostPlaces 68 = .ok (.isub, 1) := by decide +kernel
theorem dX9_ghostPlaces_69 : decode cX9_ghostPlaces 69 = .ok (.istore 5, 2) := by decide +kernel
theorem dX9_ghostPlaces_71 : decode cX9_ghostPlaces 71 = .ok (.iinc 6 1, 3) := by decide +kernel
theorem dX9_ghostPlaces_74 : decode cX9_ghostPlaces 74 = .ok (.goto (-47), 3) := by decide +kernel
theorem dX9_ghostPlaces_77 : decode cX9_ghostPlaces 77 = .ok (.iload 4, 2) := by decide +kernel
theorem dX9_ghostPlaces_79 : decode cX9_ghostPlaces 79 = .ok (.ifCond .le 16, 3) := by decide +kernel
theorem dX9_ghostPlaces_82 : decode cX9_ghostPlaces 82 = .ok (.iload 5, 2) := by decide +kernel
theorem dX9_ghostPlaces_84 : decode cX9_ghostPlaces 84 = .ok (.ifCond .le 11, 3) := by decide +kernel
theorem dX9_ghostPlaces_87 : decode cX9_ghostPlaces 87 = .ok (.iload 4, 2) := by decide +kernel
theorem dX9_ghostPlaces_89 : decode cX9_ghostPlaces 89 = .ok (.iload 5, 2) := by decide +kernel
theorem dX9_ghostPlaces_91 : decode cX9_ghostPlaces 91 = .ok (.imul, 1) := by decide +kernel
theorem dX9_ghostPlaces_92 : decode cX9_ghostPlaces 92 = .ok (.goto 4, 3) := by decide +kernel
theorem dX9_ghostPlaces_95 : decode cX9_ghostPlaces 95 = .ok (.iconst 0, 1) := by decide +kernel
theorem dX9_ghostPlaces_96 : decode cX9_ghostPlaces 96 = .ok (.ireturn, 1) := by decide +kernel
