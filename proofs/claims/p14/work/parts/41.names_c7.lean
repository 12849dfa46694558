abbrev cX9_far : ByteArray := prog_1_method_20_code
def yX9_far : MethodName := ⟨RX9, "far", "(IIJJ)I"⟩
def wsX9_far_r1 : List Cond := [Cond.fieldLink RX9 38 "ShadowBench" "meetings" "LShadowBench$Meetings;", Cond.classLink RX9 187 RX6, Cond.instantiable RX6 3, Cond.initialized RX6, Cond.methodLink RX9 53 yX9_boardOf, Cond.instanceMethod yX9_boardOf, Cond.selects RX9 yX9_boardOf yX9_boardOf, Cond.initialized RX9, Cond.code yX9_boardOf cX9_boardOf 4 (some (.object "ShadowBench$Board")), Cond.fieldLink RX9 9 "ShadowBench" "boards" "[LShadowBench$Board;", Cond.classLink RX9 7 RX0, Cond.instantiable RX0 8, Cond.initialized RX0, Cond.methodLink RX9 290 yX0_init, Cond.instanceMethod yX0_init, Cond.code yX0_init cX0_init 3 none, Cond.methodLink RX0 1 objectInit, Cond.instanceMethod objectInit, Cond.code objectInit ⟨#[0xb1]⟩ 1 none, Cond.arrayClass .long, Cond.fieldLink RX0 9 "ShadowBench$Board" "lines" "[J", Cond.fieldLink RX0 13 "ShadowBench$Board" "wide" "I", Cond.fieldLink RX0 17 "ShadowBench$Board" "high" "I", Cond.fieldLink RX0 20 "ShadowBench$Board" "squares" "I"]
def wsX9_far_r2 : List Cond := [Cond.fieldLink RX0 23 "ShadowBench$Board" "rowNumbers" "I", Cond.fieldLink RX0 30 "ShadowBench$Board" "fours" "I", Cond.fieldLink RX0 33 "ShadowBench$Board" "falling" "[J", Cond.fieldLink RX0 36 "ShadowBench$Board" "rising" "[J", Cond.methodLink RX0 26 yX0_pairsOf, Cond.static yX0_pairsOf, Cond.code yX0_pairsOf cX0_pairsOf 1 (some .int), Cond.methodLink RX0 39 yX0_drawLines, Cond.instanceMethod yX0_drawLines, Cond.selects RX0 yX0_drawLines yX0_drawLines, Cond.code yX0_drawLines cX0_drawLines 4 none, Cond.methodLink RX0 45 yX0_lineThrough, Cond.instanceMethod yX0_lineThrough, Cond.selects RX0 yX0_lineThrough yX0_lineThrough, Cond.code yX0_lineThrough cX0_lineThrough 4 (some .int), Cond.methodLink RX0 49 yX0_bit, Cond.instanceMethod yX0_bit, Cond.selects RX0 yX0_bit yX0_bit, Cond.code yX0_bit cX0_bit 3 (some .long), Cond.methodLink RX0 42 yX0_drawFours, Cond.instanceMethod yX0_drawFours, Cond.selects RX0 yX0_drawFours yX0_drawFours, Cond.code yX0_drawFours cX0_drawFours 4 none, Cond.methodLink RX0 53 yX0_drawFoursOfRows]
def wsX9_far_r3 : List Cond := [Cond.instanceMethod yX0_drawFoursOfRows, Cond.selects RX0 yX0_drawFoursOfRows yX0_drawFoursOfRows, Cond.code yX0_drawFoursOfRows cX0_drawFoursOfRows 7 (some .int), Cond.methodLink RX9 80 yX0_isPicture, Cond.instanceMethod yX0_isPicture, Cond.selects RX0 yX0_isPicture yX0_isPicture, Cond.code yX0_isPicture cX0_isPicture 3 (some .boolean), Cond.methodLink RX9 183 yX0_firstUnlikeWay, Cond.instanceMethod yX0_firstUnlikeWay, Cond.selects RX0 yX0_firstUnlikeWay yX0_firstUnlikeWay, Cond.code yX0_firstUnlikeWay cX0_firstUnlikeWay 7 (some .int), Cond.methodLink RX0 65 yX0_hasUnlikeLine, Cond.instanceMethod yX0_hasUnlikeLine, Cond.selects RX0 yX0_hasUnlikeLine yX0_hasUnlikeLine, Cond.code yX0_hasUnlikeLine cX0_hasUnlikeLine 7 (some .boolean), Cond.methodLink RX0 56 yX0_lineCount, Cond.instanceMethod yX0_lineCount, Cond.selects RX0 yX0_lineCount yX0_lineCount, Cond.code yX0_lineCount cX0_lineCount 2 (some .int), Cond.methodLink RX0 69 yX0_onesOfLine, Cond.instanceMethod yX0_onesOfLine, Cond.selects RX0 yX0_onesOfLine yX0_onesOfLine, Cond.code yX0_onesOfLine cX0_onesOfLine 6 (some .int), Cond.methodLink RX0 59 yJ13_bitCount_95d88]
def wsX9_far_r4 : List Cond := [Cond.static yJ13_bitCount_95d88, Cond.initialized RJ13, Cond.code yJ13_bitCount_95d88 cJ13_bitCount_95d88 2 (some .int), Cond.constantLong RJ13 314 (6148914691236517205), Cond.constantLong RJ13 316 (3689348814741910323), Cond.constantLong RJ13 318 (1085102592571150095), Cond.instanceMethod yX6_init, Cond.code yX6_init cX6_init 1 none, Cond.methodLink RX6 5 objectInit, Cond.fieldLink RX6 11 "ShadowBench$Meetings" "met" "[J", Cond.fieldLink RX6 15 "ShadowBench$Meetings" "size" "I", Cond.constant RX6 19 (32768), Cond.arrayClass .int, Cond.fieldLink RX6 20 "ShadowBench$Meetings" "slots" "[I", Cond.methodLink RX9 190 yX6_fewestSwitches, Cond.instanceMethod yX6_fewestSwitches, Cond.selects RX6 yX6_fewestSwitches yX6_fewestSwitches, Cond.code yX6_fewestSwitches cX6_fewestSwitches 10 (some .int), Cond.methodLink RX6 24 yJ7_fill_53178, Cond.static yJ7_fill_53178, Cond.initialized RJ7, Cond.code yJ7_fill_53178 cJ7_fill_53178 4 none, Cond.methodLink RX6 30 yX6_meet, Cond.instanceMethod yX6_meet]
def wsX9_far_r5 : List Cond := [Cond.selects RX6 yX6_meet yX6_meet, Cond.code yX6_meet cX6_meet 4 (some .boolean), Cond.methodLink RX6 50 yX6_slotFor, Cond.instanceMethod yX6_slotFor, Cond.selects RX6 yX6_slotFor yX6_slotFor, Cond.code yX6_slotFor cX6_slotFor 5 (some .int), Cond.constantLong RX6 54 (-7046029254386353131), Cond.methodLink RX6 56 yX6_isTakenByOther, Cond.instanceMethod yX6_isTakenByOther, Cond.selects RX6 yX6_isTakenByOther yX6_isTakenByOther, Cond.code yX6_isTakenByOther cX6_isTakenByOther 5 (some .boolean), Cond.methodLink RX6 34 yX6_meetNeighbours, Cond.instanceMethod yX6_meetNeighbours, Cond.selects RX6 yX6_meetNeighbours yX6_meetNeighbours, Cond.code yX6_meetNeighbours cX6_meetNeighbours 7 (some .boolean), Cond.fieldLink RX6 41 "ShadowBench$Board" "fours" "I", Cond.methodLink RX6 46 yX0_behindFour, Cond.instanceMethod yX0_behindFour, Cond.selects RX0 yX0_behindFour yX0_behindFour, Cond.code yX0_behindFour cX0_behindFour 9 (some .long), Cond.methodLink RX6 38 yX6_knows, Cond.instanceMethod yX6_knows, Cond.selects RX6 yX6_knows yX6_knows, Cond.code yX6_knows cX6_knows 3 (some .boolean)]
def wsX9_far : List Cond := .code yX9_far cX9_far 8 (some .int) :: ((wsX9_far_r1 ++ (wsX9_far_r2 ++ (wsX9_far_r3 ++ (wsX9_far_r4 ++ wsX9_far_r5)))) ++ wsX90 ++ wsX60 ++ wsX00)
def chX9_far : List (List Cond) := [wsX9_far_r1, wsX9_far_r2, wsX9_far_r3, wsX9_far_r4, wsX9_far_r5, wsX90, wsX60, wsX00]
set_option maxRecDepth 20000 in
theorem chX9_far_in : ∀ c ∈ chX9_far, ∀ w ∈ c, w ∈ wsX9_far := (all_c (P := fun c => ∀ w ∈ c, w ∈ wsX9_far) (fun w h => List.mem_cons_of_mem _ (List.mem_append_left _ (List.mem_append_left _ (List.mem_append_left _ (List.mem_append_left _ (h)))))) (all_c (P := fun c => ∀ w ∈ c, w ∈ wsX9_far) (fun w h => List.mem_cons_of_mem _ (List.mem_append_left _ (List.mem_append_left _ (List.mem_append_left _ (List.mem_append_right _ (List.mem_append_left _ (h))))))) (all_c (P := fun c => ∀ w ∈ c, w ∈ wsX9_far) (fun w h => List.mem_cons_of_mem _ (List.mem_append_left _ (List.mem_append_left _ (List.mem_append_left _ (List.mem_append_right _ (List.mem_append_right _ (List.mem_append_left _ (h)))))))) (all_c (P := fun c => ∀ w ∈ c, w ∈ wsX9_far) (fun w h => List.mem_cons_of_mem _ (List.mem_append_left _ (List.mem_append_left _ (List.mem_append_left _ (List.mem_append_right _ (List.mem_append_right _ (List.mem_append_right _ (List.mem_append_left _ (h))))))))) (all_c (P := fun c => ∀ w ∈ c, w ∈ wsX9_far) (fun w h => List.mem_cons_of_mem _ (List.mem_append_left _ (List.mem_append_left _ (List.mem_append_left _ (List.mem_append_right _ (List.mem_append_right _ (List.mem_append_right _ (List.mem_append_right _ (h))))))))) (all_c (P := fun c => ∀ w ∈ c, w ∈ wsX9_far) (fun w h => List.mem_cons_of_mem _ (List.mem_append_left _ (List.mem_append_left _ (List.mem_append_right _ (h))))) (all_c (P := fun c => ∀ w ∈ c, w ∈ wsX9_far) (fun w h => List.mem_cons_of_mem _ (List.mem_append_left _ (List.mem_append_right _ (h)))) (all_c (P := fun c => ∀ w ∈ c, w ∈ wsX9_far) (fun w h => List.mem_cons_of_mem _ (List.mem_append_right _ (h))) (fun _ h => nomatch h)))))))))
set_option maxRecDepth 20000 in
theorem ggX9_far_X9_boardOf : GoodIn wsX9_far wsX9_boardOf := goodIn_ca (goodIn_ca (goodIn_c chX9_far chX9_far_in _ [(0, 8), (0, 9), (0, 10), (0, 11), (0, 12), (0, 13), (0, 14), (0, 15), (0, 16), (0, 17), (0, 18), (0, 19), (0, 20), (0, 21), (0, 22), (0, 23), (1, 0), (1, 1), (1, 2), (1, 3), (1, 4), (1, 5), (1, 6), (1, 7), (1, 8), (1, 9), (1, 10), (1, 11), (1, 12), (1, 13), (1, 14), (1, 15), (1, 16), (1, 17), (1, 18), (1, 19), (1, 20), (1, 21), (1, 22), (1, 23), (2, 0), (2, 1), (2, 2)] (by rfl) (by decide +kernel)) (goodIn_sub (fun _ h => List.mem_cons_of_mem _ (List.mem_append_left _ (List.mem_append_left _ (List.mem_append_right _ (h))))) (by decide +kernel))) (goodIn_sub (fun _ h => List.mem_cons_of_mem _ (List.mem_append_right _ (h))) (by decide +kernel))
set_option maxRecDepth 20000 in
theorem gX9_far_X9_boardOf : GoodIn wsX9_far (wsV RX9 53 RX9 yX9_boardOf wsX9_boardOf) := goodIn_app (goodIn_c chX9_far chX9_far_in _ [(0, 4), (0, 5), (0, 6), (0, 7)] (by rfl) (by decide +kernel)) ggX9_far_X9_boardOf
set_option maxRecDepth 20000 in
theorem ggX9_far_X0_isPicture : GoodIn wsX9_far wsX0_isPicture := goodIn_ca (goodIn_c chX9_far chX9_far_in _ [(2, 6), (0, 23)] (by rfl) (by decide +kernel)) (goodIn_sub (fun _ h => List.mem_cons_of_mem _ (List.mem_append_right _ (h))) (by decide +kernel))
set_option maxRecDepth 20000 in
theorem gX9_far_X0_isPicture : GoodIn wsX9_far (wsV RX9 80 RX0 yX0_isPicture wsX0_isPicture) := goodIn_app (goodIn_c chX9_far chX9_far_in _ [(2, 3), (2, 4), (2, 5), (0, 12)] (by rfl) (by decide +kernel)) ggX9_far_X0_isPicture
set_option maxRecDepth 20000 in
theorem ggX9_far_X0_firstUnlikeWay : GoodIn wsX9_far wsX0_firstUnlikeWay := goodIn_ca (goodIn_c chX9_far chX9_far_in _ [(2, 10), (2, 11), (2, 12), (2, 13), (0, 12), (2, 14), (2, 15), (2, 16), (2, 17), (2, 18), (0, 22), (0, 21), (2, 19), (2, 20), (2, 21), (2, 22), (0, 20), (2, 23), (3, 0), (3, 1), (3, 2), (3, 3), (3, 4), (3, 5)] (by rfl) (by decide +kernel)) (goodIn_sub (fun _ h => List.mem_cons_of_mem _ (List.mem_append_right _ (h))) (by decide +kernel))
set_option maxRecDepth 20000 in
theorem gX9_far_X0_firstUnlikeWay : GoodIn wsX9_far (wsV RX9 183 RX0 yX0_firstUnlikeWay wsX0_firstUnlikeWay) := goodIn_app (goodIn_c chX9_far chX9_far_in _ [(2, 7), (2, 8), (2, 9), (0, 12)] (by rfl) (by decide +kernel)) ggX9_far_X0_firstUnlikeWay
set_option maxRecDepth 20000 in
theorem ggX9_far_X6_init : GoodIn wsX9_far wsX6_init := goodIn_ca (goodIn_c chX9_far chX9_far_in _ [(3, 7), (3, 8), (0, 17), (0, 18), (0, 19), (3, 9), (3, 10), (3, 11), (3, 12), (3, 13)] (by rfl) (by decide +kernel)) (goodIn_sub (fun _ h => List.mem_cons_of_mem _ (List.mem_append_left _ (List.mem_append_right _ (h)))) (by decide +kernel))
set_option maxRecDepth 20000 in
theorem gX9_far_X6_init_n189 : GoodIn wsX9_far (wsX6_init) := ggX9_far_X6_init
set_option maxRecDepth 20000 in
theorem ggX9_far_X6_fewestSwitches : GoodIn wsX9_far wsX6_fewestSwitches := goodIn_ca (goodIn_ca (goodIn_c chX9_far chX9_far_in _ [(3, 17), (3, 13), (3, 10), (3, 9), (3, 18), (3, 19), (3, 20), (3, 21), (3, 22), (3, 23), (4, 0), (0, 3), (4, 1), (4, 2), (4, 3), (4, 4), (4, 5), (4, 6), (3, 11), (4, 7), (4, 8), (4, 9), (4, 10), (4, 11), (4, 12), (4, 13), (4, 14), (4, 15), (4, 16), (4, 17), (4, 18), (0, 12), (4, 19), (1, 1), (1, 2), (1, 3), (4, 20), (4, 21), (4, 22), (4, 23)] (by rfl) (by decide +kernel)) (goodIn_sub (fun _ h => List.mem_cons_of_mem _ (List.mem_append_left _ (List.mem_append_right _ (h)))) (by decide +kernel))) (goodIn_sub (fun _ h => List.mem_cons_of_mem _ (List.mem_append_right _ (h))) (by decide +kernel))
set_option maxRecDepth 20000 in
theorem gX9_far_X6_fewestSwitches : GoodIn wsX9_far (wsV RX9 190 RX6 yX6_fewestSwitches wsX6_fewestSwitches) := goodIn_app (goodIn_c chX9_far chX9_far_in _ [(3, 14), (3, 15), (3, 16), (0, 3)] (by rfl) (by decide +kernel)) ggX9_far_X6_fewestSwitches
theorem dX9_far_0 : decode cX9_far 0 = .ok (.aload_n 0, 1) := by decide +kernel
theorem dX9_far_1 : decode cX9_far 1 = .ok (.iload_n 1, 1) := by decide +kernel
theorem dX9_far_2 : decode cX9_far 2 = .ok (.iload_n 2, 1) := by decide +kernel
theorem dX9_far_3 : decode cX9_far 3 = .ok (.invokevirtual 53, 3) := by decide +kernel
theorem dX9_far_6 : decode cX9_far 6 = .ok (.astore 7, 2) := by decide +kernel
theorem dX9_far_8 : decode cX9_far 8 = .ok (.aload 7, 2) := by decide +kernel
theorem dX9_far_10 : decode cX9_far 10 = .ok (.ifnull 22, 3) := by decide +kernel
theorem dX9_far_13 : decode cX9_far 13 = .ok (.aload 7, 2) := by decide +kernel
theorem dX9_far_15 : decode cX9_far 15 = .ok (.lload_n 3, 1) := by decide +kernel
theorem dX9_far_16 : decode cX9_far 16 = .ok (.invokevirtual 80, 3) := by decide +kernel
theorem dX9_far_19 : decode cX9_far 19 = .ok (.ifCond .eq 13, 3) := by decide +kernel
theorem dX9_far_22 : decode cX9_far 22 = .ok (.aload 7, 2) := by decide +kernel
theorem dX9_far_24 : decode cX9_far 24 = .ok (.lload 5, 2) := by decide +kernel
theorem dX9_far_26 : decode cX9_far 26 = .ok (.invokevirtual 80, 3) := by decide +kernel
theorem dX9_far_29 : decode cX9_far 29 = .ok (.ifCond .ne 5, 3) := by decide +kernel
theorem dX9_far_32 : decode cX9_far 32 = .ok (.iconst (-1), 1) := by decide +kernel
theorem dX9_far_33 : decode cX9_far 33 = .ok (.ireturn, 1) := by decide +kernel
theorem dX9_far_34 : decode cX9_far 34 = .ok (.aload 7, 2) := by decide +kernel
theorem dX9_far_36 : decode cX9_far 36 = .ok (.lload_n 3, 1) := by decide +kernel
theorem dX9_far_37 : decode cX9_far 37 = .ok (.lload 5, 2) := by decide +kernel
theorem dX9_far_39 : decode cX9_far 39 = .ok (.iconst 3, 1) := by decide +kernel
theorem dX9_far_40 : decode cX9_far 40 = .ok (.invokevirtual 183, 3) := by decide +kernel
theorem dX9_far_43 : decode cX9_far 43 = .ok (.ifCond .lt 6, 3) := by decide +kernel
theorem dX9_far_46 : decode cX9_far 46 = .ok (.bipush (-2), 2) := by decide +kernel
theorem dX9_far_48 : decode cX9_far 48 = .ok (.ireturn, 1) := by decide +kernel
theorem dX9_far_49 : decode cX9_far 49 = .ok (.lload_n 3, 1) := by decide +kernel
theorem dX9_far_50 : decode cX9_far 50 = .ok (.lload 5, 2) := by decide +kernel
theorem dX9_far_52 : decode cX9_far 52 = .ok (.lcmp, 1) := by decide +kernel
theorem dX9_far_53 : decode cX9_far 53 = .ok (.ifCond .ne 5, 3) := by decide +kernel
theorem dX9_far_56 : decode cX9_far 56 = .ok (.iconst 0, 1) := by decide +kernel
theorem dX9_far_57 : decode cX9_far 57 = .ok (.ireturn, 1) := by decide +kernel
theorem dX9_far_58 : decode cX9_far 58 = .ok (.aload_n 0, 1) := by decide +kernel
theorem dX9_far_59 : decode cX9_far 59 = .ok (.getfield 38, 3) := by decide +kernel
theorem dX9_far_62 : decode cX9_far 62 = .ok (.ifnonnull 14, 3) := by decide +kernel
theorem dX9_far_65 : decode cX9_far 65 = .ok (.aload_n 0, 1) := by decide +kernel
theorem dX9_far_66 : decode cX9_far 66 = .ok (.new 187, 3) := by decide +kernel
theorem dX9_far_69 : decode cX9_far 69 = .ok (.dup, 1) := by decide +kernel
theorem dX9_far_70 : decode cX9_far 70 = .ok (.invokespecial 189, 3) := by decide +kernel
theorem dX9_far_73 : decode cX9_far 73 = .ok (.putfield 38, 3) := by decide +kernel
theorem dX9_far_76 : decode cX9_far 76 = .ok (.aload_n 0, 1) := by decide +kernel
theorem dX9_far_77 : decode cX9_far 77 = .ok (.getfield 38, 3) := by decide +kernel
theorem dX9_far_80 : decode cX9_far 80 = .ok (.aload 7, 2) := by decide +kernel
theorem dX9_far_82 : decode cX9_far 82 = .ok (.lload_n 3, 1) := by decide +kernel
theorem dX9_far_83 : decode cX9_far 83 = .ok (.lload 5, 2) := by decide +kernel
theorem dX9_far_85 : decode cX9_far 85 = .ok (.invokevirtual 190, 3) := by decide +kernel
theorem dX9_far_88 : decode cX9_far 88 = .ok (.ireturn, 1) := by decide +kernel
