def tyX9 : Nat → FieldType := fun k => match k with
  | 0 => .array (.object "ShadowBench$Board")
  | 1 => .array (.object "ShadowBench$Job")
  | 2 => .int
  | 3 => .array (.object "ShadowBench$Held")
  | 4 => .object "ShadowBench$Walk"
  | 5 => .object "ShadowBench$Meetings"
  | 6 => .array .long
  | 7 => .int
  | _ => .object "ShadowBench$Board"
theorem nmX9 : ∀ a, a < 9 → ∀ b, b < 9 → a ≠ b → (TX9 a).2.1 ≠ (TX9 b).2.1 := by decide +kernel
theorem tyX9_ok : ∀ k, k < 9 → parseFieldDescriptor (TX9 k).2.2.1 = some (tyX9 k) := by decide +kernel
abbrev cX9_job : ByteArray := prog_1_method_2_code
def yX9_job : MethodName := ⟨RX9, "job", "(III)I"⟩
abbrev cX9_list : ByteArray := prog_1_method_25_code
def yX9_list : MethodName := ⟨RX9, "list", "(IIJ)I"⟩
abbrev cX9_clear : ByteArray := prog_1_method_26_code
def yX9_clear : MethodName := ⟨RX9, "clear", "()I"⟩
def wsX9_job_r1 : List Cond := [Cond.fieldLink RX9 21 "ShadowBench" "jobCount" "I", Cond.fieldLink RX9 17 "ShadowBench" "jobs" "[LShadowBench$Job;", Cond.methodLink RX9 53 yX9_boardOf, Cond.instanceMethod yX9_boardOf, Cond.selects RX9 yX9_boardOf yX9_boardOf, Cond.initialized RX9, Cond.code yX9_boardOf cX9_boardOf 4 (some (.object "ShadowBench$Board")), Cond.fieldLink RX9 9 "ShadowBench" "boards" "[LShadowBench$Board;", Cond.classLink RX9 7 RX0, Cond.instantiable RX0 8, Cond.initialized RX0, Cond.methodLink RX9 290 yX0_init, Cond.instanceMethod yX0_init, Cond.code yX0_init cX0_init 3 none, Cond.methodLink RX0 1 objectInit, Cond.instanceMethod objectInit, Cond.code objectInit ⟨#[0xb1]⟩ 1 none, Cond.arrayClass .long, Cond.fieldLink RX0 9 "ShadowBench$Board" "lines" "[J", Cond.fieldLink RX0 13 "ShadowBench$Board" "wide" "I", Cond.fieldLink RX0 17 "ShadowBench$Board" "high" "I", Cond.fieldLink RX0 20 "ShadowBench$Board" "squares" "I", Cond.fieldLink RX0 23 "ShadowBench$Board" "rowNumbers" "I", Cond.fieldLink RX0 30 "ShadowBench$Board" "fours" "I"]
def wsX9_job_r2 : List Cond := [Cond.fieldLink RX0 33 "ShadowBench$Board" "falling" "[J", Cond.fieldLink RX0 36 "ShadowBench$Board" "rising" "[J", Cond.methodLink RX0 26 yX0_pairsOf, Cond.static yX0_pairsOf, Cond.code yX0_pairsOf cX0_pairsOf 1 (some .int), Cond.methodLink RX0 39 yX0_drawLines, Cond.instanceMethod yX0_drawLines, Cond.selects RX0 yX0_drawLines yX0_drawLines, Cond.code yX0_drawLines cX0_drawLines 4 none, Cond.methodLink RX0 45 yX0_lineThrough, Cond.instanceMethod yX0_lineThrough, Cond.selects RX0 yX0_lineThrough yX0_lineThrough, Cond.code yX0_lineThrough cX0_lineThrough 4 (some .int), Cond.methodLink RX0 49 yX0_bit, Cond.instanceMethod yX0_bit, Cond.selects RX0 yX0_bit yX0_bit, Cond.code yX0_bit cX0_bit 3 (some .long), Cond.methodLink RX0 42 yX0_drawFours, Cond.instanceMethod yX0_drawFours, Cond.selects RX0 yX0_drawFours yX0_drawFours, Cond.code yX0_drawFours cX0_drawFours 4 none, Cond.methodLink RX0 53 yX0_drawFoursOfRows, Cond.instanceMethod yX0_drawFoursOfRows, Cond.selects RX0 yX0_drawFoursOfRows yX0_drawFoursOfRows]
def wsX9_job_r3 : List Cond := [Cond.code yX0_drawFoursOfRows cX0_drawFoursOfRows 7 (some .int), Cond.methodLink RX9 57 yX9_newJob, Cond.static yX9_newJob, Cond.code yX9_newJob cX9_newJob 2 (some (.object "ShadowBench$Job")), Cond.classLink RX9 292 RX4, Cond.instantiable RX4 5, Cond.initialized RX4, Cond.classLink RX9 297 RX1, Cond.instantiable RX1 5, Cond.initialized RX1, Cond.classLink RX9 112 RX5, Cond.instantiable RX5 6, Cond.initialized RX5, Cond.classLink RX9 15 RX3, Cond.instantiable RX3 5, Cond.initialized RX3, Cond.methodLink RX9 294 yX4_init, Cond.instanceMethod yX4_init, Cond.code yX4_init cX4_init 2 none, Cond.methodLink RX4 1 yX3_init, Cond.instanceMethod yX3_init, Cond.code yX3_init cX3_init 2 none, Cond.arrayClass .int, Cond.fieldLink RX3 11 "ShadowBench$Job" "sums" "[I"]
def wsX9_job_r4 : List Cond := [Cond.fieldLink RX3 17 "ShadowBench$Job" "toldWays" "I", Cond.fieldLink RX3 21 "ShadowBench$Job" "heldOnes" "J", Cond.fieldLink RX3 25 "ShadowBench$Job" "heldNoughts" "J", Cond.fieldLink RX3 28 "ShadowBench$Job" "board" "LShadowBench$Board;", Cond.instanceMethod yX2_init, Cond.initialized RX2, Cond.code yX2_init cX2_init 1 none, Cond.methodLink RX2 1 objectInit, Cond.methodLink RX9 299 yX1_init, Cond.instanceMethod yX1_init, Cond.code yX1_init cX1_init 2 none, Cond.methodLink RX1 1 yX4_init, Cond.methodLink RX9 300 yX5_init, Cond.instanceMethod yX5_init, Cond.code yX5_init cX5_init 2 none, Cond.fieldLink RX5 7 "ShadowBench$Board" "squares" "I", Cond.fieldLink RX5 13 "ShadowBench$MarkedJob" "marks" "[I", Cond.methodLink RX5 1 yX3_init, Cond.methodLink RX9 301 yX3_init]
def wsX9_job : List Cond := .code yX9_job cX9_job 5 (some .int) :: ((wsX9_job_r1 ++ (wsX9_job_r2 ++ (wsX9_job_r3 ++ wsX9_job_r4))) ++ wsX90 ++ wsX00 ++ wsX40 ++ wsX10 ++ wsX50 ++ wsX30)
def wsX9_list_r1 : List Cond := [Cond.fieldLink RX9 46 "ShadowBench" "listCount" "I", Cond.fieldLink RX9 49 "ShadowBench" "listBoard" "LShadowBench$Board;", Cond.fieldLink RX9 42 "ShadowBench" "listed" "[J", Cond.methodLink RX9 53 yX9_boardOf, Cond.instanceMethod yX9_boardOf, Cond.selects RX9 yX9_boardOf yX9_boardOf, Cond.initialized RX9, Cond.code yX9_boardOf cX9_boardOf 4 (some (.object "ShadowBench$Board")), Cond.fieldLink RX9 9 "ShadowBench" "boards" "[LShadowBench$Board;", Cond.classLink RX9 7 RX0, Cond.instantiable RX0 8, Cond.initialized RX0, Cond.methodLink RX9 290 yX0_init, Cond.instanceMethod yX0_init, Cond.code yX0_init cX0_init 3 none, Cond.methodLink RX0 1 objectInit, Cond.instanceMethod objectInit, Cond.code objectInit ⟨#[0xb1]⟩ 1 none, Cond.arrayClass .long, Cond.fieldLink RX0 9 "ShadowBench$Board" "lines" "[J", Cond.fieldLink RX0 13 "ShadowBench$Board" "wide" "I", Cond.fieldLink RX0 17 "ShadowBench$Board" "high" "I", Cond.fieldLink RX0 20 "ShadowBench$Board" "squares" "I", Cond.fieldLink RX0 23 "ShadowBench$Board" "rowNumbers" "I"]
def wsX9_list_r2 : List Cond := [Cond.fieldLink RX0 30 "ShadowBench$Board" "fours" "I", Cond.fieldLink RX0 33 "ShadowBench$Board" "falling" "[J", Cond.fieldLink RX0 36 "ShadowBench$Board" "rising" "[J", Cond.methodLink RX0 26 yX0_pairsOf, Cond.static yX0_pairsOf, Cond.code yX0_pairsOf cX0_pairsOf 1 (some .int), Cond.methodLink RX0 39 yX0_drawLines, Cond.instanceMethod yX0_drawLines, Cond.selects RX0 yX0_drawLines yX0_drawLines, Cond.code yX0_drawLines cX0_drawLines 4 none, Cond.methodLink RX0 45 yX0_lineThrough, Cond.instanceMethod yX0_lineThrough, Cond.selects RX0 yX0_lineThrough yX0_lineThrough, Cond.code yX0_lineThrough cX0_lineThrough 4 (some .int), Cond.methodLink RX0 49 yX0_bit, Cond.instanceMethod yX0_bit, Cond.selects RX0 yX0_bit yX0_bit, Cond.code yX0_bit cX0_bit 3 (some .long), Cond.methodLink RX0 42 yX0_drawFours, Cond.instanceMethod yX0_drawFours, Cond.selects RX0 yX0_drawFours yX0_drawFours, Cond.code yX0_drawFours cX0_drawFours 4 none, Cond.methodLink RX0 53 yX0_drawFoursOfRows, Cond.instanceMethod yX0_drawFoursOfRows]
def wsX9_list_r3 : List Cond := [Cond.selects RX0 yX0_drawFoursOfRows yX0_drawFoursOfRows, Cond.code yX0_drawFoursOfRows cX0_drawFoursOfRows 7 (some .int), Cond.methodLink RX9 80 yX0_isPicture, Cond.instanceMethod yX0_isPicture, Cond.selects RX0 yX0_isPicture yX0_isPicture, Cond.code yX0_isPicture cX0_isPicture 3 (some .boolean), Cond.methodLink RX9 207 yX9_isOtherThanListed, Cond.instanceMethod yX9_isOtherThanListed, Cond.selects RX9 yX9_isOtherThanListed yX9_isOtherThanListed, Cond.code yX9_isOtherThanListed cX9_isOtherThanListed 3 (some .boolean), Cond.fieldLink RX9 156 "ShadowBench$Board" "wide" "I", Cond.fieldLink RX9 306 "ShadowBench$Board" "high" "I", Cond.methodLink RX9 210 yX9_isListed, Cond.instanceMethod yX9_isListed, Cond.selects RX9 yX9_isListed yX9_isListed, Cond.code yX9_isListed cX9_isListed 4 (some .boolean)]
def wsX9_list : List Cond := .code yX9_list cX9_list 6 (some .int) :: ((wsX9_list_r1 ++ (wsX9_list_r2 ++ wsX9_list_r3)) ++ wsX90 ++ wsX00)
def wsX9_clear : List Cond := .code yX9_clear cX9_clear 2 (some .int) :: ([.fieldLink RX9 46 "ShadowBench" "listCount" "I", .fieldLink RX9 49 "ShadowBench" "listBoard" "LShadowBench$Board;"] ++ wsX90)
def chX9_job : List (List Cond) := [wsX9_job_r1, wsX9_job_r2, wsX9_job_r3, wsX9_job_r4, wsX90, wsX00, wsX40, wsX10, wsX50, wsX30]
set_option maxRecDepth 20000 in
theorem chX9_job_in : ∀ c ∈ chX9_job, ∀ w ∈ c, w ∈ wsX9_job := (all_c (P := fun c => ∀ w ∈ c, w ∈ wsX9_job) (fun w h => List.mem_cons_of_mem _ (List.mem_append_left _ (List.mem_append_left _ (List.mem_append_left _ (List.mem_append_left _ (List.mem_append_left _ (List.mem_append_left _ (List.mem_append_left _ (h))))))))) (all_c (P := fun c => ∀ w ∈ c, w ∈ wsX9_job) (fun w h => List.mem_cons_of_mem _ (List.mem_append_left _ (List.mem_append_left _ (List.mem_append_left _ (List.mem_append_left _ (List.mem_append_left _ (List.mem_append_left _ (List.mem_append_right _ (List.mem_append_left _ (h)))))))))) (all_c (P := fun c => ∀ w ∈ c, w ∈ wsX9_job) (fun w h => List.mem_cons_of_mem _ (List.mem_append_left _ (List.mem_append_left _ (List.mem_append_left _ (List.mem_append_left _ (List.mem_append_left _ (List.mem_append_left _ (List.mem_append_right _ (List.mem_append_right _ (List.mem_append_left _ (h))))))))))) (all_c (P := fun c => ∀ w ∈ c, w ∈ wsX9_job) (fun w h => List.mem_cons_of_mem _ (List.mem_append_left _ (List.mem_append_left _ (List.mem_append_left _ (List.mem_append_left _ (List.mem_append_left _ (List.mem_append_left _ (List.mem_append_right _ (List.mem_append_right _ (List.mem_append_right _ (h))))))))))) (all_c (P := fun c => ∀ w ∈ c, w ∈ wsX9_job) (fun w h => List.mem_cons_of_mem _ (List.mem_append_left _ (List.mem_append_left _ (List.mem_append_left _ (List.mem_append_left _ (List.mem_append_left _ (List.mem_append_right _ (h)))))))) (all_c (P := fun c => ∀ w ∈ c, w ∈ wsX9_job) (fun w h => List.mem_cons_of_mem _ (List.mem_append_left _ (List.mem_append_left _ (List.mem_append_left _ (List.mem_append_left _ (List.mem_append_right _ (h))))))) (all_c (P := fun c => ∀ w ∈ c, w ∈ wsX9_job) (fun w h => List.mem_cons_of_mem _ (List.mem_append_left _ (List.mem_append_left _ (List.mem_append_left _ (List.mem_append_right _ (h)))))) (all_c (P := fun c => ∀ w ∈ c, w ∈ wsX9_job) (fun w h => List.mem_cons_of_mem _ (List.mem_append_left _ (List.mem_append_left _ (List.mem_append_right _ (h))))) (all_c (P := fun c => ∀ w ∈ c, w ∈ wsX9_job) (fun w h => List.mem_cons_of_mem _ (List.mem_append_left _ (List.mem_append_right _ (h)))) (all_c (P := fun c => ∀ w ∈ c, w ∈ wsX9_job) (fun w h => List.mem_cons_of_mem _ (List.mem_append_right _ (h))) (fun _ h => nomatch h)))))))))))
set_option maxRecDepth 20000 in
theorem ggX9_job_X9_boardOf : GoodIn wsX9_job wsX9_boardOf := goodIn_ca (goodIn_ca (goodIn_c chX9_job chX9_job_in _ [(0, 6), (0, 7), (0, 8), (0, 9), (0, 10), (0, 11), (0, 12), (0, 13), (0, 14), (0, 15), (0, 16), (0, 17), (0, 18), (0, 19), (0, 20), (0, 21), (0, 22), (0, 23), (1, 0), (1, 1), (1, 2), (1, 3), (1, 4), (1, 5), (1, 6), (1, 7), (1, 8), (1, 9), (1, 10), (1, 11), (1, 12), (1, 13), (1, 14), (1, 15), (1, 16), (1, 17), (1, 18), (1, 19), (1, 20), (1, 21), (1, 22), (1, 23), (2, 0)] (by rfl) (by decide +kernel)) (goodIn_sub (fun _ h => List.mem_cons_of_mem _ (List.mem_append_left _ (List.mem_append_left _ (List.mem_append_left _ (List.mem_append_left _ (List.mem_append_left _ (List.mem_append_right _ (h)))))))) (by decide +kernel))) (goodIn_sub (fun _ h => List.mem_cons_of_mem _ (List.mem_append_left _ (List.mem_append_left _ (List.mem_append_left _ (List.mem_append_left _ (List.mem_append_right _ (h))))))) (by decide +kernel))
set_option maxRecDepth 20000 in
theorem gX9_job_X9_boardOf : GoodIn wsX9_job (wsV RX9 53 RX9 yX9_boardOf wsX9_boardOf) := goodIn_app (goodIn_c chX9_job chX9_job_in _ [(0, 2), (0, 3), (0, 4), (0, 5)] (by rfl) (by decide +kernel)) ggX9_job_X9_boardOf
set_option maxRecDepth 20000 in
theorem ggX9_job_X9_newJob : GoodIn wsX9_job wsX9_newJob := goodIn_ca (goodIn_ca (goodIn_ca (goodIn_ca (goodIn_ca (goodIn_c chX9_job chX9_job_in _ [(2, 3), (2, 4), (2, 5), (2, 6), (2, 7), (2, 8), (2, 9), (2, 10), (2, 11), (2, 12), (2, 13), (2, 14), (2, 15), (2, 16), (2, 17), (2, 18), (2, 19), (2, 20), (2, 21), (2, 22), (2, 23), (3, 0), (3, 1), (3, 2), (3, 3), (3, 4), (3, 5), (3, 6), (3, 7), (0, 15), (0, 16), (3, 8), (3, 9), (3, 10), (3, 11), (3, 12), (3, 13), (3, 14), (3, 15), (3, 16), (3, 17), (3, 18)] (by rfl) (by decide +kernel)) (goodIn_sub (fun _ h => List.mem_cons_of_mem _ (List.mem_append_left _ (List.mem_append_left _ (List.mem_append_left _ (List.mem_append_right _ (h)))))) (by decide +kernel))) (goodIn_sub (fun _ h => List.mem_cons_of_mem _ (List.mem_append_left _ (List.mem_append_left _ (List.mem_append_right _ (h))))) (by decide +kernel))) (goodIn_sub (fun _ h => List.mem_cons_of_mem _ (List.mem_append_left _ (List.mem_append_right _ (h)))) (by decide +kernel))) (goodIn_sub (fun _ h => List.mem_cons_of_mem _ (List.mem_append_right _ (h))) (by decide +kernel))) (goodIn_sub (fun _ h => List.mem_cons_of_mem _ (List.mem_append_left _ (List.mem_append_left _ (List.mem_append_left _ (List.mem_append_left _ (List.mem_append_right _ (h))))))) (by decide +kernel))
set_option maxRecDepth 20000 in
theorem gX9_job_X9_newJob : GoodIn wsX9_job (va_wsS RX9 57 yX9_newJob wsX9_newJob) := goodIn_app (goodIn_c chX9_job chX9_job_in _ [(2, 1), (2, 2), (0, 5)] (by rfl) (by decide +kernel)) ggX9_job_X9_newJob
theorem dX9_job_0 : decode cX9_job 0 = .ok (.aload_n 0, 1) := by decide +kernel
theorem dX9_job_1 : decode cX9_job 1 = .ok (.iload_n 2, 1) := by decide +kernel
theorem dX9_job_2 : decode cX9_job 2 = .ok (.iload_n 3, 1) := by decide +kernel
theorem dX9_job_3 : decode cX9_job 3 = .ok (.invokevirtual 53, 3) := by decide +kernel
theorem dX9_job_6 : decode cX9_job 6 = .ok (.astore 4, 2) := by decide +kernel
theorem dX9_job_8 : decode cX9_job 8 = .ok (.aload 4, 2) := by decide +kernel
theorem dX9_job_10 : decode cX9_job 10 = .ok (.ifnull 12, 3) := by decide +kernel
theorem dX9_job_13 : decode cX9_job 13 = .ok (.iload_n 1, 1) := by decide +kernel
theorem dX9_job_14 : decode cX9_job 14 = .ok (.ifCond .lt 8, 3) := by decide +kernel
theorem dX9_job_17 : decode cX9_job 17 = .ok (.iload_n 1, 1) := by decide +kernel
theorem dX9_job_18 : decode cX9_job 18 = .ok (.iconst 3, 1) := by decide +kernel
theorem dX9_job_19 : decode cX9_job 19 = .ok (.if_icmp .le 5, 3) := by decide +kernel
theorem dX9_job_22 : decode cX9_job 22 = .ok (.iconst (-1), 1) := by decide +kernel
theorem dX9_job_23 : decode cX9_job 23 = .ok (.ireturn, 1) := by decide +kernel
theorem dX9_job_24 : decode cX9_job 24 = .ok (.aload_n 0, 1) := by decide +kernel
theorem dX9_job_25 : decode cX9_job 25 = .ok (.getfield 21, 3) := by decide +kernel
theorem dX9_job_28 : decode cX9_job 28 = .ok (.bipush 8, 2) := by decide +kernel
theorem dX9_job_30 : decode cX9_job 30 = .ok (.if_icmp .lt 6, 3) := by decide +kernel
theorem dX9_job_33 : decode cX9_job 33 = .ok (.bipush (-2), 2) := by decide +kernel
theorem dX9_job_35 : decode cX9_job 35 = .ok (.ireturn, 1) := by decide +kernel
theorem dX9_job_36 : decode cX9_job 36 = .ok (.aload_n 0, 1) := by decide +kernel
theorem dX9_job_37 : decode cX9_job 37 = .ok (.getfield 17, 3) := by decide +kernel
theorem dX9_job_40 : decode cX9_job 40 = .ok (.aload_n 0, 1) := by decide +kernel
theorem dX9_job_41 : decode cX9_job 41 = .ok (.getfield 21, 3) := by decide +kernel
theorem dX9_job_44 : decode cX9_job 44 = .ok (.iload_n 1, 1) := by decide +kernel
theorem dX9_job_45 : decode cX9_job 45 = .ok (.aload 4, 2) := by decide +kernel
theorem dX9_job_47 : decode cX9_job 47 = .ok (.invokestatic 57, 3) := by decide +kernel
theorem dX9_job_50 : decode cX9_job 50 = .ok (.aastore, 1) := by decide +kernel
theorem dX9_job_51 : decode cX9_job 51 = .ok (.aload_n 0, 1) := by decide +kernel
theorem dX9_job_52 : decode cX9_job 52 = .ok (.dup, 1) := by decide +kernel
theorem dX9_job_53 : decode cX9_job 53 = .ok (.getfield 21, 3) := by decide +kernel
theorem dX9_job_56 : decode cX9_job 56 = .ok (.iconst 1, 1) := by decide +kernel
theorem dX9_job_57 : decode cX9_job 57 = .ok (.iadd, 1) := by decide +kernel
theorem dX9_job_58 : decode cX9_job 58 = .ok (.putfield 21, 3) := by decide +kernel
theorem dX9_job_61 : decode cX9_job 61 = .ok (.aload_n 0, 1) := by decide +kernel
theorem dX9_job_62 : decode cX9_job 62 = .ok (.getfield 21, 3) := by decide +kernel
theorem dX9_job_65 : decode cX9_job 65 = .ok (.iconst 1, 1) := by decide +kernel
theorem dX9_job_66 : decode cX9_job 66 = .ok (.isub, 1) := by decide +kernel
theorem dX9_job_67 : decode cX9_job 67 = .ok (.ireturn, 1) := by decide +kernel
def chX9_list : List (List Cond) := [wsX9_list_r1, wsX9_list_r2, wsX9_list_r3, wsX90, wsX00]
set_option maxRecDepth 20000 in
theorem chX9_list_in : ∀ c ∈ chX9_list, ∀ w ∈ c, w ∈ wsX9_list := (all_c (P := fun c => ∀ w ∈ c, w ∈ wsX9_list) (fun w h => List.mem_cons_of_mem _ (List.mem_append_left _ (List.mem_append_left _ (List.mem_append_left _ (h))))) (all_c (P := fun c => ∀ w ∈ c, w ∈ wsX9_list) (fun w h => List.mem_cons_of_mem _ (List.mem_append_left _ (List.mem_append_left _ (List.mem_append_right _ (List.mem_append_left _ (h)))))) (all_c (P := fun c => ∀ w ∈ c, w ∈ wsX9_list) (fun w h => List.mem_cons_of_mem _ (List.mem_append_left _ (List.mem_append_left _ (List.mem_append_right _ (List.mem_append_right _ (h)))))) (all_c (P := fun c => ∀ w ∈ c, w ∈ wsX9_list) (fun w h => List.mem_cons_of_mem _ (List.mem_append_left _ (List.mem_append_right _ (h)))) (all_c (P := fun c => ∀ w ∈ c, w ∈ wsX9_list) (fun w h => List.mem_cons_of_mem _ (List.mem_append_right _ (h))) (fun _ h => nomatch h))))))
set_option maxRecDepth 20000 in
theorem ggX9_list_X9_boardOf : GoodIn wsX9_list wsX9_boardOf := goodIn_ca (goodIn_ca (goodIn_c chX9_list chX9_list_in _ [(0, 7), (0, 8), (0, 9), (0, 10), (0, 11), (0, 12), (0, 13), (0, 14), (0, 15), (0, 16), (0, 17), (0, 18), (0, 19), (0, 20), (0, 21), (0, 22), (0, 23), (1, 0), (1, 1), (1, 2), (1, 3), (1, 4), (1, 5), (1, 6), (1, 7), (1, 8), (1, 9), (1, 10), (1, 11), (1, 12), (1, 13), (1, 14), (1, 15), (1, 16), (1, 17), (1, 18), (1, 19), (1, 20), (1, 21), (1, 22), (1, 23), (2, 0), (2, 1)] (by rfl) (by decide +kernel)) (goodIn_sub (fun _ h => List.mem_cons_of_mem _ (List.mem_append_left _ (List.mem_append_right _ (h)))) (by decide +kernel))) (goodIn_sub (fun _ h => List.mem_cons_of_mem _ (List.mem_append_right _ (h))) (by decide +kernel))
set_option maxRecDepth 20000 in
theorem gX9_list_X9_boardOf : GoodIn wsX9_list (wsV RX9 53 RX9 yX9_boardOf wsX9_boardOf) := goodIn_app (goodIn_c chX9_list chX9_list_in _ [(0, 3), (0, 4), (0, 5), (0, 6)] (by rfl) (by decide +kernel)) ggX9_list_X9_boardOf
set_option maxRecDepth 20000 in
theorem ggX9_list_X0_isPicture : GoodIn wsX9_list wsX0_isPicture := goodIn_ca (goodIn_c chX9_list chX9_list_in _ [(2, 5), (0, 22)] (by rfl) (by decide +kernel)) (goodIn_sub (fun _ h => List.mem_cons_of_mem _ (List.mem_append_right _ (h))) (by decide +kernel))
set_option maxRecDepth 20000 in
theorem gX9_list_X0_isPicture : GoodIn wsX9_list (wsV RX9 80 RX0 yX0_isPicture wsX0_isPicture) := goodIn_app (goodIn_c chX9_list chX9_list_in _ [(2, 2), (2, 3), (2, 4), (0, 11)] (by rfl) (by decide +kernel)) ggX9_list_X0_isPicture
set_option maxRecDepth 20000 in
theorem ggX9_list_X9_isOtherThanListed : GoodIn wsX9_list wsX9_isOtherThanListed := goodIn_ca (goodIn_ca (goodIn_c chX9_list chX9_list_in _ [(2, 9), (0, 1), (2, 10), (2, 11)] (by rfl) (by decide +kernel)) (goodIn_sub (fun _ h => List.mem_cons_of_mem _ (List.mem_append_left _ (List.mem_append_right _ (h)))) (by decide +kernel))) (goodIn_sub (fun _ h => List.mem_cons_of_mem _ (List.mem_append_right _ (h))) (by decide +kernel))
set_option maxRecDepth 20000 in
theorem gX9_list_X9_isOtherThanListed : GoodIn wsX9_list (wsV RX9 207 RX9 yX9_isOtherThanListed wsX9_isOtherThanListed) := goodIn_app (goodIn_c chX9_list chX9_list_in _ [(2, 6), (2, 7), (2, 8), (0, 6)] (by rfl) (by decide +kernel)) ggX9_list_X9_isOtherThanListed
set_option maxRecDepth 20000 in
theorem ggX9_list_X9_isListed : GoodIn wsX9_list wsX9_isListed := goodIn_ca (goodIn_c chX9_list chX9_list_in _ [(2, 15), (0, 0), (0, 2)] (by rfl) (by decide +kernel)) (goodIn_sub (fun _ h => List.mem_cons_of_mem _ (List.mem_append_left _ (List.mem_append_right _ (h)))) (by decide +kernel))
set_option maxRecDepth 20000 in
theorem gX9_list_X9_isListed : GoodIn wsX9_list (wsV RX9 210 RX9 yX9_isListed wsX9_isListed) := goodIn_app (goodIn_c chX9_list chX9_list_in _ [(2, 12), (2, 13), (2, 14), (0, 6)] (by rfl) (by decide +kernel)) ggX9_list_X9_isListed
theorem dX9_list_0 : decode cX9_list 0 = .ok (.aload_n 0, 1) := by decide +kernel
theorem dX9_list_1 : decode cX9_list 1 = .ok (.iload_n 1, 1) := by decide +kernel
theorem dX9_list_2 : decode cX9_list 2 = .ok (.iload_n 2, 1) := by decide +kernel
theorem dX9_list_3 : decode cX9_list 3 = .ok (.invokevirtual 53, 3) := by decide +kernel
theorem dX9_list_6 : decode cX9_list 6 = .ok (.astore 5, 2) := by decide +kernel
theorem dX9_list_8 : decode cX9_list 8 = .ok (.aload 5, 2) := by decide +kernel
theorem dX9_list_10 : decode cX9_list 10 = .ok (.ifnull 12, 3) := by decide +kernel
theorem dX9_list_13 : decode cX9_list 13 = .ok (.aload 5, 2) := by decide +kernel
theorem dX9_list_15 : decode cX9_list 15 = .ok (.lload_n 3, 1) := by decide +kernel
theorem dX9_list_16 : decode cX9_list 16 = .ok (.invokevirtual 80, 3) := by decide +kernel
theorem dX9_list_19 : decode cX9_list 19 = .ok (.ifCond .ne 5, 3) := by decide +kernel
theorem dX9_list_22 : decode cX9_list 22 = .ok (.iconst (-1), 1) := by decide +kernel
theorem dX9_list_23 : decode cX9_list 23 = .ok (.ireturn, 1) := by decide +kernel
theorem dX9_list_24 : decode cX9_list 24 = .ok (.aload_n 0, 1) := by decide +kernel
theorem dX9_list_25 : decode cX9_list 25 = .ok (.getfield 46, 3) := by decide +kernel
theorem dX9_list_28 : decode cX9_list 28 = .ok (.bipush 12, 2) := by decide +kernel
theorem dX9_list_30 : decode cX9_list 30 = .ok (.if_icmp .lt 6, 3) := by decide +kernel
theorem dX9_list_33 : decode cX9_list 33 = .ok (.bipush (-2), 2) := by decide +kernel
theorem dX9_list_35 : decode cX9_list 35 = .ok (.ireturn, 1) := by decide +kernel
theorem dX9_list_36 : decode cX9_list 36 = .ok (.aload_n 0, 1) := by decide +kernel
theorem dX9_list_37 : decode cX9_list 37 = .ok (.iload_n 1, 1) := by decide +kernel
theorem dX9_list_38 : decode cX9_list 38 = .ok (.iload_n 2, 1) := by decide +kernel
theorem dX9_list_39 : decode cX9_list 39 = .ok (.invokevirtual 207, 3) := by decide +kernel
theorem dX9_list_42 : decode cX9_list 42 = .ok (.ifCond .ne 11, 3) := by decide +kernel
theorem dX9_list_45 : decode cX9_list 45 = .ok (.aload_n 0, 1) := by decide +kernel
theorem dX9_list_46 : decode cX9_list 46 = .ok (.lload_n 3, 1) := by decide +kernel
theorem dX9_list_47 : decode cX9_list 47 = .ok (.invokevirtual 210, 3) := by decide +kernel
theorem dX9_list_50 : decode cX9_list 50 = .ok (.ifCond .eq 6, 3) := by decide +kernel
theorem dX9_list_53 : decode cX9_list 53 = .ok (.bipush (-3), 2) := by decide +kernel
theorem dX9_list_55 : decode cX9_list 55 = .ok (.ireturn, 1) := by decide +kernel
theorem dX9_list_56 : decode cX9_list 56 = .ok (.aload_n 0, 1) := by decide +kernel
theorem dX9_list_57 : decode cX9_list 57 = .ok (.aload 5, 2) := by decide +kernel
theorem dX9_list_59 : decode cX9_list 59 = .ok (.putfield 49, 3) := by decide +kernel
theorem dX9_list_62 : decode cX9_list 62 = .ok (.aload_n 0, 1) := by decide +kernel
theorem dX9_list_63 : decode cX9_list 63 = .ok (.getfield 42, 3) := by decide +kernel
theorem dX9_list_66 : decode cX9_list 66 = .ok (.aload_n 0, 1) := by decide +kernel
theorem dX9_list_67 : decode cX9_list 67 = .ok (.getfield 46, 3) := by decide +kernel
theorem dX9_list_70 : decode cX9_list 70 = .ok (.lload_n 3, 1) := by decide +kernel
theorem dX9_list_71 : decode cX9_list 71 = .ok (.lastore, 1) := by decide +kernel
theorem dX9_list_72 : decode cX9_list 72 = .ok (.aload_n 0, 1) := by decide +kernel
theorem dX9_list_73 : decode cX9_list 73 = .ok (.dup, 1) := by decide +kernel
theorem dX9_list_74 : decode cX9_list 74 = .ok (.getfield 46, 3) := by decide +kernel
theorem dX9_list_77 : decode cX9_list 77 = .ok (.iconst 1, 1) := by decide +kernel
theorem dX9_list_78 : decode cX9_list 78 = .ok (.iadd, 1) := by decide +kernel
theorem dX9_list_79 : decode cX9_list 79 = .ok (.putfield 46, 3) := by decide +kernel
theorem dX9_list_82 : decode cX9_list 82 = .ok (.aload_n 0, 1) := by decide +kernel
theorem dX9_list_83 : decode cX9_list 83 = .ok (.getfield 46, 3) := by decide +kernel
theorem dX9_list_86 : decode cX9_list 86 = .ok (.ireturn, 1) := by decide +kernel
theorem dX9_clear_0 : decode cX9_clear 0 = .ok (.aload_n 0, 1) := by decide +kernel
theorem dX9_clear_1 : decode cX9_clear 1 = .ok (.getfield 46, 3) := by decide +kernel
theorem dX9_clear_4 : decode cX9_clear 4 = .ok (.istore_n 1, 1) := by decide +kernel
theorem dX9_clear_5 : decode cX9_clear 5 = .ok (.aload_n 0, 1) := by decide +kernel
theorem dX9_clear_6 : decode cX9_clear 6 = .ok (.iconst 0, 1) := by decide +kernel
theorem dX9_clear_7 : decode cX9_clear 7 = .ok (.putfield 46, 3) := by decide +kernel
theorem dX9_clear_10 : decode cX9_clear 10 = .ok (.aload_n 0, 1) := by decide +kernel
theorem dX9_clear_11 : decode cX9_clear 11 = .ok (.aconst_null, 1) := by decide +kernel
theorem dX9_clear_12 : decode cX9_clear 12 = .ok (.putfield 49, 3) := by decide +kernel
theorem dX9_clear_15 : decode cX9_clear 15 = .ok (.iload_n 1, 1) := by decide +kernel
theorem dX9_clear_16 : decode cX9_clear 16 = .ok (.ireturn, 1) := by decide +kernel
