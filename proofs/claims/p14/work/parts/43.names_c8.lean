abbrev cX9_init : ByteArray := prog_1_method_1_code
def yX9_init : MethodName := ⟨RX9, "<init>", "()V"⟩
def wsX9_init_r1 : List Cond := [Cond.methodLink RX9 1 objectInit, Cond.instanceMethod objectInit, Cond.code objectInit ⟨#[0xb1]⟩ 1 none, Cond.classLink RX9 7 RX0, Cond.fieldLink RX9 9 "ShadowBench" "boards" "[LShadowBench$Board;", Cond.classLink RX9 15 RX3, Cond.fieldLink RX9 17 "ShadowBench" "jobs" "[LShadowBench$Job;", Cond.fieldLink RX9 21 "ShadowBench" "jobCount" "I", Cond.classLink RX9 25 RX2, Cond.fieldLink RX9 27 "ShadowBench" "shelves" "[LShadowBench$Held;", Cond.classLink RX9 31 RX8, Cond.instantiable RX8 10, Cond.initialized RX8, Cond.fieldLink RX9 34 "ShadowBench" "walk" "LShadowBench$Walk;", Cond.fieldLink RX9 38 "ShadowBench" "meetings" "LShadowBench$Meetings;", Cond.arrayClass .long, Cond.fieldLink RX9 42 "ShadowBench" "listed" "[J", Cond.fieldLink RX9 46 "ShadowBench" "listCount" "I", Cond.fieldLink RX9 49 "ShadowBench" "listBoard" "LShadowBench$Board;", Cond.instanceMethod yX8_init, Cond.code yX8_init cX8_init 1 none, Cond.methodLink RX8 1 objectInit, Cond.fieldLink RX8 7 "ShadowBench$Walk" "job" "LShadowBench$Job;", Cond.fieldLink RX8 13 "ShadowBench$Walk" "y" "I"]
def wsX9_init_r2 : List Cond := [Cond.fieldLink RX8 17 "ShadowBench$Walk" "tried" "I", Cond.fieldLink RX8 20 "ShadowBench$Walk" "spent" "Z", Cond.fieldLink RX8 24 "ShadowBench$Walk" "found" "J", Cond.arrayClass .int, Cond.fieldLink RX8 30 "ShadowBench$Walk" "nextRow" "[I", Cond.fieldLink RX8 34 "ShadowBench$Walk" "rowSum" "[I", Cond.fieldLink RX8 37 "ShadowBench$Walk" "needed" "[I", Cond.fieldLink RX8 40 "ShadowBench$Walk" "barred" "[I", Cond.fieldLink RX8 43 "ShadowBench$Walk" "drawn" "[J"]
def wsX9_init : List Cond := .code yX9_init cX9_init 1 none :: ((wsX9_init_r1 ++ wsX9_init_r2) ++ wsX90 ++ wsX80)
def chX9_init : List (List Cond) := [wsX9_init_r1, wsX9_init_r2, wsX90, wsX80]
set_option maxRecDepth 20000 in
theorem chX9_init_in : ∀ c ∈ chX9_init, ∀ w ∈ c, w ∈ wsX9_init := (all_c (P := fun c => ∀ w ∈ c, w ∈ wsX9_init) (fun w h => List.mem_cons_of_mem _ (List.mem_append_left _ (List.mem_append_left _ (List.mem_append_left _ (h))))) (all_c (P := fun c => ∀ w ∈ c, w ∈ wsX9_init) (fun w h => List.mem_cons_of_mem _ (List.mem_append_left _ (List.mem_append_left _ (List.mem_append_right _ (h))))) (all_c (P := fun c => ∀ w ∈ c, w ∈ wsX9_init) (fun w h => List.mem_cons_of_mem _ (List.mem_append_left _ (List.mem_append_right _ (h)))) (all_c (P := fun c => ∀ w ∈ c, w ∈ wsX9_init) (fun w h => List.mem_cons_of_mem _ (List.mem_append_right _ (h))) (fun _ h => nomatch h)))))
set_option maxRecDepth 20000 in
theorem ggX9_init_X8_init : GoodIn wsX9_init wsX8_init := goodIn_ca (goodIn_c chX9_init chX9_init_in _ [(0, 20), (0, 21), (0, 1), (0, 2), (0, 22), (0, 23), (1, 0), (1, 1), (1, 2), (1, 3), (1, 4), (1, 5), (1, 6), (1, 7), (0, 15), (1, 8)] (by rfl) (by decide +kernel)) (goodIn_sub (fun _ h => List.mem_cons_of_mem _ (List.mem_append_right _ (h))) (by decide +kernel))
set_option maxRecDepth 20000 in
theorem gX9_init_X8_init_n33 : GoodIn wsX9_init (wsX8_init) := ggX9_init_X8_init
theorem dX9_init_0 : decode cX9_init 0 = .ok (.aload_n 0, 1) := by decide +kernel
theorem dX9_init_1 : decode cX9_init 1 = .ok (.invokespecial 1, 3) := by decide +kernel
theorem dX9_init_4 : decode cX9_init 4 = .ok (.aload_n 0, 1) := by decide +kernel
theorem dX9_init_5 : decode cX9_init 5 = .ok (.bipush 36, 2) := by decide +kernel
theorem dX9_init_7 : decode cX9_init 7 = .ok (.anewarray 7, 3) := by decide +kernel
theorem dX9_init_10 : decode cX9_init 10 = .ok (.putfield 9, 3) := by decide +kernel
theorem dX9_init_13 : decode cX9_init 13 = .ok (.aload_n 0, 1) := by decide +kernel
theorem dX9_init_14 : decode cX9_init 14 = .ok (.bipush 8, 2) := by decide +kernel
theorem dX9_init_16 : decode cX9_init 16 = .ok (.anewarray 15, 3) := by decide +kernel
theorem dX9_init_19 : decode cX9_init 19 = .ok (.putfield 17, 3) := by decide +kernel
theorem dX9_init_22 : decode cX9_init 22 = .ok (.aload_n 0, 1) := by decide +kernel
theorem dX9_init_23 : decode cX9_init 23 = .ok (.iconst 0, 1) := by decide +kernel
theorem dX9_init_24 : decode cX9_init 24 = .ok (.putfield 21, 3) := by decide +kernel
theorem dX9_init_27 : decode cX9_init 27 = .ok (.aload_n 0, 1) := by decide +kernel
theorem dX9_init_28 : decode cX9_init 28 = .ok (.bipush 8, 2) := by decide +kernel
theorem dX9_init_30 : decode cX9_init 30 = .ok (.anewarray 25, 3) := by decide +kernel
theorem dX9_init_33 : decode cX9_init 33 = .ok (.putfield 27, 3) := by decide +kernel
theorem dX9_init_36 : decode cX9_init 36 = .ok (.aload_n 0, 1) := by decide +kernel
theorem dX9_init_37 : decode cX9_init 37 = .ok (.new 31, 3) := by decide +kernel
theorem dX9_init_40 : decode cX9_init 40 = .ok (.dup, 1) := by decide +kernel
theorem dX9_init_41 : decode cX9_init 41 = .ok (.invokespecial 33, 3) := by decide +kernel
theorem dX9_init_44 : decode cX9_init 44 = .ok (.putfield 34, 3) := by decide +kernel
theorem dX9_init_47 : decode cX9_init 47 = .ok (.aload_n 0, 1) := by decide +kernel
theorem dX9_init_48 : decode cX9_init 48 = .ok (.aconst_null, 1) := by decide +kernel
theorem dX9_init_49 : decode cX9_init 49 = .ok (.putfield 38, 3) := by decide +kernel
theorem dX9_init_52 : decode cX9_init 52 = .ok (.aload_n 0, 1) := by decide +kernel
theorem dX9_init_53 : decode cX9_init 53 = .ok (.bipush 12, 2) := by decide +kernel
theorem dX9_init_55 : decode cX9_init 55 = .ok (.newarray .long, 2) := by decide +kernel
theorem dX9_init_57 : decode cX9_init 57 = .ok (.putfield 42, 3) := by decide +kernel
theorem dX9_init_60 : decode cX9_init 60 = .ok (.aload_n 0, 1) := by decide +kernel
theorem dX9_init_61 : decode cX9_init 61 = .ok (.iconst 0, 1) := by decide +kernel
theorem dX9_init_62 : decode cX9_init 62 = .ok (.putfield 46, 3) := by decide +kernel
theorem dX9_init_65 : decode cX9_init 65 = .ok (.aload_n 0, 1) := by decide +kernel
theorem dX9_init_66 : decode cX9_init 66 = .ok (.aconst_null, 1) := by decide +kernel
theorem dX9_init_67 : decode cX9_init 67 = .ok (.putfield 49, 3) := by decide +kernel
theorem dX9_init_70 : decode cX9_init 70 = .ok (.return_, 1) := by decide +kernel
