theorem dX3_sumOfWay_19 : decode cX3_sumOfWay 19 = .ok (.iload_n 3, 1) := by decide +kernel
theorem dX3_sumOfWay_20 : decode cX3_sumOfWay 20 = .ok (.invokevirtual 57, 3) := by decide +kernel
theorem dX3_sumOfWay_23 : decode cX3_sumOfWay 23 = .ok (.iadd, 1) := by decide +kernel
theorem dX3_sumOfWay_24 : decode cX3_sumOfWay 24 = .ok (.istore_n 2, 1) := by decide +kernel
theorem dX3_sumOfWay_25 : decode cX3_sumOfWay 25 = .ok (.iinc 3 1, 3) := by decide +kernel
theorem dX3_sumOfWay_28 : decode cX3_sumOfWay 28 = .ok (.goto (-24), 3) := by decide +kernel
theorem dX3_sumOfWay_31 : decode cX3_sumOfWay 31 = .ok (.iload_n 2, 1) := by decide +kernel
theorem dX3_sumOfWay_32 : decode cX3_sumOfWay 32 = .ok (.ireturn, 1) := by decide +kernel
def chX3_greatestColumns : List (List Cond) := [[.fieldLink RX3 28 "ShadowBench$Job" "board" "LShadowBench$Board;", .fieldLink RX3 54 "ShadowBench$Board" "wide" "I", .methodLink RX3 57 ⟨"ShadowBench$Job", "sumOf", "(II)I"⟩, .sameMethod "ShadowBench$Job" "ShadowBench$Job" "sumOf" "(II)I", .selects RX1 ⟨"ShadowBench$Job", "sumOf", "(II)I"⟩ yX3_sumOf, .instanceMethod yX3_sumOf, .initialized RX3, .code yX3_sumOf cX3_sumOf 4 (some .int), .fieldLink RX3 11 "ShadowBench$Job" "sums" "[I", .methodLink RX3 57 yX3_sumOf, .selects RX3 yX3_sumOf yX3_sumOf, .selects RX4 ⟨"ShadowBench$Job", "sumOf", "(II)I"⟩ yX3_sumOf, .selects RX5 ⟨"ShadowBench$Job", "sumOf", "(II)I"⟩ yX3_sumOf], wsX10, wsX30, wsX40, wsX50, wsX00]
set_option maxRecDepth 20000 in
theorem chX3_greatestColumns_in : ∀ c ∈ chX3_greatestColumns, ∀ w ∈ c, w ∈ wsX3_greatestColumns := (all_c (P := fun c => ∀ w ∈ c, w ∈ wsX3_greatestColumns) (fun w h => List.mem_cons_of_mem _ (List.mem_append_left _ (List.mem_append_left _ (List.mem_append_left _ (List.mem_append_left _ (List.mem_append_left _ (h))))))) (all_c (P := fun c => ∀ w ∈ c, w ∈ wsX3_greatestColumns) (fun w h => List.mem_cons_of_mem _ (List.mem_append_left _ (List.mem_append_left _ (List.mem_append_left _ (List.mem_append_left _ (List.mem_append_right _ (h))))))) (all_c (P := fun c => ∀ w ∈ c, w ∈ wsX3_greatestColumns) (fun w h => List.mem_cons_of_mem _ (List.mem_append_left _ (List.mem_append_left _ (List.mem_append_left _ (List.mem_append_right _ (h)))))) (all_c (P := fun c => ∀ w ∈ c, w ∈ wsX3_greatestColumns) (fun w h => List.mem_cons_of_mem _ (List.mem_append_left _ (List.mem_append_left _ (List.mem_append_right _ (h))))) (all_c (P := fun c => ∀ w ∈ c, w ∈ wsX3_greatestColumns) (fun w h => List.mem_cons_of_mem _ (List.mem_append_left _ (List.mem_append_right _ (h)))) (all_c (P := fun c => ∀ w ∈ c, w ∈ wsX3_greatestColumns) (fun w h => List.mem_cons_of_mem _ (List.mem_append_right _ (h))) (fun _ h => nomatch h)))))))
set_option maxRecDepth 20000 in
theorem ggX3_greatestColumns_X3_sumOf : GoodIn wsX3_greatestColumns wsX3_sumOf := goodIn_ca (goodIn_ca (goodIn_ca (goodIn_ca (goodIn_c chX3_greatestColumns chX3_greatestColumns_in _ [(0, 7), (0, 8)] (by rfl) (by decide +kernel)) (goodIn_sub (fun _ h => List.mem_cons_of_mem _ (List.mem_append_left _ (List.mem_append_left _ (List.mem_append_left _ (List.mem_append_left _ (List.mem_append_right _ (h))))))) (by decide +kernel))) (goodIn_sub (fun _ h => List.mem_cons_of_mem _ (List.mem_append_left _ (List.mem_append_left _ (List.mem_append_left _ (List.mem_append_right _ (h)))))) (by decide +kernel))) (goodIn_sub (fun _ h => List.mem_cons_of_mem _ (List.mem_append_left _ (List.mem_append_left _ (List.mem_append_right _ (h))))) (by decide +kernel))) (goodIn_sub (fun _ h => List.mem_cons_of_mem _ (List.mem_append_left _ (List.mem_append_right _ (h)))) (by decide +kernel))
set_option maxRecDepth 20000 in
theorem gX3_greatestColumns_X3_sumOf_u57X1 : GoodIn wsX3_greatestColumns (va_wsU RX3 57 RX1 "ShadowBench$Job" ⟨"ShadowBench$Job", "sumOf", "(II)I"⟩ yX3_sumOf wsX3_sumOf) := goodIn_app (goodIn_c chX3_greatestColumns chX3_greatestColumns_in _ [(0, 2), (0, 3), (0, 4), (0, 5), (0, 6)] (by rfl) (by decide +kernel)) ggX3_greatestColumns_X3_sumOf
set_option maxRecDepth 20000 in
theorem gX3_greatestColumns_X3_sumOf : GoodIn wsX3_greatestColumns (wsV RX3 57 RX3 yX3_sumOf wsX3_sumOf) := goodIn_app (goodIn_c chX3_greatestColumns chX3_greatestColumns_in _ [(0, 2), (0, 5), (0, 10), (0, 6)] (by rfl) (by decide +kernel)) ggX3_greatestColumns_X3_sumOf
set_option maxRecDepth 20000 in
theorem gX3_greatestColumns_X3_sumOf_u57X4 : GoodIn wsX3_greatestColumns (va_wsU RX3 57 RX4 "ShadowBench$Job" ⟨"ShadowBench$Job", "sumOf", "(II)I"⟩ yX3_sumOf wsX3_sumOf) := goodIn_app (goodIn_c chX3_greatestColumns chX3_greatestColumns_in _ [(0, 2), (0, 3), (0, 11), (0, 5), (0, 6)] (by rfl) (by decide +kernel)) ggX3_greatestColumns_X3_sumOf
set_option maxRecDepth 20000 in
theorem gX3_greatestColumns_X3_sumOf_u57X5 : GoodIn wsX3_greatestColumns (va_wsU RX3 57 RX5 "ShadowBench$Job" ⟨"ShadowBench$Job", "sumOf", "(II)I"⟩ yX3_sumOf wsX3_sumOf) := goodIn_app (goodIn_c chX3_greatestColumns chX3_greatestColumns_in _ [(0, 2), (0, 3), (0, 12), (0, 5), (0, 6)] (by rfl) (by decide +kernel)) ggX3_greatestColumns_X3_sumOf
theorem dX3_greatestColumns_0 : decode cX3_greatestColumns 0 = .ok (.iconst 0, 1) := by decide +kernel
theorem dX3_greatestColumns_1 : decode cX3_greatestColumns 1 = .ok (.istore_n 2, 1) := by decide +kernel
theorem dX3_greatestColumns_2 : decode cX3_greatestColumns 2 = .ok (.iconst 0, 1) := by decide +kernel
theorem dX3_greatestColumns_3 : decode cX3_greatestColumns 3 = .ok (.istore_n 3, 1) := by decide +kernel
theorem dX3_greatestColumns_4 : decode cX3_greatestColumns 4 = .ok (.bipush 6, 2) := by decide +kernel
theorem dX3_greatestColumns_6 : decode cX3_greatestColumns 6 = .ok (.istore 4, 2) := by decide +kernel
theorem dX3_greatestColumns_8 : decode cX3_greatestColumns 8 = .ok (.iload 4, 2) := by decide +kernel
theorem dX3_greatestColumns_10 : decode cX3_greatestColumns 10 = .ok (.ifCond .le 55, 3) := by decide +kernel
theorem dX3_greatestColumns_13 : decode cX3_greatestColumns 13 = .ok (.iconst 0, 1) := by decide +kernel
theorem dX3_greatestColumns_14 : decode cX3_greatestColumns 14 = .ok (.istore 5, 2) := by decide +kernel
theorem dX3_greatestColumns_16 : decode cX3_greatestColumns 16 = .ok (.iload 5, 2) := by decide +kernel
theorem dX3_greatestColumns_18 : decode cX3_greatestColumns 18 = .ok (.aload_n 0, 1) := by decide +kernel
theorem dX3_greatestColumns_19 : decode cX3_greatestColumns 19 = .ok (.getfield 28, 3) := by decide +kernel
theorem dX3_greatestColumns_22 : decode cX3_greatestColumns 22 = .ok (.getfield 54, 3) := by decide +kernel
theorem dX3_greatestColumns_25 : decode cX3_greatestColumns 25 = .ok (.if_icmp .ge 34, 3) := by decide +kernel
theorem dX3_greatestColumns_28 : decode cX3_greatestColumns 28 = .ok (.iload_n 3, 1) := by decide +kernel
theorem dX3_greatestColumns_29 : decode cX3_greatestColumns 29 = .ok (.iload_n 1, 1) := by decide +kernel
theorem dX3_greatestColumns_30 : decode cX3_greatestColumns 30 = .ok (.if_icmp .ge 23, 3) := by decide +kernel
theorem dX3_greatestColumns_33 : decode cX3_greatestColumns 33 = .ok (.aload_n 0, 1) := by decide +kernel
theorem dX3_greatestColumns_34 : decode cX3_greatestColumns 34 = .ok (.iconst 1, 1) := by decide +kernel
theorem dX3_greatestColumns_35 : decode cX3_greatestColumns 35 = .ok (.iload 5, 2) := by decide +kernel
theorem dX3_greatestColumns_37 : decode cX3_greatestColumns 37 = .ok (.invokevirtual 57, 3) := by decide +kernel
theorem dX3_greatestColumns_40 : decode cX3_greatestColumns 40 = .ok (.iload 4, 2) := by decide +kernel
theorem dX3_greatestColumns_42 : decode cX3_greatestColumns 42 = .ok (.if_icmp .ne 11, 3) := by decide +kernel
theorem dX3_greatestColumns_45 : decode cX3_greatestColumns 45 = .ok (.iload_n 2, 1) := by decide +kernel
theorem dX3_greatestColumns_46 : decode cX3_greatestColumns 46 = .ok (.iload 4, 2) := by decide +kernel
theorem dX3_greatestColumns_48 : decode cX3_greatestColumns 48 = .ok (.iadd, 1) := by decide +kernel
theorem dX3_greatestColumns_49 : decode cX3_greatestColumns 49 = .ok (.istore_n 2, 1) := by decide +kernel
theorem dX3_greatestColumns_50 : decode cX3_greatestColumns 50 = .ok (.iinc 3 1, 3) := by decide +kernel
theorem dX3_greatestColumns_53 : decode cX3_greatestColumns 53 = .ok (.iinc 5 1, 3) := by decide +kernel
theorem dX3_greatestColumns_56 : decode cX3_greatestColumns 56 = .ok (.goto (-40), 3) := by decide +kernel
theorem dX3_greatestColumns_59 : decode cX3_greatestColumns 59 = .ok (.iinc 4 (-1), 3) := by decide +kernel
theorem dX3_greatestColumns_62 : decode cX3_greatestColumns 62 = .ok (.goto (-54), 3) := by decide +kernel
theorem dX3_greatestColumns_65 : decode cX3_greatestColumns 65 = .ok (.iload_n 2, 1) := by decide +kernel
theorem dX3_greatestColumns_66 : decode cX3_greatestColumns 66 = .ok (.ireturn, 1) := by decide +kernel
def chX3_roomInRows : List (List Cond) := [[.fieldLink RX3 28 "ShadowBench$Job" "board" "LShadowBench$Board;", .fieldLink RX3 72 "ShadowBench$Board" "high" "I", .methodLink RX3 75 Lib.Math.min.name, .static Lib.Math.min.name, .initialized "java/lang/Math", .code Lib.Math.min.name Lib.Math.min.code 2 (some .int), .methodLink RX3 57 ⟨"ShadowBench$Job", "sumOf", "(II)I"⟩, .sameMethod "ShadowBench$Job" "ShadowBench$Job" "sumOf" "(II)I", .selects RX1 ⟨"ShadowBench$Job", "sumOf", "(II)I"⟩ yX3_sumOf, .instanceMethod yX3_sumOf, .initialized RX3, .code yX3_sumOf cX3_sumOf 4 (some .int), .fieldLink RX3 11 "ShadowBench$Job" "sums" "[I", .methodLink RX3 57 yX3_sumOf, .selects RX3 yX3_sumOf yX3_sumOf, .selects RX4 ⟨"ShadowBench$Job", "sumOf", "(II)I"⟩ yX3_sumOf, .selects RX5 ⟨"ShadowBench$Job", "sumOf", "(II)I"⟩ yX3_sumOf], wsX10, wsX30, wsX40, wsX50, wsX00]
set_option maxRecDepth 20000 in
theorem chX3_roomInRows_in : ∀ c ∈ chX3_roomInRows, ∀ w ∈ c, w ∈ wsX3_roomInRows := (all_c (P := fun c => ∀ w ∈ c, w ∈ wsX3_roomInRows) (fun w h => List.mem_cons_of_mem _ (List.mem_append_left _ (List.mem_append_left _ (List.mem_append_left _ (List.mem_append_left _ (List.mem_append_left _ (h))))))) (all_c (P := fun c => ∀ w ∈ c, w ∈ wsX3_roomInRows) (fun w h => List.mem_cons_of_mem _ (List.mem_append_left _ (List.mem_append_left _ (List.mem_append_left _ (List.mem_append_left _ (List.mem_append_right _ (h))))))) (all_c (P := fun c => ∀ w ∈ c, w ∈ wsX3_roomInRows) (fun w h => List.mem_cons_of_mem _ (List.mem_append_left _ (List.mem_append_left _ (List.mem_append_left _ (List.mem_append_right _ (h)))))) (all_c (P := fun c => ∀ w ∈ c, w ∈ wsX3_roomInRows) (fun w h => List.mem_cons_of_mem _ (List.mem_append_left _ (List.mem_append_left _ (List.mem_append_right _ (h))))) (all_c (P := fun c => ∀ w ∈ c, w ∈ wsX3_roomInRows) (fun w h => List.mem_cons_of_mem _ (List.mem_append_left _ (List.mem_append_right _ (h)))) (all_c (P := fun c => ∀ w ∈ c, w ∈ wsX3_roomInRows) (fun w h => List.mem_cons_of_mem _ (List.mem_append_right _ (h))) (fun _ h => nomatch h)))))))
set_option maxRecDepth 20000 in
theorem ggX3_roomInRows_X3_sumOf : GoodIn wsX3_roomInRows wsX3_sumOf := goodIn_ca (goodIn_ca (goodIn_ca (goodIn_ca (goodIn_c chX3_roomInRows chX3_roomInRows_in _ [(0, 11), (0, 12)] (by rfl) (by decide +kernel)) (goodIn_sub (fun _ h => List.mem_cons_of_mem _ (List.mem_append_left _ (List.mem_append_left _ (List.mem_append_left _ (List.mem_append_left _ (List.mem_append_right _ (h))))))) (by decide +kernel))) (goodIn_sub (fun _ h => List.mem_cons_of_mem _ (List.mem_append_left _ (List.mem_append_left _ (List.mem_append_left _ (List.mem_append_right _ (h)))))) (by decide +kernel))) (goodIn_sub (fun _ h => List.mem_cons_of_mem _ (List.mem_append_left _ (List.mem_append_left _ (List.mem_append_right _ (h))))) (by decide +kernel))) (goodIn_sub (fun _ h => List.mem_cons_of_mem _ (List.mem_append_left _ (List.mem_append_right _ (h)))) (by decide +kernel))
set_option maxRecDepth 20000 in
theorem gX3_roomInRows_X3_sumOf_u57X1 : GoodIn wsX3_roomInRows (va_wsU RX3 57 RX1 "ShadowBench$Job" ⟨"ShadowBench$Job", "sumOf", "(II)I"⟩ yX3_sumOf wsX3_sumOf) := goodIn_app (goodIn_c chX3_roomInRows chX3_roomInRows_in _ [(0, 6), (0, 7), (0, 8), (0, 9), (0, 10)] (by rfl) (by decide +kernel)) ggX3_roomInRows_X3_sumOf
set_option maxRecDepth 20000 in
theorem gX3_roomInRows_X3_sumOf : GoodIn wsX3_roomInRows (wsV RX3 57 RX3 yX3_sumOf wsX3_sumOf) := goodIn_app (goodIn_c chX3_roomInRows chX3_roomInRows_in _ [(0, 6), (0, 9), (0, 14), (0, 10)] (by rfl) (by decide +kernel)) ggX3_roomInRows_X3_sumOf
set_option maxRecDepth 20000 in
theorem gX3_roomInRows_X3_sumOf_u57X4 : GoodIn wsX3_roomInRows (va_wsU RX3 57 RX4 "ShadowBench$Job" ⟨"ShadowBench$Job", "sumOf", "(II)I"⟩ yX3_sumOf wsX3_sumOf) := goodIn_app (goodIn_c chX3_roomInRows chX3_roomInRows_in _ [(0, 6), (0, 7), (0, 15), (0, 9), (0, 10)] (by rfl) (by decide +kernel)) ggX3_roomInRows_X3_sumOf
set_option maxRecDepth 20000 in
theorem gX3_roomInRows_X3_sumOf_u57X5 : GoodIn wsX3_roomInRows (va_wsU RX3 57 RX5 "ShadowBench$Job" ⟨"ShadowBench$Job", "sumOf", "(II)I"⟩ yX3_sumOf wsX3_sumOf) := goodIn_app (goodIn_c chX3_roomInRows chX3_roomInRows_in _ [(0, 6), (0, 7), (0, 16), (0, 9), (0, 10)] (by rfl) (by decide +kernel)) ggX3_roomInRows_X3_sumOf
theorem dX3_roomInRows_0 : decode cX3_roomInRows 0 = .ok (.iconst 0, 1) := by decide +kernel
theorem dX3_roomInRows_1 : decode cX3_roomInRows 1 = .ok (.istore_n 2, 1) := by decide +kernel
theorem dX3_roomInRows_2 : decode cX3_roomInRows 2 = .ok (.iconst 0, 1) := by decide +kernel
theorem dX3_roomInRows_3 : decode cX3_roomInRows 3 = .ok (.istore_n 3, 1) := by decide +kernel
theorem dX3_roomInRows_4 : decode cX3_roomInRows 4 = .ok (.iload_n 3, 1) := by decide +kernel
theorem dX3_roomInRows_5 : decode cX3_roomInRows 5 = .ok (.aload_n 0, 1) := by decide +kernel
theorem dX3_roomInRows_6 : decode cX3_roomInRows 6 = .ok (.getfield 28, 3) := by decide +kernel
theorem dX3_roomInRows_9 : decode cX3_roomInRows 9 = .ok (.getfield 72, 3) := by decide +kernel
theorem dX3_roomInRows_12 : decode cX3_roomInRows 12 = .ok (.if_icmp .ge 22, 3) := by decide +kernel
theorem dX3_roomInRows_15 : decode cX3_roomInRows 15 = .ok (.iload_n 2, 1) := by decide +kernel
theorem dX3_roomInRows_16 : decode cX3_roomInRows 16 = .ok (.iload_n 1, 1) := by decide +kernel
theorem dX3_roomInRows_17 : decode cX3_roomInRows 17 = .ok (.aload_n 0, 1) := by decide +kernel
theorem dX3_roomInRows_18 : decode cX3_roomInRows 18 = .ok (.iconst 0, 1) := by decide +kernel
theorem dX3_roomInRows_19 : decode cX3_roomInRows 19 = .ok (.iload_n 3, 1) := by decide +kernel
theorem dX3_roomInRows_20 : decode cX3_roomInRows 20 = .ok (.invokevirtual 57, 3) := by decide +kernel
theorem dX3_roomInRows_23 : decode cX3_roomInRows 23 = .ok (.invokestatic 75, 3) := by decide +kernel
theorem dX3_roomInRows_26 : decode cX3_roomInRows 26 = .ok (.iadd, 1) := by decide +kernel
theorem dX3_roomInRows_27 : decode cX3_roomInRows 27 = .ok (.istore_n 2, 1) := by decide +kernel
theorem dX3_roomInRows_28 : decode cX3_roomInRows 28 = .ok (.iinc 3 1, 3) := by decide +kernel
theorem dX3_roomInRows_31 : decode cX3_roomInRows 31 = .ok (.goto (-27), 3) := by decide +kernel
theorem dX3_roomInRows_34 : decode cX3_roomInRows 34 = .ok (.iload_n 2, 1) := by decide +kernel
theorem dX3_roomInRows_35 : decode cX3_roomInRows 35 = .ok (.ireturn, 1) := by decide +kernel
theorem dX3_heft_0 : decode cX3_heft 0 = .ok (.bipush 10, 2) := by decide +kernel
theorem dX3_heft_2 : decode cX3_heft 2 = .ok (.aload_n 0, 1) := by decide +kernel
theorem dX3_heft_3 : decode cX3_heft 3 = .ok (.getfield 28, 3) := by decide +kernel
theorem dX3_heft_6 : decode cX3_heft 6 = .ok (.getfield 80, 3) := by decide +kernel
theorem dX3_heft_9 : decode cX3_heft 9 = .ok (.iadd, 1) := by decide +kernel
theorem dX3_heft_10 : decode cX3_heft 10 = .ok (.ireturn, 1) := by decide +kernel
def chX3_asItIs : List (List Cond) := [wsX3_asItIs_r1, wsX3_asItIs_r2, wsX30, wsX10, wsX40, wsX50]
set_option maxRecDepth 20000 in
theorem chX3_asItIs_in : ∀ c ∈ chX3_asItIs, ∀ w ∈ c, w ∈ wsX3_asItIs := (all_c (P := fun c => ∀ w ∈ c, w ∈ wsX3_asItIs) (fun w h => List.mem_cons_of_mem _ (List.mem_append_left _ (List.mem_append_left _ (List.mem_append_left _ (List.mem_append_left _ (List.mem_append_left _ (h))))))) (all_c (P := fun c => ∀ w ∈ c, w ∈ wsX3_asItIs) (fun w h => List.mem_cons_of_mem _ (List.mem_append_left _ (List.mem_append_left _ (List.mem_append_left _ (List.mem_append_left _ (List.mem_append_right _ (h))))))) (all_c (P := fun c => ∀ w ∈ c, w ∈ wsX3_asItIs) (fun w h => List.mem_cons_of_mem _ (List.mem_append_left _ (List.mem_append_left _ (List.mem_append_left _ (List.mem_append_right _ (h)))))) (all_c (P := fun c => ∀ w ∈ c, w ∈ wsX3_asItIs) (fun w h => List.mem_cons_of_mem _ (List.mem_append_left _ (List.mem_append_left _ (List.mem_append_right _ (h))))) (all_c (P := fun c => ∀ w ∈ c, w ∈ wsX3_asItIs) (fun w h => List.mem_cons_of_mem _ (List.mem_append_left _ (List.mem_append_right _ (h)))) (all_c (P := fun c => ∀ w ∈ c, w ∈ wsX3_asItIs) (fun w h => List.mem_cons_of_mem _ (List.mem_append_right _ (h))) (fun _ h => nomatch h)))))))
set_option maxRecDepth 20000 in
theorem ggX3_asItIs_X3_init : GoodIn wsX3_asItIs wsX3_init := goodIn_ca (goodIn_ca (goodIn_ca (goodIn_ca (goodIn_c chX3_asItIs chX3_asItIs_in _ [(0, 6), (0, 7), (0, 8), (0, 9), (0, 10), (0, 11), (0, 3), (0, 12), (0, 13), (0, 14), (0, 15), (0, 16), (0, 17)] (by rfl) (by decide +kernel)) (goodIn_sub (fun _ h => List.mem_cons_of_mem _ (List.mem_append_left _ (List.mem_append_left _ (List.mem_append_right _ (h))))) (by decide +kernel))) (goodIn_sub (fun _ h => List.mem_cons_of_mem _ (List.mem_append_left _ (List.mem_append_left _ (List.mem_append_left _ (List.mem_append_right _ (h)))))) (by decide +kernel))) (goodIn_sub (fun _ h => List.mem_cons_of_mem _ (List.mem_append_left _ (List.mem_append_right _ (h)))) (by decide +kernel))) (goodIn_sub (fun _ h => List.mem_cons_of_mem _ (List.mem_append_right _ (h))) (by decide +kernel))
set_option maxRecDepth 20000 in
theorem gX3_asItIs_X3_init : GoodIn wsX3_asItIs (wsX3_init) := ggX3_asItIs_X3_init
set_option maxRecDepth 20000 in
theorem ggX3_asItIs_X3_alike : GoodIn wsX3_asItIs wsX3_alike := goodIn_ca (goodIn_ca (goodIn_ca (goodIn_ca (goodIn_c chX3_asItIs chX3_asItIs_in _ [(0, 22), (0, 8), (0, 23), (1, 0), (1, 1), (1, 2), (0, 9), (0, 10), (0, 11)] (by rfl) (by decide +kernel)) (goodIn_sub (fun _ h => List.mem_cons_of_mem _ (List.mem_append_left _ (List.mem_append_left _ (List.mem_append_right _ (h))))) (by decide +kernel))) (goodIn_sub (fun _ h => List.mem_cons_of_mem _ (List.mem_append_left _ (List.mem_append_left _ (List.mem_append_left _ (List.mem_append_right _ (h)))))) (by decide +kernel))) (goodIn_sub (fun _ h => List.mem_cons_of_mem _ (List.mem_append_left _ (List.mem_append_right _ (h)))) (by decide +kernel))) (goodIn_sub (fun _ h => List.mem_cons_of_mem _ (List.mem_append_right _ (h))) (by decide +kernel))
set_option maxRecDepth 20000 in
theorem gX3_asItIs_X3_alike : GoodIn wsX3_asItIs (wsV RX3 86 RX3 yX3_alike wsX3_alike) := goodIn_app (goodIn_c chX3_asItIs chX3_asItIs_in _ [(0, 18), (0, 21), (1, 4), (0, 2)] (by rfl) (by decide +kernel)) ggX3_asItIs_X3_alike
theorem dX3_asItIs_0 : decode cX3_asItIs 0 = .ok (.aload_n 0, 1) := by decide +kernel
theorem dX3_asItIs_1 : decode cX3_asItIs 1 = .ok (.new 12, 3) := by decide +kernel
theorem dX3_asItIs_4 : decode cX3_asItIs 4 = .ok (.dup, 1) := by decide +kernel
theorem dX3_asItIs_5 : decode cX3_asItIs 5 = .ok (.aload_n 0, 1) := by decide +kernel
theorem dX3_asItIs_6 : decode cX3_asItIs 6 = .ok (.getfield 28, 3) := by decide +kernel
theorem dX3_asItIs_9 : decode cX3_asItIs 9 = .ok (.invokespecial 83, 3) := by decide +kernel
theorem dX3_asItIs_12 : decode cX3_asItIs 12 = .ok (.invokevirtual 86, 3) := by decide +kernel
theorem dX3_asItIs_15 : decode cX3_asItIs 15 = .ok (.areturn, 1) := by decide +kernel
theorem dX3_alike_0 : decode cX3_alike 0 = .ok (.aload_n 0, 1) := by decide +kernel
theorem dX3_alike_1 : decode cX3_alike 1 = .ok (.getfield 11, 3) := by decide +kernel
theorem dX3_alike_4 : decode cX3_alike 4 = .ok (.iconst 0, 1) := by decide +kernel
theorem dX3_alike_5 : decode cX3_alike 5 = .ok (.aload_n 1, 1) := by decide +kernel
theorem dX3_alike_6 : decode cX3_alike 6 = .ok (.getfield 11, 3) := by decide +kernel
theorem dX3_alike_9 : decode cX3_alike 9 = .ok (.iconst 0, 1) := by decide +kernel
theorem dX3_alike_10 : decode cX3_alike 10 = .ok (.aload_n 0, 1) := by decide +kernel
theorem dX3_alike_11 : decode cX3_alike 11 = .ok (.getfield 11, 3) := by decide +kernel
theorem dX3_alike_14 : decode cX3_alike 14 = .ok (.arraylength, 1) := by decide +kernel
theorem dX3_alike_15 : decode cX3_alike 15 = .ok (.invokestatic 90, 3) := by decide +kernel
theorem dX3_alike_18 : decode cX3_alike 18 = .ok (.aload_n 1, 1) := by decide +kernel
theorem dX3_alike_19 : decode cX3_alike 19 = .ok (.aload_n 0, 1) := by decide +kernel
theorem dX3_alike_20 : decode cX3_alike 20 = .ok (.getfield 17, 3) := by decide +kernel
theorem dX3_alike_23 : decode cX3_alike 23 = .ok (.putfield 17, 3) := by decide +kernel
theorem dX3_alike_26 : decode cX3_alike 26 = .ok (.aload_n 1, 1) := by decide +kernel
theorem dX3_alike_27 : decode cX3_alike 27 = .ok (.aload_n 0, 1) := by decide +kernel
theorem dX3_alike_28 : decode cX3_alike 28 = .ok (.getfield 21, 3) := by decide +kernel
theorem dX3_alike_31 : decode cX3_alike 31 = .ok (.putfield 21, 3) := by decide +kernel
theorem dX3_alike_34 : decode cX3_alike 34 = .ok (.aload_n 1, 1) := by decide +kernel
theorem dX3_alike_35 : decode cX3_alike 35 = .ok (.aload_n 0, 1) := by decide +kernel
theorem dX3_alike_36 : decode cX3_alike 36 = .ok (.getfield 25, 3) := by decide +kernel
theorem dX3_alike_39 : decode cX3_alike 39 = .ok (.putfield 25, 3) := by decide +kernel
theorem dX3_alike_42 : decode cX3_alike 42 = .ok (.aload_n 1, 1) := by decide +kernel
theorem dX3_alike_43 : decode cX3_alike 43 = .ok (.areturn, 1) := by decide +kernel
def chX4_init : List (List Cond) := [[.methodLink RX4 1 yX3_init, .instanceMethod yX3_init, .initialized RX3, .code yX3_init cX3_init 2 none, .arrayClass .int, .fieldLink RX3 11 "ShadowBench$Job" "sums" "[I", .fieldLink RX3 17 "ShadowBench$Job" "toldWays" "I", .fieldLink RX3 21 "ShadowBench$Job" "heldOnes" "J", .fieldLink RX3 25 "ShadowBench$Job" "heldNoughts" "J", .fieldLink RX3 28 "ShadowBench$Job" "board" "LShadowBench$Board;", .instanceMethod yX2_init, .initialized RX2, .code yX2_init cX2_init 1 none, .methodLink RX2 1 objectInit, .instanceMethod objectInit, .code objectInit ⟨#[0xb1]⟩ 1 none], wsX10, wsX30, wsX40, wsX50]
set_option maxRecDepth 20000 in
theorem chX4_init_in : ∀ c ∈ chX4_init, ∀ w ∈ c, w ∈ wsX4_init := (all_c (P := fun c => ∀ w ∈ c, w ∈ wsX4_init) (fun w h => List.mem_cons_of_mem _ (List.mem_append_left _ (List.mem_append_left _ (List.mem_append_left _ (List.mem_append_left _ (h)))))) (all_c (P := fun c => ∀ w ∈ c, w ∈ wsX4_init) (fun w h => List.mem_cons_of_mem _ (List.mem_append_left _ (List.mem_append_left _ (List.mem_append_left _ (List.mem_append_right _ (h)))))) (all_c (P := fun c => ∀ w ∈ c, w ∈ wsX4_init) (fun w h => List.mem_cons_of_mem _ (List.mem_append_left _ (List.mem_append_left _ (List.mem_append_right _ (h))))) (all_c (P := fun c => ∀ w ∈ c, w ∈ wsX4_init) (fun w h => List.mem_cons_of_mem _ (List.mem_append_left _ (List.mem_append_right _ (h)))) (all_c (P := fun c => ∀ w ∈ c, w ∈ wsX4_init) (fun w h => List.mem_cons_of_mem _ (List.mem_append_right _ (h))) (fun _ h => nomatch h))))))
set_option maxRecDepth 20000 in
theorem ggX4_init_X3_init : GoodIn wsX4_init wsX3_init := goodIn_ca (goodIn_ca (goodIn_ca (goodIn_ca (goodIn_c chX4_init chX4_init_in _ [(0, 3), (0, 4), (0, 5), (0, 6), (0, 7), (0, 8), (0, 9), (0, 10), (0, 11), (0, 12), (0, 13), (0, 14), (0, 15)] (by rfl) (by decide +kernel)) (goodIn_sub (fun _ h => List.mem_cons_of_mem _ (List.mem_append_left _ (List.mem_append_left _ (List.mem_append_left _ (List.mem_append_right _ (h)))))) (by decide +kernel))) (goodIn_sub (fun _ h => List.mem_cons_of_mem _ (List.mem_append_left _ (List.mem_append_left _ (List.mem_append_right _ (h))))) (by decide +kernel))) (goodIn_sub (fun _ h => List.mem_cons_of_mem _ (List.mem_append_left _ (List.mem_append_right _ (h)))) (by decide +kernel))) (goodIn_sub (fun _ h => List.mem_cons_of_mem _ (List.mem_append_right _ (h))) (by decide +kernel))
set_option maxRecDepth 20000 in
theorem gX4_init_X3_init : GoodIn wsX4_init (wsX3_init) := ggX4_init_X3_init
theorem dX4_init_0 : decode cX4_init 0 = .ok (.aload_n 0, 1) := by decide +kernel
theorem dX4_init_1 : decode cX4_init 1 = .ok (.aload_n 1, 1) := by decide +kernel
theorem dX4_init_2 : decode cX4_init 2 = .ok (.invokespecial 1, 3) := by decide +kernel
theorem dX4_init_5 : decode cX4_init 5 = .ok (.return_, 1) := by decide +kernel
def chX4_isAsKindAsks : List (List Cond) := [[.fieldLink RX4 7 "ShadowBench$JoinedJob" "board" "LShadowBench$Board;", .sameField "ShadowBench$JoinedJob" "ShadowBench$Job" "board" "LShadowBench$Board;", .methodLink RX4 13 yX0_hangsTogether, .instanceMethod yX0_hangsTogether, .selects RX0 yX0_hangsTogether yX0_hangsTogether, .initialized RX0, .code yX0_hangsTogether cX0_hangsTogether 14 (some .boolean), .fieldLink RX0 9 "ShadowBench$Board" "lines" "[J", .fieldLink RX0 13 "ShadowBench$Board" "wide" "I", .fieldLink RX0 20 "ShadowBench$Board" "squares" "I", .constantLong RX0 73 (-1)], wsX10, wsX30, wsX40, wsX50, wsX00]
set_option maxRecDepth 20000 in
theorem chX4_isAsKindAsks_in : ∀ c ∈ chX4_isAsKindAsks, ∀ w ∈ c, w ∈ wsX4_isAsKindAsks := (all_c (P := fun c => ∀ w ∈ c, w ∈ wsX4_isAsKindAsks) (fun w h => List.mem_cons_of_mem _ (List.mem_append_left _ (List.mem_append_left _ (List.mem_append_left _ (List.mem_append_left _ (List.mem_append_left _ (h))))))) (all_c (P := fun c => ∀ w ∈ c, w ∈ wsX4_isAsKindAsks) (fun w h => List.mem_cons_of_mem _ (List.mem_append_left _ (List.mem_append_left _ (List.mem_append_left _ (List.mem_append_left _ (List.mem_append_right _ (h))))))) (all_c (P := fun c => ∀ w ∈ c, w ∈ wsX4_isAsKindAsks) (fun w h => List.mem_cons_of_mem _ (List.mem_append_left _ (List.mem_append_left _ (List.mem_append_left _ (List.mem_append_right _ (h)))))) (all_c (P := fun c => ∀ w ∈ c, w ∈ wsX4_isAsKindAsks) (fun w h => List.mem_cons_of_mem _ (List.mem_append_left _ (List.mem_append_left _ (List.mem_append_right _ (h))))) (all_c (P := fun c => ∀ w ∈ c, w ∈ wsX4_isAsKindAsks) (fun w h => List.mem_cons_of_mem _ (List.mem_append_left _ (List.mem_append_right _ (h)))) (all_c (P := fun c => ∀ w ∈ c, w ∈ wsX4_isAsKindAsks) (fun w h => List.mem_cons_of_mem _ (List.mem_append_right _ (h))) (fun _ h => nomatch h)))))))
set_option maxRecDepth 20000 in
theorem ggX4_isAsKindAsks_X0_hangsTogether : GoodIn wsX4_isAsKindAsks wsX0_hangsTogether := goodIn_ca (goodIn_c chX4_isAsKindAsks chX4_isAsKindAsks_in _ [(0, 6), (0, 7), (0, 8), (0, 9), (0, 10)] (by rfl) (by decide +kernel)) (goodIn_sub (fun _ h => List.mem_cons_of_mem _ (List.mem_append_right _ (h))) (by decide +kernel))
set_option maxRecDepth 20000 in
theorem gX4_isAsKindAsks_X0_hangsTogether : GoodIn wsX4_isAsKindAsks (wsV RX4 13 RX0 yX0_hangsTogether wsX0_hangsTogether) := goodIn_app (goodIn_c chX4_isAsKindAsks chX4_isAsKindAsks_in _ [(0, 2), (0, 3), (0, 4), (0, 5)] (by rfl) (by decide +kernel)) ggX4_isAsKindAsks_X0_hangsTogether
theorem dX4_isAsKindAsks_0 : decode cX4_isAsKindAsks 0 = .ok (.aload_n 0, 1) := by decide +kernel
theorem dX4_isAsKindAsks_1 : decode cX4_isAsKindAsks 1 = .ok (.getfield 7, 3) := by decide +kernel
theorem dX4_isAsKindAsks_4 : decode cX4_isAsKindAsks 4 = .ok (.lload_n 1, 1) := by decide +kernel
theorem dX4_isAsKindAsks_5 : decode cX4_isAsKindAsks 5 = .ok (.invokevirtual 13, 3) := by decide +kernel
theorem dX4_isAsKindAsks_8 : decode cX4_isAsKindAsks 8 = .ok (.ireturn, 1) := by decide +kernel
def chX4_heft : List (List Cond) := [[.methodLink RX4 19 yX3_heft, .sameMethod "ShadowBench$Job" "ShadowBench$Job" "heft" "()I", .superclass RX4 RX3, .instanceMethod yX3_heft, .initialized RX3, .code yX3_heft cX3_heft 1 (some .int), .fieldLink RX3 28 "ShadowBench$Job" "board" "LShadowBench$Board;", .fieldLink RX3 80 "ShadowBench$Board" "squares" "I"], wsX10, wsX30, wsX40, wsX50, wsX00]
set_option maxRecDepth 20000 in
theorem chX4_heft_in : ∀ c ∈ chX4_heft, ∀ w ∈ c, w ∈ wsX4_heft := (all_c (P := fun c => ∀ w ∈ c, w ∈ wsX4_heft) (fun w h => List.mem_cons_of_mem _ (List.mem_append_left _ (List.mem_append_left _ (List.mem_append_left _ (List.mem_append_left _ (List.mem_append_left _ (h))))))) (all_c (P := fun c => ∀ w ∈ c, w ∈ wsX4_heft) (fun w h => List.mem_cons_of_mem _ (List.mem_append_left _ (List.mem_append_left _ (List.mem_append_left _ (List.mem_append_left _ (List.mem_append_right _ (h))))))) (all_c (P := fun c => ∀ w ∈ c, w ∈ wsX4_heft) (fun w h => List.mem_cons_of_mem _ (List.mem_append_left _ (List.mem_append_left _ (List.mem_append_left _ (List.mem_append_right _ (h)))))) (all_c (P := fun c => ∀ w ∈ c, w ∈ wsX4_heft) (fun w h => List.mem_cons_of_mem _ (List.mem_append_left _ (List.mem_append_left _ (List.mem_append_right _ (h))))) (all_c (P := fun c => ∀ w ∈ c, w ∈ wsX4_heft) (fun w h => List.mem_cons_of_mem _ (List.mem_append_left _ (List.mem_append_right _ (h)))) (all_c (P := fun c => ∀ w ∈ c, w ∈ wsX4_heft) (fun w h => List.mem_cons_of_mem _ (List.mem_append_right _ (h))) (fun _ h => nomatch h)))))))
set_option maxRecDepth 20000 in
theorem ggX4_heft_X3_heft : GoodIn wsX4_heft wsX3_heft := goodIn_ca (goodIn_ca (goodIn_ca (goodIn_ca (goodIn_ca (goodIn_c chX4_heft chX4_heft_in _ [(0, 5), (0, 6), (0, 7)] (by rfl) (by decide +kernel)) (goodIn_sub (fun _ h => List.mem_cons_of_mem _ (List.mem_append_left _ (List.mem_append_left _ (List.mem_append_left _ (List.mem_append_left _ (List.mem_append_right _ (h))))))) (by decide +kernel))) (goodIn_sub (fun _ h => List.mem_cons_of_mem _ (List.mem_append_left _ (List.mem_append_left _ (List.mem_append_left _ (List.mem_append_right _ (h)))))) (by decide +kernel))) (goodIn_sub (fun _ h => List.mem_cons_of_mem _ (List.mem_append_left _ (List.mem_append_left _ (List.mem_append_right _ (h))))) (by decide +kernel))) (goodIn_sub (fun _ h => List.mem_cons_of_mem _ (List.mem_append_left _ (List.mem_append_right _ (h)))) (by decide +kernel))) (goodIn_sub (fun _ h => List.mem_cons_of_mem _ (List.mem_append_right _ (h))) (by decide +kernel))
set_option maxRecDepth 20000 in
theorem gX4_heft_X3_heft_s19 : GoodIn wsX4_heft (va_wsSU RX4 19 yX3_heft wsX3_heft) := goodIn_app (goodIn_of _ (by decide +kernel)) ggX4_heft_X3_heft
theorem dX4_heft_0 : decode cX4_heft 0 = .ok (.aload_n 0, 1) := by decide +kernel
theorem dX4_heft_1 : decode cX4_heft 1 = .ok (.invokespecial 19, 3) := by decide +kernel
theorem dX4_heft_4 : decode cX4_heft 4 = .ok (.bipush 100, 2) := by decide +kernel
theorem dX4_heft_6 : decode cX4_heft 6 = .ok (.iadd, 1) := by decide +kernel
theorem dX4_heft_7 : decode cX4_heft 7 = .ok (.ireturn, 1) := by decide +kernel
def chX4_asItIs : List (List Cond) := [wsX4_asItIs_r1, wsX4_asItIs_r2, wsX40, wsX10, wsX30, wsX50]
set_option maxRecDepth 20000 in
theorem chX4_asItIs_in : ∀ c ∈ chX4_asItIs, ∀ w ∈ c, w ∈ wsX4_asItIs := (all_c (P := fun c => ∀ w ∈ c, w ∈ wsX4_asItIs) (fun w h => List.mem_cons_of_mem _ (List.mem_append_left _ (List.mem_append_left _ (List.mem_append_left _ (List.mem_append_left _ (List.mem_append_left _ (h))))))) (all_c (P := fun c => ∀ w ∈ c, w ∈ wsX4_asItIs) (fun w h => List.mem_cons_of_mem _ (List.mem_append_left _ (List.mem_append_left _ (List.mem_append_left _ (List.mem_append_left _ (List.mem_append_right _ (h))))))) (all_c (P := fun c => ∀ w ∈ c, w ∈ wsX4_asItIs) (fun w h => List.mem_cons_of_mem _ (List.mem_append_left _ (List.mem_append_left _ (List.mem_append_left _ (List.mem_append_right _ (h)))))) (all_c (P := fun c => ∀ w ∈ c, w ∈ wsX4_asItIs) (fun w h => List.mem_cons_of_mem _ (List.mem_append_left _ (List.mem_append_left _ (List.mem_append_right _ (h))))) (all_c (P := fun c => ∀ w ∈ c, w ∈ wsX4_asItIs) (fun w h => List.mem_cons_of_mem _ (List.mem_append_left _ (List.mem_append_right _ (h)))) (all_c (P := fun c => ∀ w ∈ c, w ∈ wsX4_asItIs) (fun w h => List.mem_cons_of_mem _ (List.mem_append_right _ (h))) (fun _ h => nomatch h)))))))
set_option maxRecDepth 20000 in
theorem ggX4_asItIs_X4_init : GoodIn wsX4_asItIs wsX4_init := goodIn_ca (goodIn_ca (goodIn_ca (goodIn_ca (goodIn_c chX4_asItIs chX4_asItIs_in _ [(0, 7), (0, 8), (0, 9), (0, 10), (0, 11), (0, 12), (0, 13), (0, 14), (0, 15), (0, 16), (0, 17), (0, 18), (0, 19), (0, 20), (0, 21), (0, 22), (0, 23)] (by rfl) (by decide +kernel)) (goodIn_sub (fun _ h => List.mem_cons_of_mem _ (List.mem_append_left _ (List.mem_append_left _ (List.mem_append_right _ (h))))) (by decide +kernel))) (goodIn_sub (fun _ h => List.mem_cons_of_mem _ (List.mem_append_left _ (List.mem_append_right _ (h)))) (by decide +kernel))) (goodIn_sub (fun _ h => List.mem_cons_of_mem _ (List.mem_append_left _ (List.mem_append_left _ (List.mem_append_left _ (List.mem_append_right _ (h)))))) (by decide +kernel))) (goodIn_sub (fun _ h => List.mem_cons_of_mem _ (List.mem_append_right _ (h))) (by decide +kernel))
set_option maxRecDepth 20000 in
theorem gX4_asItIs_X4_init : GoodIn wsX4_asItIs (wsX4_init) := ggX4_asItIs_X4_init
set_option maxRecDepth 20000 in
theorem ggX4_asItIs_X3_alike : GoodIn wsX4_asItIs wsX3_alike := goodIn_ca (goodIn_ca (goodIn_ca (goodIn_ca (goodIn_c chX4_asItIs chX4_asItIs_in _ [(1, 4), (0, 13), (1, 5), (1, 6), (1, 7), (1, 8), (0, 14), (0, 15), (0, 16)] (by rfl) (by decide +kernel)) (goodIn_sub (fun _ h => List.mem_cons_of_mem _ (List.mem_append_left _ (List.mem_append_left _ (List.mem_append_right _ (h))))) (by decide +kernel))) (goodIn_sub (fun _ h => List.mem_cons_of_mem _ (List.mem_append_left _ (List.mem_append_right _ (h)))) (by decide +kernel))) (goodIn_sub (fun _ h => List.mem_cons_of_mem _ (List.mem_append_left _ (List.mem_append_left _ (List.mem_append_left _ (List.mem_append_right _ (h)))))) (by decide +kernel))) (goodIn_sub (fun _ h => List.mem_cons_of_mem _ (List.mem_append_right _ (h))) (by decide +kernel))
set_option maxRecDepth 20000 in
theorem gX4_asItIs_X3_alike_u31X4 : GoodIn wsX4_asItIs (va_wsU RX4 31 RX4 "ShadowBench$Job" ⟨"ShadowBench$JoinedJob", "alike", "(LShadowBench$Job;)LShadowBench$Job;"⟩ yX3_alike wsX3_alike) := goodIn_app (goodIn_c chX4_asItIs chX4_asItIs_in _ [(1, 0), (1, 1), (1, 9), (1, 3), (0, 10)] (by rfl) (by decide +kernel)) ggX4_asItIs_X3_alike
theorem dX4_asItIs_0 : decode cX4_asItIs 0 = .ok (.aload_n 0, 1) := by decide +kernel
theorem dX4_asItIs_1 : decode cX4_asItIs 1 = .ok (.new 8, 3) := by decide +kernel
theorem dX4_asItIs_4 : decode cX4_asItIs 4 = .ok (.dup, 1) := by decide +kernel
theorem dX4_asItIs_5 : decode cX4_asItIs 5 = .ok (.aload_n 0, 1) := by decide +kernel
theorem dX4_asItIs_6 : decode cX4_asItIs 6 = .ok (.getfield 7, 3) := by decide +kernel
theorem dX4_asItIs_9 : decode cX4_asItIs 9 = .ok (.invokespecial 30, 3) := by decide +kernel
theorem dX4_asItIs_12 : decode cX4_asItIs 12 = .ok (.invokevirtual 31, 3) := by decide +kernel
theorem dX4_asItIs_15 : decode cX4_asItIs 15 = .ok (.areturn, 1) := by decide +kernel
def chX5_init : List (List Cond) := [[.fieldLink RX5 7 "ShadowBench$Board" "squares" "I", .arrayClass .int, .fieldLink RX5 13 "ShadowBench$MarkedJob" "marks" "[I", .methodLink RX5 1 yX3_init, .instanceMethod yX3_init, .initialized RX3, .code yX3_init cX3_init 2 none, .fieldLink RX3 11 "ShadowBench$Job" "sums" "[I", .fieldLink RX3 17 "ShadowBench$Job" "toldWays" "I", .fieldLink RX3 21 "ShadowBench$Job" "heldOnes" "J", .fieldLink RX3 25 "ShadowBench$Job" "heldNoughts" "J", .fieldLink RX3 28 "ShadowBench$Job" "board" "LShadowBench$Board;", .instanceMethod yX2_init, .initialized RX2, .code yX2_init cX2_init 1 none, .methodLink RX2 1 objectInit, .instanceMethod objectInit, .code objectInit ⟨#[0xb1]⟩ 1 none], wsX00, wsX50, wsX10, wsX30, wsX40]
set_option maxRecDepth 20000 in
theorem chX5_init_in : ∀ c ∈ chX5_init, ∀ w ∈ c, w ∈ wsX5_init := (all_c (P := fun c => ∀ w ∈ c, w ∈ wsX5_init) (fun w h => List.mem_cons_of_mem _ (List.mem_append_left _ (List.mem_append_left _ (List.mem_append_left _ (List.mem_append_left _ (List.mem_append_left _ (h))))))) (all_c (P := fun c => ∀ w ∈ c, w ∈ wsX5_init) (fun w h => List.mem_cons_of_mem _ (List.mem_append_left _ (List.mem_append_left _ (List.mem_append_left _ (List.mem_append_left _ (List.mem_append_right _ (h))))))) (all_c (P := fun c => ∀ w ∈ c, w ∈ wsX5_init) (fun w h => List.mem_cons_of_mem _ (List.mem_append_left _ (List.mem_append_left _ (List.mem_append_left _ (List.mem_append_right _ (h)))))) (all_c (P := fun c => ∀ w ∈ c, w ∈ wsX5_init) (fun w h => List.mem_cons_of_mem _ (List.mem_append_left _ (List.mem_append_left _ (List.mem_append_right _ (h))))) (all_c (P := fun c => ∀ w ∈ c, w ∈ wsX5_init) (fun w h => List.mem_cons_of_mem _ (List.mem_append_left _ (List.mem_append_right _ (h)))) (all_c (P := fun c => ∀ w ∈ c, w ∈ wsX5_init) (fun w h => List.mem_cons_of_mem _ (List.mem_append_right _ (h))) (fun _ h => nomatch h)))))))
set_option maxRecDepth 20000 in
theorem ggX5_init_X3_init : GoodIn wsX5_init wsX3_init := goodIn_ca (goodIn_ca (goodIn_ca (goodIn_ca (goodIn_c chX5_init chX5_init_in _ [(0, 6), (0, 1), (0, 7), (0, 8), (0, 9), (0, 10), (0, 11), (0, 12), (0, 13), (0, 14), (0, 15), (0, 16), (0, 17)] (by rfl) (by decide +kernel)) (goodIn_sub (fun _ h => List.mem_cons_of_mem _ (List.mem_append_left _ (List.mem_append_left _ (List.mem_append_right _ (h))))) (by decide +kernel))) (goodIn_sub (fun _ h => List.mem_cons_of_mem _ (List.mem_append_left _ (List.mem_append_right _ (h)))) (by decide +kernel))) (goodIn_sub (fun _ h => List.mem_cons_of_mem _ (List.mem_append_right _ (h))) (by decide +kernel))) (goodIn_sub (fun _ h => List.mem_cons_of_mem _ (List.mem_append_left _ (List.mem_append_left _ (List.mem_append_left _ (List.mem_append_right _ (h)))))) (by decide +kernel))
set_option maxRecDepth 20000 in
theorem gX5_init_X3_init : GoodIn wsX5_init (wsX3_init) := ggX5_init_X3_init
theorem dX5_init_0 : decode cX5_init 0 = .ok (.aload_n 0, 1) := by decide +kernel
theorem dX5_init_1 : decode cX5_init 1 = .ok (.aload_n 1, 1) := by decide +kernel
theorem dX5_init_2 : decode cX5_init 2 = .ok (.invokespecial 1, 3) := by decide +kernel
theorem dX5_init_5 : decode cX5_init 5 = .ok (.aload_n 0, 1) := by decide +kernel
theorem dX5_init_6 : decode cX5_init 6 = .ok (.aload_n 1, 1) := by decide +kernel
theorem dX5_init_7 : decode cX5_init 7 = .ok (.getfield 7, 3) := by decide +kernel
theorem dX5_init_10 : decode cX5_init 10 = .ok (.newarray .int, 2) := by decide +kernel
theorem dX5_init_12 : decode cX5_init 12 = .ok (.putfield 13, 3) := by decide +kernel
theorem dX5_init_15 : decode cX5_init 15 = .ok (.return_, 1) := by decide +kernel
theorem dX5_setMark_0 : decode cX5_setMark 0 = .ok (.iload_n 1, 1) := by decide +kernel
theorem dX5_setMark_1 : decode cX5_setMark 1 = .ok (.ifCond .lt 22, 3) := by decide +kernel
theorem dX5_setMark_4 : decode cX5_setMark 4 = .ok (.iload_n 1, 1) := by decide +kernel
theorem dX5_setMark_5 : decode cX5_setMark 5 = .ok (.aload_n 0, 1) := by decide +kernel
theorem dX5_setMark_6 : decode cX5_setMark 6 = .ok (.getfield 13, 3) := by decide +kernel
theorem dX5_setMark_9 : decode cX5_setMark 9 = .ok (.arraylength, 1) := by decide +kernel
theorem dX5_setMark_10 : decode cX5_setMark 10 = .ok (.if_icmp .ge 13, 3) := by decide +kernel
theorem dX5_setMark_13 : decode cX5_setMark 13 = .ok (.aload_n 0, 1) := by decide +kernel
theorem dX5_setMark_14 : decode cX5_setMark 14 = .ok (.getfield 13, 3) := by decide +kernel
theorem dX5_setMark_17 : decode cX5_setMark 17 = .ok (.iload_n 1, 1) := by decide +kernel
theorem dX5_setMark_18 : decode cX5_setMark 18 = .ok (.iaload, 1) := by decide +kernel
theorem dX5_setMark_19 : decode cX5_setMark 19 = .ok (.iload_n 2, 1) := by decide +kernel
theorem dX5_setMark_20 : decode cX5_setMark 20 = .ok (.if_icmp .ne 5, 3) := by decide +kernel
theorem dX5_setMark_23 : decode cX5_setMark 23 = .ok (.iconst 0, 1) := by decide +kernel
theorem dX5_setMark_24 : decode cX5_setMark 24 = .ok (.ireturn, 1) := by decide +kernel
theorem dX5_setMark_25 : decode cX5_setMark 25 = .ok (.aload_n 0, 1) := by decide +kernel
theorem dX5_setMark_26 : decode cX5_setMark 26 = .ok (.getfield 13, 3) := by decide +kernel
theorem dX5_setMark_29 : decode cX5_setMark 29 = .ok (.iload_n 1, 1) := by decide +kernel
theorem dX5_setMark_30 : decode cX5_setMark 30 = .ok (.iload_n 2, 1) := by decide +kernel
theorem dX5_setMark_31 : decode cX5_setMark 31 = .ok (.iastore, 1) := by decide +kernel
theorem dX5_setMark_32 : decode cX5_setMark 32 = .ok (.iconst 1, 1) := by decide +kernel
theorem dX5_setMark_33 : decode cX5_setMark 33 = .ok (.ireturn, 1) := by decide +kernel
theorem dX5_worthOf_0 : decode cX5_worthOf 0 = .ok (.iconst 0, 1) := by decide +kernel
theorem dX5_worthOf_1 : decode cX5_worthOf 1 = .ok (.istore_n 3, 1) := by decide +kernel
theorem dX5_worthOf_2 : decode cX5_worthOf 2 = .ok (.iconst 0, 1) := by decide +kernel
theorem dX5_worthOf_3 : decode cX5_worthOf 3 = .ok (.istore 4, 2) := by decide +kernel
theorem dX5_worthOf_5 : decode cX5_worthOf 5 = .ok (.iload 4, 2) := by decide +kernel
theorem dX5_worthOf_7 : decode cX5_worthOf 7 = .ok (.aload_n 0, 1) := by decide +kernel
theorem dX5_worthOf_8 : decode cX5_worthOf 8 = .ok (.getfield 13, 3) := by decide +kernel
theorem dX5_worthOf_11 : decode cX5_worthOf 11 = .ok (.arraylength, 1) := by decide +kernel
theorem dX5_worthOf_12 : decode cX5_worthOf 12 = .ok (.if_icmp .ge 30, 3) := by decide +kernel
theorem dX5_worthOf_15 : decode cX5_worthOf 15 = .ok (.lload_n 1, 1) := by decide +kernel
theorem dX5_worthOf_16 : decode cX5_worthOf 16 = .ok (.iload 4, 2) := by decide +kernel
theorem dX5_worthOf_18 : decode cX5_worthOf 18 = .ok (.lushr, 1) := by decide +kernel
theorem dX5_worthOf_19 : decode cX5_worthOf 19 = .ok (.lconst 1, 1) := by decide +kernel
theorem dX5_worthOf_20 : decode cX5_worthOf 20 = .ok (.land, 1) := by decide +kernel
theorem dX5_worthOf_21 : decode cX5_worthOf 21 = .ok (.lconst 1, 1) := by decide +kernel
theorem dX5_worthOf_22 : decode cX5_worthOf 22 = .ok (.lcmp, 1) := by decide +kernel
theorem dX5_worthOf_23 : decode cX5_worthOf 23 = .ok (.ifCond .ne 13, 3) := by decide +kernel
theorem dX5_worthOf_26 : decode cX5_worthOf 26 = .ok (.iload_n 3, 1) := by decide +kernel
theorem dX5_worthOf_27 : decode cX5_worthOf 27 = .ok (.aload_n 0, 1) := by decide +kernel
theorem dX5_worthOf_28 : decode cX5_worthOf 28 = .ok (.getfield 13, 3) := by decide +kernel
theorem dX5_worthOf_31 : decode cX5_worthOf 31 = .ok (.iload 4, 2) := by decide +kernel
theorem dX5_worthOf_33 : decode cX5_worthOf 33 = .ok (.iaload, 1) := by decide +kernel
theorem dX5_worthOf_34 : decode cX5_worthOf 34 = .ok (.iadd, 1) := by decide +kernel
theorem dX5_worthOf_35 : decode cX5_worthOf 35 = .ok (.istore_n 3, 1) := by decide +kernel
theorem dX5_worthOf_36 : decode cX5_worthOf 36 = .ok (.iinc 4 1, 3) := by decide +kernel
theorem dX5_worthOf_39 : decode cX5_worthOf 39 = .ok (.goto (-34), 3) := by decide +kernel
theorem dX5_worthOf_42 : decode cX5_worthOf 42 = .ok (.iload_n 3, 1) := by decide +kernel
theorem dX5_worthOf_43 : decode cX5_worthOf 43 = .ok (.ireturn, 1) := by decide +kernel
def chX5_heft : List (List Cond) := [[.constantLong RX5 23 (-1), .methodLink RX5 19 yX3_heft, .sameMethod "ShadowBench$Job" "ShadowBench$Job" "heft" "()I", .superclass RX5 RX3, .instanceMethod yX3_heft, .initialized RX3, .code yX3_heft cX3_heft 1 (some .int), .fieldLink RX3 28 "ShadowBench$Job" "board" "LShadowBench$Board;", .fieldLink RX3 80 "ShadowBench$Board" "squares" "I", .methodLink RX5 25 yX5_worthOf, .instanceMethod yX5_worthOf, .selects RX5 yX5_worthOf yX5_worthOf, .initialized RX5, .code yX5_worthOf cX5_worthOf 5 (some .int), .fieldLink RX5 13 "ShadowBench$MarkedJob" "marks" "[I"], wsX10, wsX30, wsX40, wsX50, wsX00]
set_option maxRecDepth 20000 in
theorem chX5_heft_in : ∀ c ∈ chX5_heft, ∀ w ∈ c, w ∈ wsX5_heft := (all_c (P := fun c => ∀ w ∈ c, w ∈ wsX5_heft) (fun w h => List.mem_cons_of_mem _ (List.mem_append_left _ (List.mem_append_left _ (List.mem_append_left _ (List.mem_append_left _ (List.mem_append_left _ (h))))))) (all_c (P := fun c => ∀ w ∈ c, w ∈ wsX5_heft) (fun w h => List.mem_cons_of_mem _ (List.mem_append_left _ (List.mem_append_left _ (List.mem_append_left _ (List.mem_append_left _ (List.mem_append_right _ (h))))))) (all_c (P := fun c => ∀ w ∈ c, w ∈ wsX5_heft) (fun w h => List.mem_cons_of_mem _ (List.mem_append_left _ (List.mem_append_left _ (List.mem_append_left _ (List.mem_append_right _ (h)))))) (all_c (P := fun c => ∀ w ∈ c, w ∈ wsX5_heft) (fun w h => List.mem_cons_of_mem _ (List.mem_append_left _ (List.mem_append_left _ (List.mem_append_right _ (h))))) (all_c (P := fun c => ∀ w ∈ c, w ∈ wsX5_heft) (fun w h => List.mem_cons_of_mem _ (List.mem_append_left _ (List.mem_append_right _ (h)))) (all_c (P := fun c => ∀ w ∈ c, w ∈ wsX5_heft) (fun w h => List.mem_cons_of_mem _ (List.mem_append_right _ (h))) (fun _ h => nomatch h)))))))
set_option maxRecDepth 20000 in
theorem ggX5_heft_X3_heft : GoodIn wsX5_heft wsX3_heft := goodIn_ca (goodIn_ca (goodIn_ca (goodIn_ca (goodIn_ca (goodIn_c chX5_heft chX5_heft_in _ [(0, 6), (0, 7), (0, 8)] (by rfl) (by decide +kernel)) (goodIn_sub (fun _ h => List.mem_cons_of_mem _ (List.mem_append_left _ (List.mem_append_left _ (List.mem_append_left _ (List.mem_append_left _ (List.mem_append_right _ (h))))))) (by decide +kernel))) (goodIn_sub (fun _ h => List.mem_cons_of_mem _ (List.mem_append_left _ (List.mem_append_left _ (List.mem_append_left _ (List.mem_append_right _ (h)))))) (by decide +kernel))) (goodIn_sub (fun _ h => List.mem_cons_of_mem _ (List.mem_append_left _ (List.mem_append_left _ (List.mem_append_right _ (h))))) (by decide +kernel))) (goodIn_sub (fun _ h => List.mem_cons_of_mem _ (List.mem_append_left _ (List.mem_append_right _ (h)))) (by decide +kernel))) (goodIn_sub (fun _ h => List.mem_cons_of_mem _ (List.mem_append_right _ (h))) (by decide +kernel))
set_option maxRecDepth 20000 in
theorem gX5_heft_X3_heft_s19 : GoodIn wsX5_heft (va_wsSU RX5 19 yX3_heft wsX3_heft) := goodIn_app (goodIn_of _ (by decide +kernel)) ggX5_heft_X3_heft
set_option maxRecDepth 20000 in
theorem ggX5_heft_X5_worthOf : GoodIn wsX5_heft wsX5_worthOf := goodIn_ca (goodIn_c chX5_heft chX5_heft_in _ [(0, 13), (0, 14)] (by rfl) (by decide +kernel)) (goodIn_sub (fun _ h => List.mem_cons_of_mem _ (List.mem_append_left _ (List.mem_append_right _ (h)))) (by decide +kernel))
set_option maxRecDepth 20000 in
theorem gX5_heft_X5_worthOf : GoodIn wsX5_heft (wsV RX5 25 RX5 yX5_worthOf wsX5_worthOf) := goodIn_app (goodIn_c chX5_heft chX5_heft_in _ [(0, 9), (0, 10), (0, 11), (0, 12)] (by rfl) (by decide +kernel)) ggX5_heft_X5_worthOf
theorem dX5_heft_0 : decode cX5_heft 0 = .ok (.aload_n 0, 1) := by decide +kernel
theorem dX5_heft_1 : decode cX5_heft 1 = .ok (.invokespecial 19, 3) := by decide +kernel
theorem dX5_heft_4 : decode cX5_heft 4 = .ok (.aload_n 0, 1) := by decide +kernel
theorem dX5_heft_5 : decode cX5_heft 5 = .ok (.ldc2_w 23, 3) := by decide +kernel
theorem dX5_heft_8 : decode cX5_heft 8 = .ok (.invokevirtual 25, 3) := by decide +kernel
theorem dX5_heft_11 : decode cX5_heft 11 = .ok (.iadd, 1) := by decide +kernel
theorem dX5_heft_12 : decode cX5_heft 12 = .ok (.ireturn, 1) := by decide +kernel
def chX5_asItIs : List (List Cond) := [wsX5_asItIs_r1, wsX5_asItIs_r2, wsX50, wsX10, wsX30, wsX40, wsX00]
set_option maxRecDepth 20000 in
theorem chX5_asItIs_in : ∀ c ∈ chX5_asItIs, ∀ w ∈ c, w ∈ wsX5_asItIs := (all_c (P := fun c => ∀ w ∈ c, w ∈ wsX5_asItIs) (fun w h => List.mem_cons_of_mem _ (List.mem_append_left _ (List.mem_append_left _ (List.mem_append_left _ (List.mem_append_left _ (List.mem_append_left _ (List.mem_append_left _ (h)))))))) (all_c (P := fun c => ∀ w ∈ c, w ∈ wsX5_asItIs) (fun w h => List.mem_cons_of_mem _ (List.mem_append_left _ (List.mem_append_left _ (List.mem_append_left _ (List.mem_append_left _ (List.mem_append_left _ (List.mem_append_right _ (h)))))))) (all_c (P := fun c => ∀ w ∈ c, w ∈ wsX5_asItIs) (fun w h => List.mem_cons_of_mem _ (List.mem_append_left _ (List.mem_append_left _ (List.mem_append_left _ (List.mem_append_left _ (List.mem_append_right _ (h))))))) (all_c (P := fun c => ∀ w ∈ c, w ∈ wsX5_asItIs) (fun w h => List.mem_cons_of_mem _ (List.mem_append_left _ (List.mem_append_left _ (List.mem_append_left _ (List.mem_append_right _ (h)))))) (all_c (P := fun c => ∀ w ∈ c, w ∈ wsX5_asItIs) (fun w h => List.mem_cons_of_mem _ (List.mem_append_left _ (List.mem_append_left _ (List.mem_append_right _ (h))))) (all_c (P := fun c => ∀ w ∈ c, w ∈ wsX5_asItIs) (fun w h => List.mem_cons_of_mem _ (List.mem_append_left _ (List.mem_append_right _ (h)))) (all_c (P := fun c => ∀ w ∈ c, w ∈ wsX5_asItIs) (fun w h => List.mem_cons_of_mem _ (List.mem_append_right _ (h))) (fun _ h => nomatch h))))))))
set_option maxRecDepth 20000 in
theorem ggX5_asItIs_X5_init : GoodIn wsX5_asItIs wsX5_init := goodIn_ca (goodIn_ca (goodIn_ca (goodIn_ca (goodIn_ca (goodIn_c chX5_asItIs chX5_asItIs_in _ [(0, 12), (0, 13), (0, 14), (0, 5), (0, 15), (0, 16), (0, 17), (0, 18), (0, 19), (0, 20), (0, 21), (0, 22), (0, 23), (1, 0), (1, 1), (1, 2), (1, 3), (1, 4), (1, 5)] (by rfl) (by decide +kernel)) (goodIn_sub (fun _ h => List.mem_cons_of_mem _ (List.mem_append_right _ (h))) (by decide +kernel))) (goodIn_sub (fun _ h => List.mem_cons_of_mem _ (List.mem_append_left _ (List.mem_append_left _ (List.mem_append_left _ (List.mem_append_left _ (List.mem_append_right _ (h))))))) (by decide +kernel))) (goodIn_sub (fun _ h => List.mem_cons_of_mem _ (List.mem_append_left _ (List.mem_append_left _ (List.mem_append_left _ (List.mem_append_right _ (h)))))) (by decide +kernel))) (goodIn_sub (fun _ h => List.mem_cons_of_mem _ (List.mem_append_left _ (List.mem_append_left _ (List.mem_append_right _ (h))))) (by decide +kernel))) (goodIn_sub (fun _ h => List.mem_cons_of_mem _ (List.mem_append_left _ (List.mem_append_right _ (h)))) (by decide +kernel))
set_option maxRecDepth 20000 in
theorem gX5_asItIs_X5_init : GoodIn wsX5_asItIs (wsX5_init) := ggX5_asItIs_X5_init
set_option maxRecDepth 20000 in
theorem ggX5_asItIs_X3_alike : GoodIn wsX5_asItIs wsX3_alike := goodIn_ca (goodIn_ca (goodIn_ca (goodIn_ca (goodIn_c chX5_asItIs chX5_asItIs_in _ [(1, 10), (0, 19), (1, 11), (0, 7), (0, 8), (0, 9), (0, 20), (0, 21), (0, 22)] (by rfl) (by decide +kernel)) (goodIn_sub (fun _ h => List.mem_cons_of_mem _ (List.mem_append_left _ (List.mem_append_left _ (List.mem_append_left _ (List.mem_append_right _ (h)))))) (by decide +kernel))) (goodIn_sub (fun _ h => List.mem_cons_of_mem _ (List.mem_append_left _ (List.mem_append_left _ (List.mem_append_right _ (h))))) (by decide +kernel))) (goodIn_sub (fun _ h => List.mem_cons_of_mem _ (List.mem_append_left _ (List.mem_append_right _ (h)))) (by decide +kernel))) (goodIn_sub (fun _ h => List.mem_cons_of_mem _ (List.mem_append_left _ (List.mem_append_left _ (List.mem_append_left _ (List.mem_append_left _ (List.mem_append_right _ (h))))))) (by decide +kernel))
set_option maxRecDepth 20000 in
theorem gX5_asItIs_X3_alike_u47X5 : GoodIn wsX5_asItIs (va_wsU RX5 47 RX5 "ShadowBench$Job" ⟨"ShadowBench$MarkedJob", "alike", "(LShadowBench$Job;)LShadowBench$Job;"⟩ yX3_alike wsX3_alike) := goodIn_app (goodIn_c chX5_asItIs chX5_asItIs_in _ [(1, 6), (1, 7), (1, 8), (1, 9), (0, 17)] (by rfl) (by decide +kernel)) ggX5_asItIs_X3_alike
theorem dX5_asItIs_0 : decode cX5_asItIs 0 = .ok (.new 14, 3) := by decide +kernel
theorem dX5_asItIs_3 : decode cX5_asItIs 3 = .ok (.dup, 1) := by decide +kernel
theorem dX5_asItIs_4 : decode cX5_asItIs 4 = .ok (.aload_n 0, 1) := by decide +kernel
theorem dX5_asItIs_5 : decode cX5_asItIs 5 = .ok (.getfield 36, 3) := by decide +kernel
theorem dX5_asItIs_8 : decode cX5_asItIs 8 = .ok (.invokespecial 40, 3) := by decide +kernel
theorem dX5_asItIs_11 : decode cX5_asItIs 11 = .ok (.astore_n 1, 1) := by decide +kernel
theorem dX5_asItIs_12 : decode cX5_asItIs 12 = .ok (.aload_n 0, 1) := by decide +kernel
theorem dX5_asItIs_13 : decode cX5_asItIs 13 = .ok (.getfield 13, 3) := by decide +kernel
theorem dX5_asItIs_16 : decode cX5_asItIs 16 = .ok (.iconst 0, 1) := by decide +kernel
theorem dX5_asItIs_17 : decode cX5_asItIs 17 = .ok (.aload_n 1, 1) := by decide +kernel
theorem dX5_asItIs_18 : decode cX5_asItIs 18 = .ok (.getfield 13, 3) := by decide +kernel
theorem dX5_asItIs_21 : decode cX5_asItIs 21 = .ok (.iconst 0, 1) := by decide +kernel
theorem dX5_asItIs_22 : decode cX5_asItIs 22 = .ok (.aload_n 0, 1) := by decide +kernel
theorem dX5_asItIs_23 : decode cX5_asItIs 23 = .ok (.getfield 13, 3) := by decide +kernel
theorem dX5_asItIs_26 : decode cX5_asItIs 26 = .ok (.arraylength, 1) := by decide +kernel
theorem dX5_asItIs_27 : decode cX5_asItIs 27 = .ok (.invokestatic 41, 3) := by decide +kernel
theorem dX5_asItIs_30 : decode cX5_asItIs 30 = .ok (.aload_n 0, 1) := by decide +kernel
theorem dX5_asItIs_31 : decode cX5_asItIs 31 = .ok (.aload_n 1, 1) := by decide +kernel
theorem dX5_asItIs_32 : decode cX5_asItIs 32 = .ok (.invokevirtual 47, 3) := by decide +kernel
theorem dX5_asItIs_35 : decode cX5_asItIs 35 = .ok (.areturn, 1) := by decide +kernel
set_option maxRecDepth 20000 in
theorem ggX7_init_X2_init : GoodIn wsX7_init wsX2_init := goodIn_r _ [6, 7, 8, 9] (by decide +kernel) (by decide +kernel)
set_option maxRecDepth 20000 in
theorem gX7_init_X2_init_n1 : GoodIn wsX7_init (wsX2_init) := ggX7_init_X2_init
theorem dX7_init_0 : decode cX7_init 0 = .ok (.aload_n 0, 1) := by decide +kernel
theorem dX7_init_1 : decode cX7_init 1 = .ok (.invokespecial 1, 3) := by decide +kernel
theorem dX7_init_4 : decode cX7_init 4 = .ok (.aload_n 0, 1) := by decide +kernel
theorem dX7_init_5 : decode cX7_init 5 = .ok (.iload_n 1, 1) := by decide +kernel
theorem dX7_init_6 : decode cX7_init 6 = .ok (.putfield 7, 3) := by decide +kernel
theorem dX7_init_9 : decode cX7_init 9 = .ok (.aload_n 0, 1) := by decide +kernel
theorem dX7_init_10 : decode cX7_init 10 = .ok (.iload_n 2, 1) := by decide +kernel
theorem dX7_init_11 : decode cX7_init 11 = .ok (.ifCond .le 7, 3) := by decide +kernel
theorem dX7_init_14 : decode cX7_init 14 = .ok (.iload_n 2, 1) := by decide +kernel
theorem dX7_init_15 : decode cX7_init 15 = .ok (.goto 4, 3) := by decide +kernel
theorem dX7_init_18 : decode cX7_init 18 = .ok (.iconst 0, 1) := by decide +kernel
theorem dX7_init_19 : decode cX7_init 19 = .ok (.newarray .long, 2) := by decide +kernel
theorem dX7_init_21 : decode cX7_init 21 = .ok (.putfield 13, 3) := by decide +kernel
theorem dX7_init_24 : decode cX7_init 24 = .ok (.return_, 1) := by decide +kernel
theorem dX7_size_0 : decode cX7_size 0 = .ok (.aload_n 0, 1) := by decide +kernel
theorem dX7_size_1 : decode cX7_size 1 = .ok (.getfield 13, 3) := by decide +kernel
theorem dX7_size_4 : decode cX7_size 4 = .ok (.arraylength, 1) := by decide +kernel
theorem dX7_size_5 : decode cX7_size 5 = .ok (.ireturn, 1) := by decide +kernel
theorem dX7_has_0 : decode cX7_has 0 = .ok (.iload_n 1, 1) := by decide +kernel
theorem dX7_has_1 : decode cX7_has 1 = .ok (.ifCond .lt 31, 3) := by decide +kernel
theorem dX7_has_4 : decode cX7_has 4 = .ok (.iload_n 2, 1) := by decide +kernel
theorem dX7_has_5 : decode cX7_has 5 = .ok (.ifCond .lt 27, 3) := by decide +kernel
theorem dX7_has_8 : decode cX7_has 8 = .ok (.iload_n 1, 1) := by decide +kernel
theorem dX7_has_9 : decode cX7_has 9 = .ok (.aload_n 0, 1) := by decide +kernel
theorem dX7_has_10 : decode cX7_has 10 = .ok (.getfield 13, 3) := by decide +kernel
theorem dX7_has_13 : decode cX7_has 13 = .ok (.arraylength, 1) := by decide +kernel
theorem dX7_has_14 : decode cX7_has 14 = .ok (.if_icmp .gt 18, 3) := by decide +kernel
theorem dX7_has_17 : decode cX7_has 17 = .ok (.iload_n 2, 1) := by decide +kernel
theorem dX7_has_18 : decode cX7_has 18 = .ok (.aload_n 0, 1) := by decide +kernel
theorem dX7_has_19 : decode cX7_has 19 = .ok (.getfield 13, 3) := by decide +kernel
theorem dX7_has_22 : decode cX7_has 22 = .ok (.arraylength, 1) := by decide +kernel
theorem dX7_has_23 : decode cX7_has 23 = .ok (.iload_n 1, 1) := by decide +kernel
theorem dX7_has_24 : decode cX7_has 24 = .ok (.isub, 1) := by decide +kernel
theorem dX7_has_25 : decode cX7_has 25 = .ok (.if_icmp .gt 7, 3) := by decide +kernel
theorem dX7_has_28 : decode cX7_has 28 = .ok (.iconst 1, 1) := by decide +kernel
theorem dX7_has_29 : decode cX7_has 29 = .ok (.goto 4, 3) := by decide +kernel
theorem dX7_has_32 : decode cX7_has 32 = .ok (.iconst 0, 1) := by decide +kernel
theorem dX7_has_33 : decode cX7_has 33 = .ok (.ireturn, 1) := by decide +kernel
set_option maxRecDepth 20000 in
theorem ggX7_numberAt_X7_has : GoodIn wsX7_numberAt wsX7_has := goodIn_r _ [6, 1, 7, 8] (by decide +kernel) (by decide +kernel)
def chX7_numberAt : List (List Cond) := [[.fieldLink RX7 13 "ShadowBench$Row" "numbers" "[J", .methodLink RX7 17 yX7_has, .instanceMethod yX7_has, .selects RX7 yX7_has yX7_has, .initialized RX7, .code yX7_has cX7_has 3 (some .boolean)], wsX70]
set_option maxRecDepth 20000 in
theorem chX7_numberAt_in : ∀ c ∈ chX7_numberAt, ∀ w ∈ c, w ∈ wsX7_numberAt := (all_c (P := fun c => ∀ w ∈ c, w ∈ wsX7_numberAt) (fun w h => List.mem_cons_of_mem _ (List.mem_append_left _ (h))) (all_c (P := fun c => ∀ w ∈ c, w ∈ wsX7_numberAt) (fun w h => List.mem_cons_of_mem _ (List.mem_append_right _ (h))) (fun _ h => nomatch h)))
set_option maxRecDepth 20000 in
theorem gX7_numberAt_X7_has : GoodIn wsX7_numberAt (wsV RX7 17 RX7 yX7_has wsX7_has) := goodIn_app (goodIn_c chX7_numberAt chX7_numberAt_in _ [(0, 1), (0, 2), (0, 3), (0, 4)] (by rfl) (by decide +kernel)) ggX7_numberAt_X7_has
theorem dX7_numberAt_0 : decode cX7_numberAt 0 = .ok (.aload_n 0, 1) := by decide +kernel
theorem dX7_numberAt_1 : decode cX7_numberAt 1 = .ok (.iload_n 1, 1) := by decide +kernel
theorem dX7_numberAt_2 : decode cX7_numberAt 2 = .ok (.iconst 1, 1) := by decide +kernel
theorem dX7_numberAt_3 : decode cX7_numberAt 3 = .ok (.invokevirtual 17, 3) := by decide +kernel
theorem dX7_numberAt_6 : decode cX7_numberAt 6 = .ok (.ifCond .eq 12, 3) := by decide +kernel
theorem dX7_numberAt_9 : decode cX7_numberAt 9 = .ok (.aload_n 0, 1) := by decide +kernel
theorem dX7_numberAt_10 : decode cX7_numberAt 10 = .ok (.getfield 13, 3) := by decide +kernel
theorem dX7_numberAt_13 : decode cX7_numberAt 13 = .ok (.iload_n 1, 1) := by decide +kernel
theorem dX7_numberAt_14 : decode cX7_numberAt 14 = .ok (.laload, 1) := by decide +kernel
theorem dX7_numberAt_15 : decode cX7_numberAt 15 = .ok (.goto 4, 3) := by decide +kernel
theorem dX7_numberAt_18 : decode cX7_numberAt 18 = .ok (.lconst 0, 1) := by decide +kernel
theorem dX7_numberAt_19 : decode cX7_numberAt 19 = .ok (.lreturn, 1) := by decide +kernel
set_option maxRecDepth 20000 in
theorem ggX7_put_X7_has : GoodIn wsX7_put wsX7_has := goodIn_r _ [6, 1, 7, 8] (by decide +kernel) (by decide +kernel)
def chX7_put : List (List Cond) := [[.fieldLink RX7 13 "ShadowBench$Row" "numbers" "[J", .methodLink RX7 17 yX7_has, .instanceMethod yX7_has, .selects RX7 yX7_has yX7_has, .initialized RX7, .code yX7_has cX7_has 3 (some .boolean)], wsX70]
set_option maxRecDepth 20000 in
theorem chX7_put_in : ∀ c ∈ chX7_put, ∀ w ∈ c, w ∈ wsX7_put := (all_c (P := fun c => ∀ w ∈ c, w ∈ wsX7_put) (fun w h => List.mem_cons_of_mem _ (List.mem_append_left _ (h))) (all_c (P := fun c => ∀ w ∈ c, w ∈ wsX7_put) (fun w h => List.mem_cons_of_mem _ (List.mem_append_right _ (h))) (fun _ h => nomatch h)))
set_option maxRecDepth 20000 in
theorem gX7_put_X7_has : GoodIn wsX7_put (wsV RX7 17 RX7 yX7_has wsX7_has) := goodIn_app (goodIn_c chX7_put chX7_put_in _ [(0, 1), (0, 2), (0, 3), (0, 4)] (by rfl) (by decide +kernel)) ggX7_put_X7_has
theorem dX7_put_0 : decode cX7_put 0 = .ok (.aload_n 0, 1) := by decide +kernel
theorem dX7_put_1 : decode cX7_put 1 = .ok (.iload_n 1, 1) := by decide +kernel
theorem dX7_put_2 : decode cX7_put 2 = .ok (.iconst 1, 1) := by decide +kernel
theorem dX7_put_3 : decode cX7_put 3 = .ok (.invokevirtual 17, 3) := by decide +kernel
theorem dX7_put_6 : decode cX7_put 6 = .ok (.ifCond .eq 10, 3) := by decide +kernel
theorem dX7_put_9 : decode cX7_put 9 = .ok (.aload_n 0, 1) := by decide +kernel
theorem dX7_put_10 : decode cX7_put 10 = .ok (.getfield 13, 3) := by decide +kernel
theorem dX7_put_13 : decode cX7_put 13 = .ok (.iload_n 1, 1) := by decide +kernel
theorem dX7_put_14 : decode cX7_put 14 = .ok (.lload_n 2, 1) := by decide +kernel
theorem dX7_put_15 : decode cX7_put 15 = .ok (.lastore, 1) := by decide +kernel
theorem dX7_put_16 : decode cX7_put 16 = .ok (.return_, 1) := by decide +kernel
set_option maxRecDepth 20000 in
theorem ggX7_takeFrom_X7_has : GoodIn wsX7_takeFrom wsX7_has := goodIn_r _ [10, 1, 11, 12] (by decide +kernel) (by decide +kernel)
def chX7_takeFrom : List (List Cond) := [[.fieldLink RX7 13 "ShadowBench$Row" "numbers" "[J", .methodLink RX7 21 arraycopyName, .native arraycopyName, .static arraycopyName, .initialized "java/lang/System", .methodLink RX7 17 yX7_has, .instanceMethod yX7_has, .selects RX7 yX7_has yX7_has, .initialized RX7, .code yX7_has cX7_has 3 (some .boolean)], wsX70]
set_option maxRecDepth 20000 in
theorem chX7_takeFrom_in : ∀ c ∈ chX7_takeFrom, ∀ w ∈ c, w ∈ wsX7_takeFrom := (all_c (P := fun c => ∀ w ∈ c, w ∈ wsX7_takeFrom) (fun w h => List.mem_cons_of_mem _ (List.mem_append_left _ (h))) (all_c (P := fun c => ∀ w ∈ c, w ∈ wsX7_takeFrom) (fun w h => List.mem_cons_of_mem _ (List.mem_append_right _ (h))) (fun _ h => nomatch h)))
set_option maxRecDepth 20000 in
theorem gX7_takeFrom_X7_has : GoodIn wsX7_takeFrom (wsV RX7 17 RX7 yX7_has wsX7_has) := goodIn_app (goodIn_c chX7_takeFrom chX7_takeFrom_in _ [(0, 5), (0, 6), (0, 7), (0, 8)] (by rfl) (by decide +kernel)) ggX7_takeFrom_X7_has
theorem dX7_takeFrom_0 : decode cX7_takeFrom 0 = .ok (.aload_n 1, 1) := by decide +kernel
theorem dX7_takeFrom_1 : decode cX7_takeFrom 1 = .ok (.iload_n 2, 1) := by decide +kernel
theorem dX7_takeFrom_2 : decode cX7_takeFrom 2 = .ok (.iload 4, 2) := by decide +kernel
theorem dX7_takeFrom_4 : decode cX7_takeFrom 4 = .ok (.invokevirtual 17, 3) := by decide +kernel
theorem dX7_takeFrom_7 : decode cX7_takeFrom 7 = .ok (.ifCond .eq 28, 3) := by decide +kernel
theorem dX7_takeFrom_10 : decode cX7_takeFrom 10 = .ok (.aload_n 0, 1) := by decide +kernel
theorem dX7_takeFrom_11 : decode cX7_takeFrom 11 = .ok (.iload_n 3, 1) := by decide +kernel
theorem dX7_takeFrom_12 : decode cX7_takeFrom 12 = .ok (.iload 4, 2) := by decide +kernel
theorem dX7_takeFrom_14 : decode cX7_takeFrom 14 = .ok (.invokevirtual 17, 3) := by decide +kernel
theorem dX7_takeFrom_17 : decode cX7_takeFrom 17 = .ok (.ifCond .eq 18, 3) := by decide +kernel
theorem dX7_takeFrom_20 : decode cX7_takeFrom 20 = .ok (.aload_n 1, 1) := by decide +kernel
theorem dX7_takeFrom_21 : decode cX7_takeFrom 21 = .ok (.getfield 13, 3) := by decide +kernel
theorem dX7_takeFrom_24 : decode cX7_takeFrom 24 = .ok (.iload_n 2, 1) := by decide +kernel
theorem dX7_takeFrom_25 : decode cX7_takeFrom 25 = .ok (.aload_n 0, 1) := by decide +kernel
theorem dX7_takeFrom_26 : decode cX7_takeFrom 26 = .ok (.getfield 13, 3) := by decide +kernel
theorem dX7_takeFrom_29 : decode cX7_takeFrom 29 = .ok (.iload_n 3, 1) := by decide +kernel
theorem dX7_takeFrom_30 : decode cX7_takeFrom 30 = .ok (.iload 4, 2) := by decide +kernel
theorem dX7_takeFrom_32 : decode cX7_takeFrom 32 = .ok (.invokestatic 21, 3) := by decide +kernel
theorem dX7_takeFrom_35 : decode cX7_takeFrom 35 = .ok (.return_, 1) := by decide +kernel
