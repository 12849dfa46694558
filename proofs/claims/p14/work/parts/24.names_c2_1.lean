theorem dX1_asItIs_0 : decode cX1_asItIs 0 = .ok (.aload_n 0, 1) := by decide +kernel
theorem dX1_asItIs_1 : decode cX1_asItIs 1 = .ok (.new 12, 3) := by decide +kernel
theorem dX1_asItIs_4 : decode cX1_asItIs 4 = .ok (.dup, 1) := by decide +kernel
theorem dX1_asItIs_5 : decode cX1_asItIs 5 = .ok (.aload_n 0, 1) := by decide +kernel
theorem dX1_asItIs_6 : decode cX1_asItIs 6 = .ok (.getfield 11, 3) := by decide +kernel
theorem dX1_asItIs_9 : decode cX1_asItIs 9 = .ok (.invokespecial 36, 3) := by decide +kernel
theorem dX1_asItIs_12 : decode cX1_asItIs 12 = .ok (.invokevirtual 37, 3) := by decide +kernel
theorem dX1_asItIs_15 : decode cX1_asItIs 15 = .ok (.areturn, 1) := by decide +kernel
theorem dX2_init_0 : decode cX2_init 0 = .ok (.aload_n 0, 1) := by decide +kernel
theorem dX2_init_1 : decode cX2_init 1 = .ok (.invokespecial 1, 3) := by decide +kernel
theorem dX2_init_4 : decode cX2_init 4 = .ok (.return_, 1) := by decide +kernel
set_option maxRecDepth 20000 in
theorem ggX3_init_X2_init : GoodIn wsX3_init wsX2_init := goodIn_r _ [9, 10, 11, 12] (by decide +kernel) (by decide +kernel)
set_option maxRecDepth 20000 in
theorem gX3_init_X2_init_n3 : GoodIn wsX3_init (wsX2_init) := ggX3_init_X2_init
theorem dX3_init_0 : decode cX3_init 0 = .ok (.aload_n 0, 1) := by decide +kernel
theorem dX3_init_1 : decode cX3_init 1 = .ok (.invokespecial 3, 3) := by decide +kernel
theorem dX3_init_4 : decode cX3_init 4 = .ok (.aload_n 0, 1) := by decide +kernel
theorem dX3_init_5 : decode cX3_init 5 = .ok (.bipush 44, 2) := by decide +kernel
theorem dX3_init_7 : decode cX3_init 7 = .ok (.newarray .int, 2) := by decide +kernel
theorem dX3_init_9 : decode cX3_init 9 = .ok (.putfield 11, 3) := by decide +kernel
theorem dX3_init_12 : decode cX3_init 12 = .ok (.aload_n 0, 1) := by decide +kernel
theorem dX3_init_13 : decode cX3_init 13 = .ok (.iconst 3, 1) := by decide +kernel
theorem dX3_init_14 : decode cX3_init 14 = .ok (.putfield 17, 3) := by decide +kernel
theorem dX3_init_17 : decode cX3_init 17 = .ok (.aload_n 0, 1) := by decide +kernel
theorem dX3_init_18 : decode cX3_init 18 = .ok (.lconst 0, 1) := by decide +kernel
theorem dX3_init_19 : decode cX3_init 19 = .ok (.putfield 21, 3) := by decide +kernel
theorem dX3_init_22 : decode cX3_init 22 = .ok (.aload_n 0, 1) := by decide +kernel
theorem dX3_init_23 : decode cX3_init 23 = .ok (.lconst 0, 1) := by decide +kernel
theorem dX3_init_24 : decode cX3_init 24 = .ok (.putfield 25, 3) := by decide +kernel
theorem dX3_init_27 : decode cX3_init 27 = .ok (.aload_n 0, 1) := by decide +kernel
theorem dX3_init_28 : decode cX3_init 28 = .ok (.aload_n 1, 1) := by decide +kernel
theorem dX3_init_29 : decode cX3_init 29 = .ok (.putfield 28, 3) := by decide +kernel
theorem dX3_init_32 : decode cX3_init 32 = .ok (.return_, 1) := by decide +kernel
theorem dX3_isTold_0 : decode cX3_isTold 0 = .ok (.aload_n 0, 1) := by decide +kernel
theorem dX3_isTold_1 : decode cX3_isTold 1 = .ok (.getfield 17, 3) := by decide +kernel
theorem dX3_isTold_4 : decode cX3_isTold 4 = .ok (.iload_n 1, 1) := by decide +kernel
theorem dX3_isTold_5 : decode cX3_isTold 5 = .ok (.ishr, 1) := by decide +kernel
theorem dX3_isTold_6 : decode cX3_isTold 6 = .ok (.iconst 1, 1) := by decide +kernel
theorem dX3_isTold_7 : decode cX3_isTold 7 = .ok (.iand, 1) := by decide +kernel
theorem dX3_isTold_8 : decode cX3_isTold 8 = .ok (.iconst 1, 1) := by decide +kernel
theorem dX3_isTold_9 : decode cX3_isTold 9 = .ok (.if_icmp .ne 7, 3) := by decide +kernel
theorem dX3_isTold_12 : decode cX3_isTold 12 = .ok (.iconst 1, 1) := by decide +kernel
theorem dX3_isTold_13 : decode cX3_isTold 13 = .ok (.goto 4, 3) := by decide +kernel
theorem dX3_isTold_16 : decode cX3_isTold 16 = .ok (.iconst 0, 1) := by decide +kernel
theorem dX3_isTold_17 : decode cX3_isTold 17 = .ok (.ireturn, 1) := by decide +kernel
theorem dX3_sumOf_0 : decode cX3_sumOf 0 = .ok (.iload_n 1, 1) := by decide +kernel
theorem dX3_sumOf_1 : decode cX3_sumOf 1 = .ok (.bipush 11, 2) := by decide +kernel
theorem dX3_sumOf_3 : decode cX3_sumOf 3 = .ok (.imul, 1) := by decide +kernel
theorem dX3_sumOf_4 : decode cX3_sumOf 4 = .ok (.iload_n 2, 1) := by decide +kernel
theorem dX3_sumOf_5 : decode cX3_sumOf 5 = .ok (.iadd, 1) := by decide +kernel
theorem dX3_sumOf_6 : decode cX3_sumOf 6 = .ok (.istore_n 3, 1) := by decide +kernel
theorem dX3_sumOf_7 : decode cX3_sumOf 7 = .ok (.iload_n 3, 1) := by decide +kernel
theorem dX3_sumOf_8 : decode cX3_sumOf 8 = .ok (.ifCond .lt 21, 3) := by decide +kernel
theorem dX3_sumOf_11 : decode cX3_sumOf 11 = .ok (.iload_n 3, 1) := by decide +kernel
theorem dX3_sumOf_12 : decode cX3_sumOf 12 = .ok (.aload_n 0, 1) := by decide +kernel
theorem dX3_sumOf_13 : decode cX3_sumOf 13 = .ok (.getfield 11, 3) := by decide +kernel
theorem dX3_sumOf_16 : decode cX3_sumOf 16 = .ok (.arraylength, 1) := by decide +kernel
theorem dX3_sumOf_17 : decode cX3_sumOf 17 = .ok (.if_icmp .ge 12, 3) := by decide +kernel
theorem dX3_sumOf_20 : decode cX3_sumOf 20 = .ok (.aload_n 0, 1) := by decide +kernel
theorem dX3_sumOf_21 : decode cX3_sumOf 21 = .ok (.getfield 11, 3) := by decide +kernel
theorem dX3_sumOf_24 : decode cX3_sumOf 24 = .ok (.iload_n 3, 1) := by decide +kernel
theorem dX3_sumOf_25 : decode cX3_sumOf 25 = .ok (.iaload, 1) := by decide +kernel
theorem dX3_sumOf_26 : decode cX3_sumOf 26 = .ok (.goto 4, 3) := by decide +kernel
theorem dX3_sumOf_29 : decode cX3_sumOf 29 = .ok (.iconst 0, 1) := by decide +kernel
theorem dX3_sumOf_30 : decode cX3_sumOf 30 = .ok (.ireturn, 1) := by decide +kernel
def chX3_tellLine : List (List Cond) := [[.fieldLink RX3 28 "ShadowBench$Job" "board" "LShadowBench$Board;", .fieldLink RX3 11 "ShadowBench$Job" "sums" "[I", .fieldLink RX3 17 "ShadowBench$Job" "toldWays" "I", .methodLink RX3 32 yX0_isLine, .instanceMethod yX0_isLine, .selects RX0 yX0_isLine yX0_isLine, .initialized RX0, .code yX0_isLine cX0_isLine 3 (some .boolean), .methodLink RX0 56 yX0_lineCount, .instanceMethod yX0_lineCount, .selects RX0 yX0_lineCount yX0_lineCount, .code yX0_lineCount cX0_lineCount 2 (some .int), .fieldLink RX0 17 "ShadowBench$Board" "high" "I", .fieldLink RX0 13 "ShadowBench$Board" "wide" "I"], wsX10, wsX30, wsX40, wsX50, wsX00]
set_option maxRecDepth 20000 in
theorem chX3_tellLine_in : ∀ c ∈ chX3_tellLine, ∀ w ∈ c, w ∈ wsX3_tellLine := (all_c (P := fun c => ∀ w ∈ c, w ∈ wsX3_tellLine) (fun w h => List.mem_cons_of_mem _ (List.mem_append_left _ (List.mem_append_left _ (List.mem_append_left _ (List.mem_append_left _ (List.mem_append_left _ (h))))))) (all_c (P := fun c => ∀ w ∈ c, w ∈ wsX3_tellLine) (fun w h => List.mem_cons_of_mem _ (List.mem_append_left _ (List.mem_append_left _ (List.mem_append_left _ (List.mem_append_left _ (List.mem_append_right _ (h))))))) (all_c (P := fun c => ∀ w ∈ c, w ∈ wsX3_tellLine) (fun w h => List.mem_cons_of_mem _ (List.mem_append_left _ (List.mem_append_left _ (List.mem_append_left _ (List.mem_append_right _ (h)))))) (all_c (P := fun c => ∀ w ∈ c, w ∈ wsX3_tellLine) (fun w h => List.mem_cons_of_mem _ (List.mem_append_left _ (List.mem_append_left _ (List.mem_append_right _ (h))))) (all_c (P := fun c => ∀ w ∈ c, w ∈ wsX3_tellLine) (fun w h => List.mem_cons_of_mem _ (List.mem_append_left _ (List.mem_append_right _ (h)))) (all_c (P := fun c => ∀ w ∈ c, w ∈ wsX3_tellLine) (fun w h => List.mem_cons_of_mem _ (List.mem_append_right _ (h))) (fun _ h => nomatch h)))))))
set_option maxRecDepth 20000 in
theorem ggX3_tellLine_X0_isLine : GoodIn wsX3_tellLine wsX0_isLine := goodIn_ca (goodIn_c chX3_tellLine chX3_tellLine_in _ [(0, 7), (0, 8), (0, 9), (0, 10), (0, 6), (0, 11), (0, 12), (0, 13)] (by rfl) (by decide +kernel)) (goodIn_sub (fun _ h => List.mem_cons_of_mem _ (List.mem_append_right _ (h))) (by decide +kernel))
set_option maxRecDepth 20000 in
theorem gX3_tellLine_X0_isLine : GoodIn wsX3_tellLine (wsV RX3 32 RX0 yX0_isLine wsX0_isLine) := goodIn_app (goodIn_c chX3_tellLine chX3_tellLine_in _ [(0, 3), (0, 4), (0, 5), (0, 6)] (by rfl) (by decide +kernel)) ggX3_tellLine_X0_isLine
theorem dX3_tellLine_0 : decode cX3_tellLine 0 = .ok (.aload_n 0, 1) := by decide +kernel
theorem dX3_tellLine_1 : decode cX3_tellLine 1 = .ok (.getfield 28, 3) := by decide +kernel
theorem dX3_tellLine_4 : decode cX3_tellLine 4 = .ok (.iload_n 1, 1) := by decide +kernel
theorem dX3_tellLine_5 : decode cX3_tellLine 5 = .ok (.iload_n 2, 1) := by decide +kernel
theorem dX3_tellLine_6 : decode cX3_tellLine 6 = .ok (.invokevirtual 32, 3) := by decide +kernel
theorem dX3_tellLine_9 : decode cX3_tellLine 9 = .ok (.ifCond .eq 27, 3) := by decide +kernel
theorem dX3_tellLine_12 : decode cX3_tellLine 12 = .ok (.aload_n 0, 1) := by decide +kernel
theorem dX3_tellLine_13 : decode cX3_tellLine 13 = .ok (.getfield 11, 3) := by decide +kernel
theorem dX3_tellLine_16 : decode cX3_tellLine 16 = .ok (.iload_n 1, 1) := by decide +kernel
theorem dX3_tellLine_17 : decode cX3_tellLine 17 = .ok (.bipush 11, 2) := by decide +kernel
theorem dX3_tellLine_19 : decode cX3_tellLine 19 = .ok (.imul, 1) := by decide +kernel
theorem dX3_tellLine_20 : decode cX3_tellLine 20 = .ok (.iload_n 2, 1) := by decide +kernel
theorem dX3_tellLine_21 : decode cX3_tellLine 21 = .ok (.iadd, 1) := by decide +kernel
theorem dX3_tellLine_22 : decode cX3_tellLine 22 = .ok (.iload_n 3, 1) := by decide +kernel
theorem dX3_tellLine_23 : decode cX3_tellLine 23 = .ok (.iastore, 1) := by decide +kernel
theorem dX3_tellLine_24 : decode cX3_tellLine 24 = .ok (.aload_n 0, 1) := by decide +kernel
theorem dX3_tellLine_25 : decode cX3_tellLine 25 = .ok (.dup, 1) := by decide +kernel
theorem dX3_tellLine_26 : decode cX3_tellLine 26 = .ok (.getfield 17, 3) := by decide +kernel
theorem dX3_tellLine_29 : decode cX3_tellLine 29 = .ok (.iconst 1, 1) := by decide +kernel
theorem dX3_tellLine_30 : decode cX3_tellLine 30 = .ok (.iload_n 1, 1) := by decide +kernel
theorem dX3_tellLine_31 : decode cX3_tellLine 31 = .ok (.ishl, 1) := by decide +kernel
theorem dX3_tellLine_32 : decode cX3_tellLine 32 = .ok (.ior, 1) := by decide +kernel
theorem dX3_tellLine_33 : decode cX3_tellLine 33 = .ok (.putfield 17, 3) := by decide +kernel
theorem dX3_tellLine_36 : decode cX3_tellLine 36 = .ok (.return_, 1) := by decide +kernel
def chX3_tellShadow : List (List Cond) := [wsX3_tellShadow_r1, wsX3_tellShadow_r2, wsX10, wsX30, wsX40, wsX50, wsX00]
set_option maxRecDepth 20000 in
theorem chX3_tellShadow_in : ∀ c ∈ chX3_tellShadow, ∀ w ∈ c, w ∈ wsX3_tellShadow := (all_c (P := fun c => ∀ w ∈ c, w ∈ wsX3_tellShadow) (fun w h => List.mem_cons_of_mem _ (List.mem_append_left _ (List.mem_append_left _ (List.mem_append_left _ (List.mem_append_left _ (List.mem_append_left _ (List.mem_append_left _ (h)))))))) (all_c (P := fun c => ∀ w ∈ c, w ∈ wsX3_tellShadow) (fun w h => List.mem_cons_of_mem _ (List.mem_append_left _ (List.mem_append_left _ (List.mem_append_left _ (List.mem_append_left _ (List.mem_append_left _ (List.mem_append_right _ (h)))))))) (all_c (P := fun c => ∀ w ∈ c, w ∈ wsX3_tellShadow) (fun w h => List.mem_cons_of_mem _ (List.mem_append_left _ (List.mem_append_left _ (List.mem_append_left _ (List.mem_append_left _ (List.mem_append_right _ (h))))))) (all_c (P := fun c => ∀ w ∈ c, w ∈ wsX3_tellShadow) (fun w h => List.mem_cons_of_mem _ (List.mem_append_left _ (List.mem_append_left _ (List.mem_append_left _ (List.mem_append_right _ (h)))))) (all_c (P := fun c => ∀ w ∈ c, w ∈ wsX3_tellShadow) (fun w h => List.mem_cons_of_mem _ (List.mem_append_left _ (List.mem_append_left _ (List.mem_append_right _ (h))))) (all_c (P := fun c => ∀ w ∈ c, w ∈ wsX3_tellShadow) (fun w h => List.mem_cons_of_mem _ (List.mem_append_left _ (List.mem_append_right _ (h)))) (all_c (P := fun c => ∀ w ∈ c, w ∈ wsX3_tellShadow) (fun w h => List.mem_cons_of_mem _ (List.mem_append_right _ (h))) (fun _ h => nomatch h))))))))
set_option maxRecDepth 20000 in
theorem ggX3_tellShadow_X0_lineCount : GoodIn wsX3_tellShadow wsX0_lineCount := goodIn_ca (goodIn_c chX3_tellShadow chX3_tellShadow_in _ [(0, 5), (0, 6), (0, 7)] (by rfl) (by decide +kernel)) (goodIn_sub (fun _ h => List.mem_cons_of_mem _ (List.mem_append_right _ (h))) (by decide +kernel))
set_option maxRecDepth 20000 in
theorem gX3_tellShadow_X0_lineCount : GoodIn wsX3_tellShadow (wsV RX3 36 RX0 yX0_lineCount wsX0_lineCount) := goodIn_app (goodIn_c chX3_tellShadow chX3_tellShadow_in _ [(0, 1), (0, 2), (0, 3), (0, 4)] (by rfl) (by decide +kernel)) ggX3_tellShadow_X0_lineCount
set_option maxRecDepth 20000 in
theorem ggX3_tellShadow_X0_onesOfLine : GoodIn wsX3_tellShadow wsX0_onesOfLine := goodIn_ca (goodIn_c chX3_tellShadow chX3_tellShadow_in _ [(0, 11), (0, 12), (0, 13), (0, 14), (0, 15), (0, 16), (0, 17), (0, 18), (0, 19)] (by rfl) (by decide +kernel)) (goodIn_sub (fun _ h => List.mem_cons_of_mem _ (List.mem_append_right _ (h))) (by decide +kernel))
set_option maxRecDepth 20000 in
theorem gX3_tellShadow_X0_onesOfLine : GoodIn wsX3_tellShadow (wsV RX3 40 RX0 yX0_onesOfLine wsX0_onesOfLine) := goodIn_app (goodIn_c chX3_tellShadow chX3_tellShadow_in _ [(0, 8), (0, 9), (0, 10), (0, 4)] (by rfl) (by decide +kernel)) ggX3_tellShadow_X0_onesOfLine
set_option maxRecDepth 20000 in
theorem ggX3_tellShadow_X3_tellLine : GoodIn wsX3_tellShadow wsX3_tellLine := goodIn_ca (goodIn_ca (goodIn_ca (goodIn_ca (goodIn_ca (goodIn_c chX3_tellShadow chX3_tellShadow_in _ [(1, 1), (0, 0), (1, 2), (1, 3), (1, 4), (1, 5), (1, 6), (0, 4), (1, 7), (1, 8), (0, 2), (0, 3), (0, 5), (0, 6), (0, 7)] (by rfl) (by decide +kernel)) (goodIn_sub (fun _ h => List.mem_cons_of_mem _ (List.mem_append_left _ (List.mem_append_left _ (List.mem_append_left _ (List.mem_append_left _ (List.mem_append_right _ (h))))))) (by decide +kernel))) (goodIn_sub (fun _ h => List.mem_cons_of_mem _ (List.mem_append_left _ (List.mem_append_left _ (List.mem_append_left _ (List.mem_append_right _ (h)))))) (by decide +kernel))) (goodIn_sub (fun _ h => List.mem_cons_of_mem _ (List.mem_append_left _ (List.mem_append_left _ (List.mem_append_right _ (h))))) (by decide +kernel))) (goodIn_sub (fun _ h => List.mem_cons_of_mem _ (List.mem_append_left _ (List.mem_append_right _ (h)))) (by decide +kernel))) (goodIn_sub (fun _ h => List.mem_cons_of_mem _ (List.mem_append_right _ (h))) (by decide +kernel))
set_option maxRecDepth 20000 in
theorem gX3_tellShadow_X3_tellLine_u44X1 : GoodIn wsX3_tellShadow (va_wsU RX3 44 RX1 "ShadowBench$Job" ⟨"ShadowBench$Job", "tellLine", "(III)V"⟩ yX3_tellLine wsX3_tellLine) := goodIn_app (goodIn_c chX3_tellShadow chX3_tellShadow_in _ [(0, 20), (0, 21), (0, 22), (0, 23), (1, 0)] (by rfl) (by decide +kernel)) ggX3_tellShadow_X3_tellLine
set_option maxRecDepth 20000 in
theorem gX3_tellShadow_X3_tellLine : GoodIn wsX3_tellShadow (wsV RX3 44 RX3 yX3_tellLine wsX3_tellLine) := goodIn_app (goodIn_c chX3_tellShadow chX3_tellShadow_in _ [(0, 20), (0, 23), (1, 10), (1, 0)] (by rfl) (by decide +kernel)) ggX3_tellShadow_X3_tellLine
set_option maxRecDepth 20000 in
theorem gX3_tellShadow_X3_tellLine_u44X4 : GoodIn wsX3_tellShadow (va_wsU RX3 44 RX4 "ShadowBench$Job" ⟨"ShadowBench$Job", "tellLine", "(III)V"⟩ yX3_tellLine wsX3_tellLine) := goodIn_app (goodIn_c chX3_tellShadow chX3_tellShadow_in _ [(0, 20), (0, 21), (1, 11), (0, 23), (1, 0)] (by rfl) (by decide +kernel)) ggX3_tellShadow_X3_tellLine
set_option maxRecDepth 20000 in
theorem gX3_tellShadow_X3_tellLine_u44X5 : GoodIn wsX3_tellShadow (va_wsU RX3 44 RX5 "ShadowBench$Job" ⟨"ShadowBench$Job", "tellLine", "(III)V"⟩ yX3_tellLine wsX3_tellLine) := goodIn_app (goodIn_c chX3_tellShadow chX3_tellShadow_in _ [(0, 20), (0, 21), (1, 12), (0, 23), (1, 0)] (by rfl) (by decide +kernel)) ggX3_tellShadow_X3_tellLine
theorem dX3_tellShadow_0 : decode cX3_tellShadow 0 = .ok (.iconst 0, 1) := by decide +kernel
theorem dX3_tellShadow_1 : decode cX3_tellShadow 1 = .ok (.istore 4, 2) := by decide +kernel
theorem dX3_tellShadow_3 : decode cX3_tellShadow 3 = .ok (.iload 4, 2) := by decide +kernel
theorem dX3_tellShadow_5 : decode cX3_tellShadow 5 = .ok (.aload_n 0, 1) := by decide +kernel
theorem dX3_tellShadow_6 : decode cX3_tellShadow 6 = .ok (.getfield 28, 3) := by decide +kernel
theorem dX3_tellShadow_9 : decode cX3_tellShadow 9 = .ok (.iload_n 1, 1) := by decide +kernel
theorem dX3_tellShadow_10 : decode cX3_tellShadow 10 = .ok (.invokevirtual 36, 3) := by decide +kernel
theorem dX3_tellShadow_13 : decode cX3_tellShadow 13 = .ok (.if_icmp .ge 27, 3) := by decide +kernel
theorem dX3_tellShadow_16 : decode cX3_tellShadow 16 = .ok (.aload_n 0, 1) := by decide +kernel
theorem dX3_tellShadow_17 : decode cX3_tellShadow 17 = .ok (.iload_n 1, 1) := by decide +kernel
theorem dX3_tellShadow_18 : decode cX3_tellShadow 18 = .ok (.iload 4, 2) := by decide +kernel
theorem dX3_tellShadow_20 : decode cX3_tellShadow 20 = .ok (.aload_n 0, 1) := by decide +kernel
theorem dX3_tellShadow_21 : decode cX3_tellShadow 21 = .ok (.getfield 28, 3) := by decide +kernel
theorem dX3_tellShadow_24 : decode cX3_tellShadow 24 = .ok (.iload_n 1, 1) := by decide +kernel
theorem dX3_tellShadow_25 : decode cX3_tellShadow 25 = .ok (.iload 4, 2) := by decide +kernel
theorem dX3_tellShadow_27 : decode cX3_tellShadow 27 = .ok (.lload_n 2, 1) := by decide +kernel
theorem dX3_tellShadow_28 : decode cX3_tellShadow 28 = .ok (.invokevirtual 40, 3) := by decide +kernel
theorem dX3_tellShadow_31 : decode cX3_tellShadow 31 = .ok (.invokevirtual 44, 3) := by decide +kernel
theorem dX3_tellShadow_34 : decode cX3_tellShadow 34 = .ok (.iinc 4 1, 3) := by decide +kernel
theorem dX3_tellShadow_37 : decode cX3_tellShadow 37 = .ok (.goto (-34), 3) := by decide +kernel
theorem dX3_tellShadow_40 : decode cX3_tellShadow 40 = .ok (.return_, 1) := by decide +kernel
def chX3_forgetWay : List (List Cond) := [wsX3_forgetWay_r1, wsX3_forgetWay_r2, wsX10, wsX30, wsX40, wsX50, wsX00]
set_option maxRecDepth 20000 in
theorem chX3_forgetWay_in : ∀ c ∈ chX3_forgetWay, ∀ w ∈ c, w ∈ wsX3_forgetWay := (all_c (P := fun c => ∀ w ∈ c, w ∈ wsX3_forgetWay) (fun w h => List.mem_cons_of_mem _ (List.mem_append_left _ (List.mem_append_left _ (List.mem_append_left _ (List.mem_append_left _ (List.mem_append_left _ (List.mem_append_left _ (h)))))))) (all_c (P := fun c => ∀ w ∈ c, w ∈ wsX3_forgetWay) (fun w h => List.mem_cons_of_mem _ (List.mem_append_left _ (List.mem_append_left _ (List.mem_append_left _ (List.mem_append_left _ (List.mem_append_left _ (List.mem_append_right _ (h)))))))) (all_c (P := fun c => ∀ w ∈ c, w ∈ wsX3_forgetWay) (fun w h => List.mem_cons_of_mem _ (List.mem_append_left _ (List.mem_append_left _ (List.mem_append_left _ (List.mem_append_left _ (List.mem_append_right _ (h))))))) (all_c (P := fun c => ∀ w ∈ c, w ∈ wsX3_forgetWay) (fun w h => List.mem_cons_of_mem _ (List.mem_append_left _ (List.mem_append_left _ (List.mem_append_left _ (List.mem_append_right _ (h)))))) (all_c (P := fun c => ∀ w ∈ c, w ∈ wsX3_forgetWay) (fun w h => List.mem_cons_of_mem _ (List.mem_append_left _ (List.mem_append_left _ (List.mem_append_right _ (h))))) (all_c (P := fun c => ∀ w ∈ c, w ∈ wsX3_forgetWay) (fun w h => List.mem_cons_of_mem _ (List.mem_append_left _ (List.mem_append_right _ (h)))) (all_c (P := fun c => ∀ w ∈ c, w ∈ wsX3_forgetWay) (fun w h => List.mem_cons_of_mem _ (List.mem_append_right _ (h))) (fun _ h => nomatch h))))))))
set_option maxRecDepth 20000 in
theorem ggX3_forgetWay_X0_lineCount : GoodIn wsX3_forgetWay wsX0_lineCount := goodIn_ca (goodIn_c chX3_forgetWay chX3_forgetWay_in _ [(0, 6), (0, 7), (0, 8)] (by rfl) (by decide +kernel)) (goodIn_sub (fun _ h => List.mem_cons_of_mem _ (List.mem_append_right _ (h))) (by decide +kernel))
set_option maxRecDepth 20000 in
theorem gX3_forgetWay_X0_lineCount : GoodIn wsX3_forgetWay (wsV RX3 36 RX0 yX0_lineCount wsX0_lineCount) := goodIn_app (goodIn_c chX3_forgetWay chX3_forgetWay_in _ [(0, 2), (0, 3), (0, 4), (0, 5)] (by rfl) (by decide +kernel)) ggX3_forgetWay_X0_lineCount
set_option maxRecDepth 20000 in
theorem ggX3_forgetWay_X3_tellLine : GoodIn wsX3_forgetWay wsX3_tellLine := goodIn_ca (goodIn_ca (goodIn_ca (goodIn_ca (goodIn_ca (goodIn_c chX3_forgetWay chX3_forgetWay_in _ [(0, 14), (0, 0), (0, 15), (0, 1), (0, 16), (0, 17), (0, 18), (0, 5), (0, 19), (0, 20), (0, 3), (0, 4), (0, 6), (0, 7), (0, 8)] (by rfl) (by decide +kernel)) (goodIn_sub (fun _ h => List.mem_cons_of_mem _ (List.mem_append_left _ (List.mem_append_left _ (List.mem_append_left _ (List.mem_append_left _ (List.mem_append_right _ (h))))))) (by decide +kernel))) (goodIn_sub (fun _ h => List.mem_cons_of_mem _ (List.mem_append_left _ (List.mem_append_left _ (List.mem_append_left _ (List.mem_append_right _ (h)))))) (by decide +kernel))) (goodIn_sub (fun _ h => List.mem_cons_of_mem _ (List.mem_append_left _ (List.mem_append_left _ (List.mem_append_right _ (h))))) (by decide +kernel))) (goodIn_sub (fun _ h => List.mem_cons_of_mem _ (List.mem_append_left _ (List.mem_append_right _ (h)))) (by decide +kernel))) (goodIn_sub (fun _ h => List.mem_cons_of_mem _ (List.mem_append_right _ (h))) (by decide +kernel))
set_option maxRecDepth 20000 in
theorem gX3_forgetWay_X3_tellLine_u44X1 : GoodIn wsX3_forgetWay (va_wsU RX3 44 RX1 "ShadowBench$Job" ⟨"ShadowBench$Job", "tellLine", "(III)V"⟩ yX3_tellLine wsX3_tellLine) := goodIn_app (goodIn_c chX3_forgetWay chX3_forgetWay_in _ [(0, 9), (0, 10), (0, 11), (0, 12), (0, 13)] (by rfl) (by decide +kernel)) ggX3_forgetWay_X3_tellLine
set_option maxRecDepth 20000 in
theorem gX3_forgetWay_X3_tellLine : GoodIn wsX3_forgetWay (wsV RX3 44 RX3 yX3_tellLine wsX3_tellLine) := goodIn_app (goodIn_c chX3_forgetWay chX3_forgetWay_in _ [(0, 9), (0, 12), (0, 22), (0, 13)] (by rfl) (by decide +kernel)) ggX3_forgetWay_X3_tellLine
set_option maxRecDepth 20000 in
theorem gX3_forgetWay_X3_tellLine_u44X4 : GoodIn wsX3_forgetWay (va_wsU RX3 44 RX4 "ShadowBench$Job" ⟨"ShadowBench$Job", "tellLine", "(III)V"⟩ yX3_tellLine wsX3_tellLine) := goodIn_app (goodIn_c chX3_forgetWay chX3_forgetWay_in _ [(0, 9), (0, 10), (0, 23), (0, 12), (0, 13)] (by rfl) (by decide +kernel)) ggX3_forgetWay_X3_tellLine
set_option maxRecDepth 20000 in
theorem gX3_forgetWay_X3_tellLine_u44X5 : GoodIn wsX3_forgetWay (va_wsU RX3 44 RX5 "ShadowBench$Job" ⟨"ShadowBench$Job", "tellLine", "(III)V"⟩ yX3_tellLine wsX3_tellLine) := goodIn_app (goodIn_c chX3_forgetWay chX3_forgetWay_in _ [(0, 9), (0, 10), (1, 0), (0, 12), (0, 13)] (by rfl) (by decide +kernel)) ggX3_forgetWay_X3_tellLine
theorem dX3_forgetWay_0 : decode cX3_forgetWay 0 = .ok (.iconst 0, 1) := by decide +kernel
theorem dX3_forgetWay_1 : decode cX3_forgetWay 1 = .ok (.istore_n 2, 1) := by decide +kernel
theorem dX3_forgetWay_2 : decode cX3_forgetWay 2 = .ok (.iload_n 2, 1) := by decide +kernel
theorem dX3_forgetWay_3 : decode cX3_forgetWay 3 = .ok (.aload_n 0, 1) := by decide +kernel
theorem dX3_forgetWay_4 : decode cX3_forgetWay 4 = .ok (.getfield 28, 3) := by decide +kernel
theorem dX3_forgetWay_7 : decode cX3_forgetWay 7 = .ok (.iload_n 1, 1) := by decide +kernel
theorem dX3_forgetWay_8 : decode cX3_forgetWay 8 = .ok (.invokevirtual 36, 3) := by decide +kernel
theorem dX3_forgetWay_11 : decode cX3_forgetWay 11 = .ok (.if_icmp .ge 16, 3) := by decide +kernel
theorem dX3_forgetWay_14 : decode cX3_forgetWay 14 = .ok (.aload_n 0, 1) := by decide +kernel
theorem dX3_forgetWay_15 : decode cX3_forgetWay 15 = .ok (.iload_n 1, 1) := by decide +kernel
theorem dX3_forgetWay_16 : decode cX3_forgetWay 16 = .ok (.iload_n 2, 1) := by decide +kernel
theorem dX3_forgetWay_17 : decode cX3_forgetWay 17 = .ok (.iconst 0, 1) := by decide +kernel
theorem dX3_forgetWay_18 : decode cX3_forgetWay 18 = .ok (.invokevirtual 44, 3) := by decide +kernel
theorem dX3_forgetWay_21 : decode cX3_forgetWay 21 = .ok (.iinc 2 1, 3) := by decide +kernel
theorem dX3_forgetWay_24 : decode cX3_forgetWay 24 = .ok (.goto (-22), 3) := by decide +kernel
theorem dX3_forgetWay_27 : decode cX3_forgetWay 27 = .ok (.aload_n 0, 1) := by decide +kernel
theorem dX3_forgetWay_28 : decode cX3_forgetWay 28 = .ok (.dup, 1) := by decide +kernel
theorem dX3_forgetWay_29 : decode cX3_forgetWay 29 = .ok (.getfield 17, 3) := by decide +kernel
theorem dX3_forgetWay_32 : decode cX3_forgetWay 32 = .ok (.iconst 1, 1) := by decide +kernel
theorem dX3_forgetWay_33 : decode cX3_forgetWay 33 = .ok (.iload_n 1, 1) := by decide +kernel
theorem dX3_forgetWay_34 : decode cX3_forgetWay 34 = .ok (.ishl, 1) := by decide +kernel
theorem dX3_forgetWay_35 : decode cX3_forgetWay 35 = .ok (.iconst (-1), 1) := by decide +kernel
theorem dX3_forgetWay_36 : decode cX3_forgetWay 36 = .ok (.ixor, 1) := by decide +kernel
theorem dX3_forgetWay_37 : decode cX3_forgetWay 37 = .ok (.iand, 1) := by decide +kernel
theorem dX3_forgetWay_38 : decode cX3_forgetWay 38 = .ok (.putfield 17, 3) := by decide +kernel
theorem dX3_forgetWay_41 : decode cX3_forgetWay 41 = .ok (.return_, 1) := by decide +kernel
theorem dX3_howHeld_0 : decode cX3_howHeld 0 = .ok (.aload_n 0, 1) := by decide +kernel
theorem dX3_howHeld_1 : decode cX3_howHeld 1 = .ok (.getfield 21, 3) := by decide +kernel
theorem dX3_howHeld_4 : decode cX3_howHeld 4 = .ok (.iload_n 1, 1) := by decide +kernel
theorem dX3_howHeld_5 : decode cX3_howHeld 5 = .ok (.lushr, 1) := by decide +kernel
theorem dX3_howHeld_6 : decode cX3_howHeld 6 = .ok (.lconst 1, 1) := by decide +kernel
theorem dX3_howHeld_7 : decode cX3_howHeld 7 = .ok (.land, 1) := by decide +kernel
theorem dX3_howHeld_8 : decode cX3_howHeld 8 = .ok (.lconst 1, 1) := by decide +kernel
theorem dX3_howHeld_9 : decode cX3_howHeld 9 = .ok (.lcmp, 1) := by decide +kernel
theorem dX3_howHeld_10 : decode cX3_howHeld 10 = .ok (.ifCond .ne 5, 3) := by decide +kernel
theorem dX3_howHeld_13 : decode cX3_howHeld 13 = .ok (.iconst 1, 1) := by decide +kernel
theorem dX3_howHeld_14 : decode cX3_howHeld 14 = .ok (.ireturn, 1) := by decide +kernel
theorem dX3_howHeld_15 : decode cX3_howHeld 15 = .ok (.aload_n 0, 1) := by decide +kernel
theorem dX3_howHeld_16 : decode cX3_howHeld 16 = .ok (.getfield 25, 3) := by decide +kernel
theorem dX3_howHeld_19 : decode cX3_howHeld 19 = .ok (.iload_n 1, 1) := by decide +kernel
theorem dX3_howHeld_20 : decode cX3_howHeld 20 = .ok (.lushr, 1) := by decide +kernel
theorem dX3_howHeld_21 : decode cX3_howHeld 21 = .ok (.lconst 1, 1) := by decide +kernel
theorem dX3_howHeld_22 : decode cX3_howHeld 22 = .ok (.land, 1) := by decide +kernel
theorem dX3_howHeld_23 : decode cX3_howHeld 23 = .ok (.lconst 1, 1) := by decide +kernel
theorem dX3_howHeld_24 : decode cX3_howHeld 24 = .ok (.lcmp, 1) := by decide +kernel
theorem dX3_howHeld_25 : decode cX3_howHeld 25 = .ok (.ifCond .ne 7, 3) := by decide +kernel
theorem dX3_howHeld_28 : decode cX3_howHeld 28 = .ok (.iconst 0, 1) := by decide +kernel
theorem dX3_howHeld_29 : decode cX3_howHeld 29 = .ok (.goto 4, 3) := by decide +kernel
theorem dX3_howHeld_32 : decode cX3_howHeld 32 = .ok (.iconst 2, 1) := by decide +kernel
theorem dX3_howHeld_33 : decode cX3_howHeld 33 = .ok (.ireturn, 1) := by decide +kernel
theorem dX3_holdSquare_0 : decode cX3_holdSquare 0 = .ok (.lconst 1, 1) := by decide +kernel
theorem dX3_holdSquare_1 : decode cX3_holdSquare 1 = .ok (.iload_n 1, 1) := by decide +kernel
theorem dX3_holdSquare_2 : decode cX3_holdSquare 2 = .ok (.lshl, 1) := by decide +kernel
theorem dX3_holdSquare_3 : decode cX3_holdSquare 3 = .ok (.lstore_n 3, 1) := by decide +kernel
theorem dX3_holdSquare_4 : decode cX3_holdSquare 4 = .ok (.aload_n 0, 1) := by decide +kernel
theorem dX3_holdSquare_5 : decode cX3_holdSquare 5 = .ok (.iload_n 2, 1) := by decide +kernel
theorem dX3_holdSquare_6 : decode cX3_holdSquare 6 = .ok (.iconst 1, 1) := by decide +kernel
theorem dX3_holdSquare_7 : decode cX3_holdSquare 7 = .ok (.if_icmp .ne 12, 3) := by decide +kernel
theorem dX3_holdSquare_10 : decode cX3_holdSquare 10 = .ok (.aload_n 0, 1) := by decide +kernel
theorem dX3_holdSquare_11 : decode cX3_holdSquare 11 = .ok (.getfield 21, 3) := by decide +kernel
theorem dX3_holdSquare_14 : decode cX3_holdSquare 14 = .ok (.lload_n 3, 1) := by decide +kernel
theorem dX3_holdSquare_15 : decode cX3_holdSquare 15 = .ok (.lor, 1) := by decide +kernel
theorem dX3_holdSquare_16 : decode cX3_holdSquare 16 = .ok (.goto 13, 3) := by decide +kernel
theorem dX3_holdSquare_19 : decode cX3_holdSquare 19 = .ok (.aload_n 0, 1) := by decide +kernel
theorem dX3_holdSquare_20 : decode cX3_holdSquare 20 = .ok (.getfield 21, 3) := by decide +kernel
theorem dX3_holdSquare_23 : decode cX3_holdSquare 23 = .ok (.lload_n 3, 1) := by decide +kernel
theorem dX3_holdSquare_24 : decode cX3_holdSquare 24 = .ok (.ldc2_w 48, 3) := by decide +kernel
theorem dX3_holdSquare_27 : decode cX3_holdSquare 27 = .ok (.lxor, 1) := by decide +kernel
theorem dX3_holdSquare_28 : decode cX3_holdSquare 28 = .ok (.land, 1) := by decide +kernel
theorem dX3_holdSquare_29 : decode cX3_holdSquare 29 = .ok (.putfield 21, 3) := by decide +kernel
theorem dX3_holdSquare_32 : decode cX3_holdSquare 32 = .ok (.aload_n 0, 1) := by decide +kernel
theorem dX3_holdSquare_33 : decode cX3_holdSquare 33 = .ok (.iload_n 2, 1) := by decide +kernel
theorem dX3_holdSquare_34 : decode cX3_holdSquare 34 = .ok (.ifCond .ne 12, 3) := by decide +kernel
theorem dX3_holdSquare_37 : decode cX3_holdSquare 37 = .ok (.aload_n 0, 1) := by decide +kernel
theorem dX3_holdSquare_38 : decode cX3_holdSquare 38 = .ok (.getfield 25, 3) := by decide +kernel
theorem dX3_holdSquare_41 : decode cX3_holdSquare 41 = .ok (.lload_n 3, 1) := by decide +kernel
theorem dX3_holdSquare_42 : decode cX3_holdSquare 42 = .ok (.lor, 1) := by decide +kernel
theorem dX3_holdSquare_43 : decode cX3_holdSquare 43 = .ok (.goto 13, 3) := by decide +kernel
theorem dX3_holdSquare_46 : decode cX3_holdSquare 46 = .ok (.aload_n 0, 1) := by decide +kernel
theorem dX3_holdSquare_47 : decode cX3_holdSquare 47 = .ok (.getfield 25, 3) := by decide +kernel
theorem dX3_holdSquare_50 : decode cX3_holdSquare 50 = .ok (.lload_n 3, 1) := by decide +kernel
theorem dX3_holdSquare_51 : decode cX3_holdSquare 51 = .ok (.ldc2_w 48, 3) := by decide +kernel
theorem dX3_holdSquare_54 : decode cX3_holdSquare 54 = .ok (.lxor, 1) := by decide +kernel
theorem dX3_holdSquare_55 : decode cX3_holdSquare 55 = .ok (.land, 1) := by decide +kernel
theorem dX3_holdSquare_56 : decode cX3_holdSquare 56 = .ok (.putfield 25, 3) := by decide +kernel
theorem dX3_holdSquare_59 : decode cX3_holdSquare 59 = .ok (.return_, 1) := by decide +kernel
def chX3_onesHeldInRow : List (List Cond) := [[.fieldLink RX3 28 "ShadowBench$Job" "board" "LShadowBench$Board;", .fieldLink RX3 21 "ShadowBench$Job" "heldOnes" "J", .methodLink RX3 50 yX0_rowOf, .instanceMethod yX0_rowOf, .selects RX0 yX0_rowOf yX0_rowOf, .initialized RX0, .code yX0_rowOf cX0_rowOf 4 (some .int), .fieldLink RX0 13 "ShadowBench$Board" "wide" "I", .fieldLink RX0 23 "ShadowBench$Board" "rowNumbers" "I"], wsX10, wsX30, wsX40, wsX50, wsX00]
set_option maxRecDepth 20000 in
theorem chX3_onesHeldInRow_in : ∀ c ∈ chX3_onesHeldInRow, ∀ w ∈ c, w ∈ wsX3_onesHeldInRow := (all_c (P := fun c => ∀ w ∈ c, w ∈ wsX3_onesHeldInRow) (fun w h => List.mem_cons_of_mem _ (List.mem_append_left _ (List.mem_append_left _ (List.mem_append_left _ (List.mem_append_left _ (List.mem_append_left _ (h))))))) (all_c (P := fun c => ∀ w ∈ c, w ∈ wsX3_onesHeldInRow) (fun w h => List.mem_cons_of_mem _ (List.mem_append_left _ (List.mem_append_left _ (List.mem_append_left _ (List.mem_append_left _ (List.mem_append_right _ (h))))))) (all_c (P := fun c => ∀ w ∈ c, w ∈ wsX3_onesHeldInRow) (fun w h => List.mem_cons_of_mem _ (List.mem_append_left _ (List.mem_append_left _ (List.mem_append_left _ (List.mem_append_right _ (h)))))) (all_c (P := fun c => ∀ w ∈ c, w ∈ wsX3_onesHeldInRow) (fun w h => List.mem_cons_of_mem _ (List.mem_append_left _ (List.mem_append_left _ (List.mem_append_right _ (h))))) (all_c (P := fun c => ∀ w ∈ c, w ∈ wsX3_onesHeldInRow) (fun w h => List.mem_cons_of_mem _ (List.mem_append_left _ (List.mem_append_right _ (h)))) (all_c (P := fun c => ∀ w ∈ c, w ∈ wsX3_onesHeldInRow) (fun w h => List.mem_cons_of_mem _ (List.mem_append_right _ (h))) (fun _ h => nomatch h)))))))
set_option maxRecDepth 20000 in
theorem ggX3_onesHeldInRow_X0_rowOf : GoodIn wsX3_onesHeldInRow wsX0_rowOf := goodIn_ca (goodIn_c chX3_onesHeldInRow chX3_onesHeldInRow_in _ [(0, 6), (0, 7), (0, 8)] (by rfl) (by decide +kernel)) (goodIn_sub (fun _ h => List.mem_cons_of_mem _ (List.mem_append_right _ (h))) (by decide +kernel))
set_option maxRecDepth 20000 in
theorem gX3_onesHeldInRow_X0_rowOf : GoodIn wsX3_onesHeldInRow (wsV RX3 50 RX0 yX0_rowOf wsX0_rowOf) := goodIn_app (goodIn_c chX3_onesHeldInRow chX3_onesHeldInRow_in _ [(0, 2), (0, 3), (0, 4), (0, 5)] (by rfl) (by decide +kernel)) ggX3_onesHeldInRow_X0_rowOf
theorem dX3_onesHeldInRow_0 : decode cX3_onesHeldInRow 0 = .ok (.aload_n 0, 1) := by decide +kernel
theorem dX3_onesHeldInRow_1 : decode cX3_onesHeldInRow 1 = .ok (.getfield 28, 3) := by decide +kernel
theorem dX3_onesHeldInRow_4 : decode cX3_onesHeldInRow 4 = .ok (.aload_n 0, 1) := by decide +kernel
theorem dX3_onesHeldInRow_5 : decode cX3_onesHeldInRow 5 = .ok (.getfield 21, 3) := by decide +kernel
theorem dX3_onesHeldInRow_8 : decode cX3_onesHeldInRow 8 = .ok (.iload_n 1, 1) := by decide +kernel
theorem dX3_onesHeldInRow_9 : decode cX3_onesHeldInRow 9 = .ok (.invokevirtual 50, 3) := by decide +kernel
theorem dX3_onesHeldInRow_12 : decode cX3_onesHeldInRow 12 = .ok (.ireturn, 1) := by decide +kernel
def chX3_noughtsHeldInRow : List (List Cond) := [[.fieldLink RX3 28 "ShadowBench$Job" "board" "LShadowBench$Board;", .fieldLink RX3 25 "ShadowBench$Job" "heldNoughts" "J", .methodLink RX3 50 yX0_rowOf, .instanceMethod yX0_rowOf, .selects RX0 yX0_rowOf yX0_rowOf, .initialized RX0, .code yX0_rowOf cX0_rowOf 4 (some .int), .fieldLink RX0 13 "ShadowBench$Board" "wide" "I", .fieldLink RX0 23 "ShadowBench$Board" "rowNumbers" "I"], wsX10, wsX30, wsX40, wsX50, wsX00]
set_option maxRecDepth 20000 in
theorem chX3_noughtsHeldInRow_in : ∀ c ∈ chX3_noughtsHeldInRow, ∀ w ∈ c, w ∈ wsX3_noughtsHeldInRow := (all_c (P := fun c => ∀ w ∈ c, w ∈ wsX3_noughtsHeldInRow) (fun w h => List.mem_cons_of_mem _ (List.mem_append_left _ (List.mem_append_left _ (List.mem_append_left _ (List.mem_append_left _ (List.mem_append_left _ (h))))))) (all_c (P := fun c => ∀ w ∈ c, w ∈ wsX3_noughtsHeldInRow) (fun w h => List.mem_cons_of_mem _ (List.mem_append_left _ (List.mem_append_left _ (List.mem_append_left _ (List.mem_append_left _ (List.mem_append_right _ (h))))))) (all_c (P := fun c => ∀ w ∈ c, w ∈ wsX3_noughtsHeldInRow) (fun w h => List.mem_cons_of_mem _ (List.mem_append_left _ (List.mem_append_left _ (List.mem_append_left _ (List.mem_append_right _ (h)))))) (all_c (P := fun c => ∀ w ∈ c, w ∈ wsX3_noughtsHeldInRow) (fun w h => List.mem_cons_of_mem _ (List.mem_append_left _ (List.mem_append_left _ (List.mem_append_right _ (h))))) (all_c (P := fun c => ∀ w ∈ c, w ∈ wsX3_noughtsHeldInRow) (fun w h => List.mem_cons_of_mem _ (List.mem_append_left _ (List.mem_append_right _ (h)))) (all_c (P := fun c => ∀ w ∈ c, w ∈ wsX3_noughtsHeldInRow) (fun w h => List.mem_cons_of_mem _ (List.mem_append_right _ (h))) (fun _ h => nomatch h)))))))
set_option maxRecDepth 20000 in
theorem ggX3_noughtsHeldInRow_X0_rowOf : GoodIn wsX3_noughtsHeldInRow wsX0_rowOf := goodIn_ca (goodIn_c chX3_noughtsHeldInRow chX3_noughtsHeldInRow_in _ [(0, 6), (0, 7), (0, 8)] (by rfl) (by decide +kernel)) (goodIn_sub (fun _ h => List.mem_cons_of_mem _ (List.mem_append_right _ (h))) (by decide +kernel))
set_option maxRecDepth 20000 in
theorem gX3_noughtsHeldInRow_X0_rowOf : GoodIn wsX3_noughtsHeldInRow (wsV RX3 50 RX0 yX0_rowOf wsX0_rowOf) := goodIn_app (goodIn_c chX3_noughtsHeldInRow chX3_noughtsHeldInRow_in _ [(0, 2), (0, 3), (0, 4), (0, 5)] (by rfl) (by decide +kernel)) ggX3_noughtsHeldInRow_X0_rowOf
theorem dX3_noughtsHeldInRow_0 : decode cX3_noughtsHeldInRow 0 = .ok (.aload_n 0, 1) := by decide +kernel
theorem dX3_noughtsHeldInRow_1 : decode cX3_noughtsHeldInRow 1 = .ok (.getfield 28, 3) := by decide +kernel
theorem dX3_noughtsHeldInRow_4 : decode cX3_noughtsHeldInRow 4 = .ok (.aload_n 0, 1) := by decide +kernel
theorem dX3_noughtsHeldInRow_5 : decode cX3_noughtsHeldInRow 5 = .ok (.getfield 25, 3) := by decide +kernel
theorem dX3_noughtsHeldInRow_8 : decode cX3_noughtsHeldInRow 8 = .ok (.iload_n 1, 1) := by decide +kernel
theorem dX3_noughtsHeldInRow_9 : decode cX3_noughtsHeldInRow 9 = .ok (.invokevirtual 50, 3) := by decide +kernel
theorem dX3_noughtsHeldInRow_12 : decode cX3_noughtsHeldInRow 12 = .ok (.ireturn, 1) := by decide +kernel
def chX3_fullColumns : List (List Cond) := [wsX3_fullColumns_r1, wsX3_fullColumns_r2, wsX10, wsX30, wsX40, wsX50, wsX00]
set_option maxRecDepth 20000 in
theorem chX3_fullColumns_in : ∀ c ∈ chX3_fullColumns, ∀ w ∈ c, w ∈ wsX3_fullColumns := (all_c (P := fun c => ∀ w ∈ c, w ∈ wsX3_fullColumns) (fun w h => List.mem_cons_of_mem _ (List.mem_append_left _ (List.mem_append_left _ (List.mem_append_left _ (List.mem_append_left _ (List.mem_append_left _ (List.mem_append_left _ (h)))))))) (all_c (P := fun c => ∀ w ∈ c, w ∈ wsX3_fullColumns) (fun w h => List.mem_cons_of_mem _ (List.mem_append_left _ (List.mem_append_left _ (List.mem_append_left _ (List.mem_append_left _ (List.mem_append_left _ (List.mem_append_right _ (h)))))))) (all_c (P := fun c => ∀ w ∈ c, w ∈ wsX3_fullColumns) (fun w h => List.mem_cons_of_mem _ (List.mem_append_left _ (List.mem_append_left _ (List.mem_append_left _ (List.mem_append_left _ (List.mem_append_right _ (h))))))) (all_c (P := fun c => ∀ w ∈ c, w ∈ wsX3_fullColumns) (fun w h => List.mem_cons_of_mem _ (List.mem_append_left _ (List.mem_append_left _ (List.mem_append_left _ (List.mem_append_right _ (h)))))) (all_c (P := fun c => ∀ w ∈ c, w ∈ wsX3_fullColumns) (fun w h => List.mem_cons_of_mem _ (List.mem_append_left _ (List.mem_append_left _ (List.mem_append_right _ (h))))) (all_c (P := fun c => ∀ w ∈ c, w ∈ wsX3_fullColumns) (fun w h => List.mem_cons_of_mem _ (List.mem_append_left _ (List.mem_append_right _ (h)))) (all_c (P := fun c => ∀ w ∈ c, w ∈ wsX3_fullColumns) (fun w h => List.mem_cons_of_mem _ (List.mem_append_right _ (h))) (fun _ h => nomatch h))))))))
set_option maxRecDepth 20000 in
theorem ggX3_fullColumns_X0_onesOfLine : GoodIn wsX3_fullColumns wsX0_onesOfLine := goodIn_ca (goodIn_c chX3_fullColumns chX3_fullColumns_in _ [(0, 6), (0, 7), (0, 8), (0, 9), (0, 10), (0, 11), (0, 12), (0, 13), (0, 14)] (by rfl) (by decide +kernel)) (goodIn_sub (fun _ h => List.mem_cons_of_mem _ (List.mem_append_right _ (h))) (by decide +kernel))
set_option maxRecDepth 20000 in
theorem gX3_fullColumns_X0_onesOfLine : GoodIn wsX3_fullColumns (wsV RX3 40 RX0 yX0_onesOfLine wsX0_onesOfLine) := goodIn_app (goodIn_c chX3_fullColumns chX3_fullColumns_in _ [(0, 2), (0, 3), (0, 4), (0, 5)] (by rfl) (by decide +kernel)) ggX3_fullColumns_X0_onesOfLine
set_option maxRecDepth 20000 in
theorem ggX3_fullColumns_X3_sumOf : GoodIn wsX3_fullColumns wsX3_sumOf := goodIn_ca (goodIn_ca (goodIn_ca (goodIn_ca (goodIn_c chX3_fullColumns chX3_fullColumns_in _ [(0, 20), (0, 21)] (by rfl) (by decide +kernel)) (goodIn_sub (fun _ h => List.mem_cons_of_mem _ (List.mem_append_left _ (List.mem_append_left _ (List.mem_append_left _ (List.mem_append_left _ (List.mem_append_right _ (h))))))) (by decide +kernel))) (goodIn_sub (fun _ h => List.mem_cons_of_mem _ (List.mem_append_left _ (List.mem_append_left _ (List.mem_append_left _ (List.mem_append_right _ (h)))))) (by decide +kernel))) (goodIn_sub (fun _ h => List.mem_cons_of_mem _ (List.mem_append_left _ (List.mem_append_left _ (List.mem_append_right _ (h))))) (by decide +kernel))) (goodIn_sub (fun _ h => List.mem_cons_of_mem _ (List.mem_append_left _ (List.mem_append_right _ (h)))) (by decide +kernel))
set_option maxRecDepth 20000 in
theorem gX3_fullColumns_X3_sumOf_u57X1 : GoodIn wsX3_fullColumns (va_wsU RX3 57 RX1 "ShadowBench$Job" ⟨"ShadowBench$Job", "sumOf", "(II)I"⟩ yX3_sumOf wsX3_sumOf) := goodIn_app (goodIn_c chX3_fullColumns chX3_fullColumns_in _ [(0, 15), (0, 16), (0, 17), (0, 18), (0, 19)] (by rfl) (by decide +kernel)) ggX3_fullColumns_X3_sumOf
set_option maxRecDepth 20000 in
theorem gX3_fullColumns_X3_sumOf : GoodIn wsX3_fullColumns (wsV RX3 57 RX3 yX3_sumOf wsX3_sumOf) := goodIn_app (goodIn_c chX3_fullColumns chX3_fullColumns_in _ [(0, 15), (0, 18), (0, 23), (0, 19)] (by rfl) (by decide +kernel)) ggX3_fullColumns_X3_sumOf
set_option maxRecDepth 20000 in
theorem gX3_fullColumns_X3_sumOf_u57X4 : GoodIn wsX3_fullColumns (va_wsU RX3 57 RX4 "ShadowBench$Job" ⟨"ShadowBench$Job", "sumOf", "(II)I"⟩ yX3_sumOf wsX3_sumOf) := goodIn_app (goodIn_c chX3_fullColumns chX3_fullColumns_in _ [(0, 15), (0, 16), (1, 0), (0, 18), (0, 19)] (by rfl) (by decide +kernel)) ggX3_fullColumns_X3_sumOf
set_option maxRecDepth 20000 in
theorem gX3_fullColumns_X3_sumOf_u57X5 : GoodIn wsX3_fullColumns (va_wsU RX3 57 RX5 "ShadowBench$Job" ⟨"ShadowBench$Job", "sumOf", "(II)I"⟩ yX3_sumOf wsX3_sumOf) := goodIn_app (goodIn_c chX3_fullColumns chX3_fullColumns_in _ [(0, 15), (0, 16), (1, 1), (0, 18), (0, 19)] (by rfl) (by decide +kernel)) ggX3_fullColumns_X3_sumOf
theorem dX3_fullColumns_0 : decode cX3_fullColumns 0 = .ok (.iconst 0, 1) := by decide +kernel
theorem dX3_fullColumns_1 : decode cX3_fullColumns 1 = .ok (.istore_n 3, 1) := by decide +kernel
theorem dX3_fullColumns_2 : decode cX3_fullColumns 2 = .ok (.iconst 0, 1) := by decide +kernel
theorem dX3_fullColumns_3 : decode cX3_fullColumns 3 = .ok (.istore 4, 2) := by decide +kernel
theorem dX3_fullColumns_5 : decode cX3_fullColumns 5 = .ok (.iload 4, 2) := by decide +kernel
theorem dX3_fullColumns_7 : decode cX3_fullColumns 7 = .ok (.aload_n 0, 1) := by decide +kernel
theorem dX3_fullColumns_8 : decode cX3_fullColumns 8 = .ok (.getfield 28, 3) := by decide +kernel
theorem dX3_fullColumns_11 : decode cX3_fullColumns 11 = .ok (.getfield 54, 3) := by decide +kernel
theorem dX3_fullColumns_14 : decode cX3_fullColumns 14 = .ok (.if_icmp .ge 41, 3) := by decide +kernel
theorem dX3_fullColumns_17 : decode cX3_fullColumns 17 = .ok (.aload_n 0, 1) := by decide +kernel
theorem dX3_fullColumns_18 : decode cX3_fullColumns 18 = .ok (.getfield 28, 3) := by decide +kernel
theorem dX3_fullColumns_21 : decode cX3_fullColumns 21 = .ok (.iconst 1, 1) := by decide +kernel
theorem dX3_fullColumns_22 : decode cX3_fullColumns 22 = .ok (.iload 4, 2) := by decide +kernel
theorem dX3_fullColumns_24 : decode cX3_fullColumns 24 = .ok (.lload_n 1, 1) := by decide +kernel
theorem dX3_fullColumns_25 : decode cX3_fullColumns 25 = .ok (.invokevirtual 40, 3) := by decide +kernel
theorem dX3_fullColumns_28 : decode cX3_fullColumns 28 = .ok (.istore 5, 2) := by decide +kernel
theorem dX3_fullColumns_30 : decode cX3_fullColumns 30 = .ok (.iload 5, 2) := by decide +kernel
theorem dX3_fullColumns_32 : decode cX3_fullColumns 32 = .ok (.aload_n 0, 1) := by decide +kernel
theorem dX3_fullColumns_33 : decode cX3_fullColumns 33 = .ok (.iconst 1, 1) := by decide +kernel
theorem dX3_fullColumns_34 : decode cX3_fullColumns 34 = .ok (.iload 4, 2) := by decide +kernel
theorem dX3_fullColumns_36 : decode cX3_fullColumns 36 = .ok (.invokevirtual 57, 3) := by decide +kernel
theorem dX3_fullColumns_39 : decode cX3_fullColumns 39 = .ok (.if_icmp .lt 10, 3) := by decide +kernel
theorem dX3_fullColumns_42 : decode cX3_fullColumns 42 = .ok (.iload_n 3, 1) := by decide +kernel
theorem dX3_fullColumns_43 : decode cX3_fullColumns 43 = .ok (.iconst 1, 1) := by decide +kernel
theorem dX3_fullColumns_44 : decode cX3_fullColumns 44 = .ok (.iload 4, 2) := by decide +kernel
theorem dX3_fullColumns_46 : decode cX3_fullColumns 46 = .ok (.ishl, 1) := by decide +kernel
theorem dX3_fullColumns_47 : decode cX3_fullColumns 47 = .ok (.ior, 1) := by decide +kernel
theorem dX3_fullColumns_48 : decode cX3_fullColumns 48 = .ok (.istore_n 3, 1) := by decide +kernel
theorem dX3_fullColumns_49 : decode cX3_fullColumns 49 = .ok (.iinc 4 1, 3) := by decide +kernel
theorem dX3_fullColumns_52 : decode cX3_fullColumns 52 = .ok (.goto (-47), 3) := by decide +kernel
theorem dX3_fullColumns_55 : decode cX3_fullColumns 55 = .ok (.iload_n 3, 1) := by decide +kernel
theorem dX3_fullColumns_56 : decode cX3_fullColumns 56 = .ok (.ireturn, 1) := by decide +kernel
def chX3_admits : List (List Cond) := [wsX3_admits_r1, wsX3_admits_r2, wsX3_admits_r3, wsX3_admits_r4, wsX10, wsX30, wsX40, wsX50, wsX00]
set_option maxRecDepth 20000 in
theorem chX3_admits_in : ∀ c ∈ chX3_admits, ∀ w ∈ c, w ∈ wsX3_admits := (all_c (P := fun c => ∀ w ∈ c, w ∈ wsX3_admits) (fun w h => List.mem_cons_of_mem _ (List.mem_append_left _ (List.mem_append_left _ (List.mem_append_left _ (List.mem_append_left _ (List.mem_append_left _ (List.mem_append_left _ (h)))))))) (all_c (P := fun c => ∀ w ∈ c, w ∈ wsX3_admits) (fun w h => List.mem_cons_of_mem _ (List.mem_append_left _ (List.mem_append_left _ (List.mem_append_left _ (List.mem_append_left _ (List.mem_append_left _ (List.mem_append_right _ (List.mem_append_left _ (h))))))))) (all_c (P := fun c => ∀ w ∈ c, w ∈ wsX3_admits) (fun w h => List.mem_cons_of_mem _ (List.mem_append_left _ (List.mem_append_left _ (List.mem_append_left _ (List.mem_append_left _ (List.mem_append_left _ (List.mem_append_right _ (List.mem_append_right _ (List.mem_append_left _ (h)))))))))) (all_c (P := fun c => ∀ w ∈ c, w ∈ wsX3_admits) (fun w h => List.mem_cons_of_mem _ (List.mem_append_left _ (List.mem_append_left _ (List.mem_append_left _ (List.mem_append_left _ (List.mem_append_left _ (List.mem_append_right _ (List.mem_append_right _ (List.mem_append_right _ (h)))))))))) (all_c (P := fun c => ∀ w ∈ c, w ∈ wsX3_admits) (fun w h => List.mem_cons_of_mem _ (List.mem_append_left _ (List.mem_append_left _ (List.mem_append_left _ (List.mem_append_left _ (List.mem_append_right _ (h))))))) (all_c (P := fun c => ∀ w ∈ c, w ∈ wsX3_admits) (fun w h => List.mem_cons_of_mem _ (List.mem_append_left _ (List.mem_append_left _ (List.mem_append_left _ (List.mem_append_right _ (h)))))) (all_c (P := fun c => ∀ w ∈ c, w ∈ wsX3_admits) (fun w h => List.mem_cons_of_mem _ (List.mem_append_left _ (List.mem_append_left _ (List.mem_append_right _ (h))))) (all_c (P := fun c => ∀ w ∈ c, w ∈ wsX3_admits) (fun w h => List.mem_cons_of_mem _ (List.mem_append_left _ (List.mem_append_right _ (h)))) (all_c (P := fun c => ∀ w ∈ c, w ∈ wsX3_admits) (fun w h => List.mem_cons_of_mem _ (List.mem_append_right _ (h))) (fun _ h => nomatch h))))))))))
set_option maxRecDepth 20000 in
theorem ggX3_admits_X3_hasShadowsAsTold : GoodIn wsX3_admits wsX3_hasShadowsAsTold := goodIn_ca (goodIn_ca (goodIn_ca (goodIn_ca (goodIn_ca (goodIn_c chX3_admits chX3_admits_in _ [(0, 8), (0, 9), (0, 10), (0, 11), (0, 12), (0, 13), (0, 7), (0, 14), (0, 15), (0, 16), (0, 17), (0, 18), (0, 19), (0, 20), (0, 21), (0, 22), (0, 23), (1, 0), (1, 1), (1, 2), (1, 3), (1, 4), (1, 5), (1, 6), (1, 7), (1, 8), (1, 9), (1, 10), (1, 11), (1, 12), (1, 13), (1, 14), (1, 15), (1, 16), (1, 17), (1, 18), (1, 19), (1, 20), (1, 21), (1, 22), (1, 23), (2, 0)] (by rfl) (by decide +kernel)) (goodIn_sub (fun _ h => List.mem_cons_of_mem _ (List.mem_append_left _ (List.mem_append_left _ (List.mem_append_left _ (List.mem_append_left _ (List.mem_append_right _ (h))))))) (by decide +kernel))) (goodIn_sub (fun _ h => List.mem_cons_of_mem _ (List.mem_append_left _ (List.mem_append_left _ (List.mem_append_left _ (List.mem_append_right _ (h)))))) (by decide +kernel))) (goodIn_sub (fun _ h => List.mem_cons_of_mem _ (List.mem_append_left _ (List.mem_append_left _ (List.mem_append_right _ (h))))) (by decide +kernel))) (goodIn_sub (fun _ h => List.mem_cons_of_mem _ (List.mem_append_left _ (List.mem_append_right _ (h)))) (by decide +kernel))) (goodIn_sub (fun _ h => List.mem_cons_of_mem _ (List.mem_append_right _ (h))) (by decide +kernel))
set_option maxRecDepth 20000 in
theorem gX3_admits_X3_hasShadowsAsTold_u61X1 : GoodIn wsX3_admits (va_wsU RX3 61 RX1 "ShadowBench$Job" ⟨"ShadowBench$Job", "hasShadowsAsTold", "(J)Z"⟩ yX3_hasShadowsAsTold wsX3_hasShadowsAsTold) := goodIn_app (goodIn_c chX3_admits chX3_admits_in _ [(0, 3), (0, 4), (0, 5), (0, 6), (0, 7)] (by rfl) (by decide +kernel)) ggX3_admits_X3_hasShadowsAsTold
set_option maxRecDepth 20000 in
theorem gX3_admits_X3_hasShadowsAsTold : GoodIn wsX3_admits (wsV RX3 61 RX3 yX3_hasShadowsAsTold wsX3_hasShadowsAsTold) := goodIn_app (goodIn_c chX3_admits chX3_admits_in _ [(0, 3), (0, 6), (2, 2), (0, 7)] (by rfl) (by decide +kernel)) ggX3_admits_X3_hasShadowsAsTold
set_option maxRecDepth 20000 in
theorem gX3_admits_X3_hasShadowsAsTold_u61X4 : GoodIn wsX3_admits (va_wsU RX3 61 RX4 "ShadowBench$Job" ⟨"ShadowBench$Job", "hasShadowsAsTold", "(J)Z"⟩ yX3_hasShadowsAsTold wsX3_hasShadowsAsTold) := goodIn_app (goodIn_c chX3_admits chX3_admits_in _ [(0, 3), (0, 4), (2, 3), (0, 6), (0, 7)] (by rfl) (by decide +kernel)) ggX3_admits_X3_hasShadowsAsTold
set_option maxRecDepth 20000 in
theorem gX3_admits_X3_hasShadowsAsTold_u61X5 : GoodIn wsX3_admits (va_wsU RX3 61 RX5 "ShadowBench$Job" ⟨"ShadowBench$Job", "hasShadowsAsTold", "(J)Z"⟩ yX3_hasShadowsAsTold wsX3_hasShadowsAsTold) := goodIn_app (goodIn_c chX3_admits chX3_admits_in _ [(0, 3), (0, 4), (2, 4), (0, 6), (0, 7)] (by rfl) (by decide +kernel)) ggX3_admits_X3_hasShadowsAsTold
set_option maxRecDepth 20000 in
theorem ggX3_admits_X1_isAsKindAsks : GoodIn wsX3_admits wsX1_isAsKindAsks := goodIn_ca (goodIn_ca (goodIn_ca (goodIn_ca (goodIn_ca (goodIn_c chX3_admits chX3_admits_in _ [(2, 11), (2, 12), (2, 13), (2, 14), (2, 15), (2, 16), (2, 17), (2, 18), (2, 19), (2, 20), (2, 21), (2, 22), (2, 23), (3, 0), (0, 23), (3, 1), (1, 7), (1, 2), (3, 2), (3, 3), (3, 4), (3, 5), (3, 6), (3, 7), (1, 1), (3, 8), (3, 9), (3, 10), (3, 11), (3, 12), (3, 13), (3, 14), (3, 15), (3, 16)] (by rfl) (by decide +kernel)) (goodIn_sub (fun _ h => List.mem_cons_of_mem _ (List.mem_append_left _ (List.mem_append_left _ (List.mem_append_left _ (List.mem_append_left _ (List.mem_append_right _ (h))))))) (by decide +kernel))) (goodIn_sub (fun _ h => List.mem_cons_of_mem _ (List.mem_append_left _ (List.mem_append_left _ (List.mem_append_left _ (List.mem_append_right _ (h)))))) (by decide +kernel))) (goodIn_sub (fun _ h => List.mem_cons_of_mem _ (List.mem_append_left _ (List.mem_append_left _ (List.mem_append_right _ (h))))) (by decide +kernel))) (goodIn_sub (fun _ h => List.mem_cons_of_mem _ (List.mem_append_left _ (List.mem_append_right _ (h)))) (by decide +kernel))) (goodIn_sub (fun _ h => List.mem_cons_of_mem _ (List.mem_append_right _ (h))) (by decide +kernel))
set_option maxRecDepth 20000 in
theorem gX3_admits_X1_isAsKindAsks_u65X1 : GoodIn wsX3_admits (va_wsO RX3 65 RX1 "ShadowBench$Job" ⟨"ShadowBench$Job", "isAsKindAsks", "(J)Z"⟩ yX1_isAsKindAsks wsX1_isAsKindAsks) := goodIn_app (goodIn_of _ (by decide +kernel)) ggX3_admits_X1_isAsKindAsks
set_option maxRecDepth 20000 in
theorem ggX3_admits_X3_isAsKindAsks : GoodIn wsX3_admits wsX3_isAsKindAsks := goodIn_r _ [90] (by decide +kernel) (by decide +kernel)
set_option maxRecDepth 20000 in
theorem gX3_admits_X3_isAsKindAsks : GoodIn wsX3_admits (wsV RX3 65 RX3 yX3_isAsKindAsks wsX3_isAsKindAsks) := goodIn_app (goodIn_c chX3_admits chX3_admits_in _ [(2, 5), (2, 7), (3, 20), (0, 7)] (by rfl) (by decide +kernel)) ggX3_admits_X3_isAsKindAsks
set_option maxRecDepth 20000 in
theorem ggX3_admits_X4_isAsKindAsks : GoodIn wsX3_admits wsX4_isAsKindAsks := goodIn_ca (goodIn_ca (goodIn_ca (goodIn_ca (goodIn_ca (goodIn_c chX3_admits chX3_admits_in _ [(2, 19), (2, 20), (2, 21), (2, 22), (2, 23), (3, 0), (0, 23), (3, 1), (1, 7), (1, 2), (3, 2), (3, 3)] (by rfl) (by decide +kernel)) (goodIn_sub (fun _ h => List.mem_cons_of_mem _ (List.mem_append_left _ (List.mem_append_left _ (List.mem_append_left _ (List.mem_append_left _ (List.mem_append_right _ (h))))))) (by decide +kernel))) (goodIn_sub (fun _ h => List.mem_cons_of_mem _ (List.mem_append_left _ (List.mem_append_left _ (List.mem_append_left _ (List.mem_append_right _ (h)))))) (by decide +kernel))) (goodIn_sub (fun _ h => List.mem_cons_of_mem _ (List.mem_append_left _ (List.mem_append_left _ (List.mem_append_right _ (h))))) (by decide +kernel))) (goodIn_sub (fun _ h => List.mem_cons_of_mem _ (List.mem_append_left _ (List.mem_append_right _ (h)))) (by decide +kernel))) (goodIn_sub (fun _ h => List.mem_cons_of_mem _ (List.mem_append_right _ (h))) (by decide +kernel))
set_option maxRecDepth 20000 in
theorem gX3_admits_X4_isAsKindAsks_u65X4 : GoodIn wsX3_admits (va_wsO RX3 65 RX4 "ShadowBench$Job" ⟨"ShadowBench$Job", "isAsKindAsks", "(J)Z"⟩ yX4_isAsKindAsks wsX4_isAsKindAsks) := goodIn_app (goodIn_of _ (by decide +kernel)) ggX3_admits_X4_isAsKindAsks
set_option maxRecDepth 20000 in
theorem gX3_admits_X3_isAsKindAsks_u65X5 : GoodIn wsX3_admits (va_wsU RX3 65 RX5 "ShadowBench$Job" ⟨"ShadowBench$Job", "isAsKindAsks", "(J)Z"⟩ yX3_isAsKindAsks wsX3_isAsKindAsks) := goodIn_app (goodIn_c chX3_admits chX3_admits_in _ [(2, 5), (2, 6), (3, 22), (2, 7), (0, 7)] (by rfl) (by decide +kernel)) ggX3_admits_X3_isAsKindAsks
theorem dX3_admits_0 : decode cX3_admits 0 = .ok (.lload_n 1, 1) := by decide +kernel
theorem dX3_admits_1 : decode cX3_admits 1 = .ok (.aload_n 0, 1) := by decide +kernel
theorem dX3_admits_2 : decode cX3_admits 2 = .ok (.getfield 25, 3) := by decide +kernel
theorem dX3_admits_5 : decode cX3_admits 5 = .ok (.land, 1) := by decide +kernel
theorem dX3_admits_6 : decode cX3_admits 6 = .ok (.lconst 0, 1) := by decide +kernel
theorem dX3_admits_7 : decode cX3_admits 7 = .ok (.lcmp, 1) := by decide +kernel
theorem dX3_admits_8 : decode cX3_admits 8 = .ok (.ifCond .ne 38, 3) := by decide +kernel
theorem dX3_admits_11 : decode cX3_admits 11 = .ok (.lload_n 1, 1) := by decide +kernel
theorem dX3_admits_12 : decode cX3_admits 12 = .ok (.ldc2_w 48, 3) := by decide +kernel
theorem dX3_admits_15 : decode cX3_admits 15 = .ok (.lxor, 1) := by decide +kernel
theorem dX3_admits_16 : decode cX3_admits 16 = .ok (.aload_n 0, 1) := by decide +kernel
theorem dX3_admits_17 : decode cX3_admits 17 = .ok (.getfield 21, 3) := by decide +kernel
theorem dX3_admits_20 : decode cX3_admits 20 = .ok (.land, 1) := by decide +kernel
theorem dX3_admits_21 : decode cX3_admits 21 = .ok (.lconst 0, 1) := by decide +kernel
theorem dX3_admits_22 : decode cX3_admits 22 = .ok (.lcmp, 1) := by decide +kernel
theorem dX3_admits_23 : decode cX3_admits 23 = .ok (.ifCond .ne 23, 3) := by decide +kernel
theorem dX3_admits_26 : decode cX3_admits 26 = .ok (.aload_n 0, 1) := by decide +kernel
theorem dX3_admits_27 : decode cX3_admits 27 = .ok (.lload_n 1, 1) := by decide +kernel
theorem dX3_admits_28 : decode cX3_admits 28 = .ok (.invokevirtual 61, 3) := by decide +kernel
theorem dX3_admits_31 : decode cX3_admits 31 = .ok (.ifCond .eq 15, 3) := by decide +kernel
theorem dX3_admits_34 : decode cX3_admits 34 = .ok (.aload_n 0, 1) := by decide +kernel
theorem dX3_admits_35 : decode cX3_admits 35 = .ok (.lload_n 1, 1) := by decide +kernel
theorem dX3_admits_36 : decode cX3_admits 36 = .ok (.invokevirtual 65, 3) := by decide +kernel
theorem dX3_admits_39 : decode cX3_admits 39 = .ok (.ifCond .eq 7, 3) := by decide +kernel
theorem dX3_admits_42 : decode cX3_admits 42 = .ok (.iconst 1, 1) := by decide +kernel
theorem dX3_admits_43 : decode cX3_admits 43 = .ok (.goto 4, 3) := by decide +kernel
theorem dX3_admits_46 : decode cX3_admits 46 = .ok (.iconst 0, 1) := by decide +kernel
theorem dX3_admits_47 : decode cX3_admits 47 = .ok (.ireturn, 1) := by decide +kernel
def chX3_hasShadowsAsTold : List (List Cond) := [wsX3_hasShadowsAsTold_r1, wsX3_hasShadowsAsTold_r2, wsX10, wsX30, wsX40, wsX50, wsX00]
set_option maxRecDepth 20000 in
theorem chX3_hasShadowsAsTold_in : ∀ c ∈ chX3_hasShadowsAsTold, ∀ w ∈ c, w ∈ wsX3_hasShadowsAsTold := (all_c (P := fun c => ∀ w ∈ c, w ∈ wsX3_hasShadowsAsTold) (fun w h => List.mem_cons_of_mem _ (List.mem_append_left _ (List.mem_append_left _ (List.mem_append_left _ (List.mem_append_left _ (List.mem_append_left _ (List.mem_append_left _ (h)))))))) (all_c (P := fun c => ∀ w ∈ c, w ∈ wsX3_hasShadowsAsTold) (fun w h => List.mem_cons_of_mem _ (List.mem_append_left _ (List.mem_append_left _ (List.mem_append_left _ (List.mem_append_left _ (List.mem_append_left _ (List.mem_append_right _ (h)))))))) (all_c (P := fun c => ∀ w ∈ c, w ∈ wsX3_hasShadowsAsTold) (fun w h => List.mem_cons_of_mem _ (List.mem_append_left _ (List.mem_append_left _ (List.mem_append_left _ (List.mem_append_left _ (List.mem_append_right _ (h))))))) (all_c (P := fun c => ∀ w ∈ c, w ∈ wsX3_hasShadowsAsTold) (fun w h => List.mem_cons_of_mem _ (List.mem_append_left _ (List.mem_append_left _ (List.mem_append_left _ (List.mem_append_right _ (h)))))) (all_c (P := fun c => ∀ w ∈ c, w ∈ wsX3_hasShadowsAsTold) (fun w h => List.mem_cons_of_mem _ (List.mem_append_left _ (List.mem_append_left _ (List.mem_append_right _ (h))))) (all_c (P := fun c => ∀ w ∈ c, w ∈ wsX3_hasShadowsAsTold) (fun w h => List.mem_cons_of_mem _ (List.mem_append_left _ (List.mem_append_right _ (h)))) (all_c (P := fun c => ∀ w ∈ c, w ∈ wsX3_hasShadowsAsTold) (fun w h => List.mem_cons_of_mem _ (List.mem_append_right _ (h))) (fun _ h => nomatch h))))))))
set_option maxRecDepth 20000 in
theorem ggX3_hasShadowsAsTold_X3_isTold : GoodIn wsX3_hasShadowsAsTold wsX3_isTold := goodIn_ca (goodIn_ca (goodIn_ca (goodIn_ca (goodIn_c chX3_hasShadowsAsTold chX3_hasShadowsAsTold_in _ [(0, 6), (0, 7)] (by rfl) (by decide +kernel)) (goodIn_sub (fun _ h => List.mem_cons_of_mem _ (List.mem_append_left _ (List.mem_append_left _ (List.mem_append_left _ (List.mem_append_left _ (List.mem_append_right _ (h))))))) (by decide +kernel))) (goodIn_sub (fun _ h => List.mem_cons_of_mem _ (List.mem_append_left _ (List.mem_append_left _ (List.mem_append_left _ (List.mem_append_right _ (h)))))) (by decide +kernel))) (goodIn_sub (fun _ h => List.mem_cons_of_mem _ (List.mem_append_left _ (List.mem_append_left _ (List.mem_append_right _ (h))))) (by decide +kernel))) (goodIn_sub (fun _ h => List.mem_cons_of_mem _ (List.mem_append_left _ (List.mem_append_right _ (h)))) (by decide +kernel))
set_option maxRecDepth 20000 in
theorem gX3_hasShadowsAsTold_X3_isTold_u68X1 : GoodIn wsX3_hasShadowsAsTold (va_wsU RX3 68 RX1 "ShadowBench$Job" ⟨"ShadowBench$Job", "isTold", "(I)Z"⟩ yX3_isTold wsX3_isTold) := goodIn_app (goodIn_c chX3_hasShadowsAsTold chX3_hasShadowsAsTold_in _ [(0, 1), (0, 2), (0, 3), (0, 4), (0, 5)] (by rfl) (by decide +kernel)) ggX3_hasShadowsAsTold_X3_isTold
set_option maxRecDepth 20000 in
theorem gX3_hasShadowsAsTold_X3_isTold : GoodIn wsX3_hasShadowsAsTold (wsV RX3 68 RX3 yX3_isTold wsX3_isTold) := goodIn_app (goodIn_c chX3_hasShadowsAsTold chX3_hasShadowsAsTold_in _ [(0, 1), (0, 4), (0, 9), (0, 5)] (by rfl) (by decide +kernel)) ggX3_hasShadowsAsTold_X3_isTold
set_option maxRecDepth 20000 in
theorem gX3_hasShadowsAsTold_X3_isTold_u68X4 : GoodIn wsX3_hasShadowsAsTold (va_wsU RX3 68 RX4 "ShadowBench$Job" ⟨"ShadowBench$Job", "isTold", "(I)Z"⟩ yX3_isTold wsX3_isTold) := goodIn_app (goodIn_c chX3_hasShadowsAsTold chX3_hasShadowsAsTold_in _ [(0, 1), (0, 2), (0, 10), (0, 4), (0, 5)] (by rfl) (by decide +kernel)) ggX3_hasShadowsAsTold_X3_isTold
set_option maxRecDepth 20000 in
theorem gX3_hasShadowsAsTold_X3_isTold_u68X5 : GoodIn wsX3_hasShadowsAsTold (va_wsU RX3 68 RX5 "ShadowBench$Job" ⟨"ShadowBench$Job", "isTold", "(I)Z"⟩ yX3_isTold wsX3_isTold) := goodIn_app (goodIn_c chX3_hasShadowsAsTold chX3_hasShadowsAsTold_in _ [(0, 1), (0, 2), (0, 11), (0, 4), (0, 5)] (by rfl) (by decide +kernel)) ggX3_hasShadowsAsTold_X3_isTold
set_option maxRecDepth 20000 in
theorem ggX3_hasShadowsAsTold_X0_lineCount : GoodIn wsX3_hasShadowsAsTold wsX0_lineCount := goodIn_ca (goodIn_c chX3_hasShadowsAsTold chX3_hasShadowsAsTold_in _ [(0, 16), (0, 17), (0, 18)] (by rfl) (by decide +kernel)) (goodIn_sub (fun _ h => List.mem_cons_of_mem _ (List.mem_append_right _ (h))) (by decide +kernel))
set_option maxRecDepth 20000 in
theorem gX3_hasShadowsAsTold_X0_lineCount : GoodIn wsX3_hasShadowsAsTold (wsV RX3 36 RX0 yX0_lineCount wsX0_lineCount) := goodIn_app (goodIn_c chX3_hasShadowsAsTold chX3_hasShadowsAsTold_in _ [(0, 12), (0, 13), (0, 14), (0, 15)] (by rfl) (by decide +kernel)) ggX3_hasShadowsAsTold_X0_lineCount
set_option maxRecDepth 20000 in
theorem ggX3_hasShadowsAsTold_X0_onesOfLine : GoodIn wsX3_hasShadowsAsTold wsX0_onesOfLine := goodIn_ca (goodIn_c chX3_hasShadowsAsTold chX3_hasShadowsAsTold_in _ [(0, 22), (0, 23), (1, 0), (1, 1), (1, 2), (1, 3), (1, 4), (1, 5), (1, 6)] (by rfl) (by decide +kernel)) (goodIn_sub (fun _ h => List.mem_cons_of_mem _ (List.mem_append_right _ (h))) (by decide +kernel))
set_option maxRecDepth 20000 in
theorem gX3_hasShadowsAsTold_X0_onesOfLine : GoodIn wsX3_hasShadowsAsTold (wsV RX3 40 RX0 yX0_onesOfLine wsX0_onesOfLine) := goodIn_app (goodIn_c chX3_hasShadowsAsTold chX3_hasShadowsAsTold_in _ [(0, 19), (0, 20), (0, 21), (0, 15)] (by rfl) (by decide +kernel)) ggX3_hasShadowsAsTold_X0_onesOfLine
set_option maxRecDepth 20000 in
theorem ggX3_hasShadowsAsTold_X3_sumOf : GoodIn wsX3_hasShadowsAsTold wsX3_sumOf := goodIn_ca (goodIn_ca (goodIn_ca (goodIn_ca (goodIn_c chX3_hasShadowsAsTold chX3_hasShadowsAsTold_in _ [(1, 11), (1, 12)] (by rfl) (by decide +kernel)) (goodIn_sub (fun _ h => List.mem_cons_of_mem _ (List.mem_append_left _ (List.mem_append_left _ (List.mem_append_left _ (List.mem_append_left _ (List.mem_append_right _ (h))))))) (by decide +kernel))) (goodIn_sub (fun _ h => List.mem_cons_of_mem _ (List.mem_append_left _ (List.mem_append_left _ (List.mem_append_left _ (List.mem_append_right _ (h)))))) (by decide +kernel))) (goodIn_sub (fun _ h => List.mem_cons_of_mem _ (List.mem_append_left _ (List.mem_append_left _ (List.mem_append_right _ (h))))) (by decide +kernel))) (goodIn_sub (fun _ h => List.mem_cons_of_mem _ (List.mem_append_left _ (List.mem_append_right _ (h)))) (by decide +kernel))
set_option maxRecDepth 20000 in
theorem gX3_hasShadowsAsTold_X3_sumOf_u57X1 : GoodIn wsX3_hasShadowsAsTold (va_wsU RX3 57 RX1 "ShadowBench$Job" ⟨"ShadowBench$Job", "sumOf", "(II)I"⟩ yX3_sumOf wsX3_sumOf) := goodIn_app (goodIn_c chX3_hasShadowsAsTold chX3_hasShadowsAsTold_in _ [(1, 7), (1, 8), (1, 9), (1, 10), (0, 5)] (by rfl) (by decide +kernel)) ggX3_hasShadowsAsTold_X3_sumOf
set_option maxRecDepth 20000 in
theorem gX3_hasShadowsAsTold_X3_sumOf : GoodIn wsX3_hasShadowsAsTold (wsV RX3 57 RX3 yX3_sumOf wsX3_sumOf) := goodIn_app (goodIn_c chX3_hasShadowsAsTold chX3_hasShadowsAsTold_in _ [(1, 7), (1, 10), (1, 14), (0, 5)] (by rfl) (by decide +kernel)) ggX3_hasShadowsAsTold_X3_sumOf
set_option maxRecDepth 20000 in
theorem gX3_hasShadowsAsTold_X3_sumOf_u57X4 : GoodIn wsX3_hasShadowsAsTold (va_wsU RX3 57 RX4 "ShadowBench$Job" ⟨"ShadowBench$Job", "sumOf", "(II)I"⟩ yX3_sumOf wsX3_sumOf) := goodIn_app (goodIn_c chX3_hasShadowsAsTold chX3_hasShadowsAsTold_in _ [(1, 7), (1, 8), (1, 15), (1, 10), (0, 5)] (by rfl) (by decide +kernel)) ggX3_hasShadowsAsTold_X3_sumOf
set_option maxRecDepth 20000 in
theorem gX3_hasShadowsAsTold_X3_sumOf_u57X5 : GoodIn wsX3_hasShadowsAsTold (va_wsU RX3 57 RX5 "ShadowBench$Job" ⟨"ShadowBench$Job", "sumOf", "(II)I"⟩ yX3_sumOf wsX3_sumOf) := goodIn_app (goodIn_c chX3_hasShadowsAsTold chX3_hasShadowsAsTold_in _ [(1, 7), (1, 8), (1, 16), (1, 10), (0, 5)] (by rfl) (by decide +kernel)) ggX3_hasShadowsAsTold_X3_sumOf
theorem dX3_hasShadowsAsTold_0 : decode cX3_hasShadowsAsTold 0 = .ok (.iconst 0, 1) := by decide +kernel
theorem dX3_hasShadowsAsTold_1 : decode cX3_hasShadowsAsTold 1 = .ok (.istore_n 3, 1) := by decide +kernel
theorem dX3_hasShadowsAsTold_2 : decode cX3_hasShadowsAsTold 2 = .ok (.iload_n 3, 1) := by decide +kernel
theorem dX3_hasShadowsAsTold_3 : decode cX3_hasShadowsAsTold 3 = .ok (.iconst 4, 1) := by decide +kernel
theorem dX3_hasShadowsAsTold_4 : decode cX3_hasShadowsAsTold 4 = .ok (.if_icmp .ge 62, 3) := by decide +kernel
theorem dX3_hasShadowsAsTold_7 : decode cX3_hasShadowsAsTold 7 = .ok (.iconst 0, 1) := by decide +kernel
theorem dX3_hasShadowsAsTold_8 : decode cX3_hasShadowsAsTold 8 = .ok (.istore 4, 2) := by decide +kernel
theorem dX3_hasShadowsAsTold_10 : decode cX3_hasShadowsAsTold 10 = .ok (.aload_n 0, 1) := by decide +kernel
theorem dX3_hasShadowsAsTold_11 : decode cX3_hasShadowsAsTold 11 = .ok (.iload_n 3, 1) := by decide +kernel
theorem dX3_hasShadowsAsTold_12 : decode cX3_hasShadowsAsTold 12 = .ok (.invokevirtual 68, 3) := by decide +kernel
theorem dX3_hasShadowsAsTold_15 : decode cX3_hasShadowsAsTold 15 = .ok (.ifCond .eq 45, 3) := by decide +kernel
theorem dX3_hasShadowsAsTold_18 : decode cX3_hasShadowsAsTold 18 = .ok (.iload 4, 2) := by decide +kernel
theorem dX3_hasShadowsAsTold_20 : decode cX3_hasShadowsAsTold 20 = .ok (.aload_n 0, 1) := by decide +kernel
theorem dX3_hasShadowsAsTold_21 : decode cX3_hasShadowsAsTold 21 = .ok (.getfield 28, 3) := by decide +kernel
theorem dX3_hasShadowsAsTold_24 : decode cX3_hasShadowsAsTold 24 = .ok (.iload_n 3, 1) := by decide +kernel
theorem dX3_hasShadowsAsTold_25 : decode cX3_hasShadowsAsTold 25 = .ok (.invokevirtual 36, 3) := by decide +kernel
theorem dX3_hasShadowsAsTold_28 : decode cX3_hasShadowsAsTold 28 = .ok (.if_icmp .ge 32, 3) := by decide +kernel
theorem dX3_hasShadowsAsTold_31 : decode cX3_hasShadowsAsTold 31 = .ok (.aload_n 0, 1) := by decide +kernel
theorem dX3_hasShadowsAsTold_32 : decode cX3_hasShadowsAsTold 32 = .ok (.getfield 28, 3) := by decide +kernel
theorem dX3_hasShadowsAsTold_35 : decode cX3_hasShadowsAsTold 35 = .ok (.iload_n 3, 1) := by decide +kernel
theorem dX3_hasShadowsAsTold_36 : decode cX3_hasShadowsAsTold 36 = .ok (.iload 4, 2) := by decide +kernel
theorem dX3_hasShadowsAsTold_38 : decode cX3_hasShadowsAsTold 38 = .ok (.lload_n 1, 1) := by decide +kernel
theorem dX3_hasShadowsAsTold_39 : decode cX3_hasShadowsAsTold 39 = .ok (.invokevirtual 40, 3) := by decide +kernel
theorem dX3_hasShadowsAsTold_42 : decode cX3_hasShadowsAsTold 42 = .ok (.aload_n 0, 1) := by decide +kernel
theorem dX3_hasShadowsAsTold_43 : decode cX3_hasShadowsAsTold 43 = .ok (.iload_n 3, 1) := by decide +kernel
theorem dX3_hasShadowsAsTold_44 : decode cX3_hasShadowsAsTold 44 = .ok (.iload 4, 2) := by decide +kernel
theorem dX3_hasShadowsAsTold_46 : decode cX3_hasShadowsAsTold 46 = .ok (.invokevirtual 57, 3) := by decide +kernel
theorem dX3_hasShadowsAsTold_49 : decode cX3_hasShadowsAsTold 49 = .ok (.if_icmp .eq 5, 3) := by decide +kernel
theorem dX3_hasShadowsAsTold_52 : decode cX3_hasShadowsAsTold 52 = .ok (.iconst 0, 1) := by decide +kernel
theorem dX3_hasShadowsAsTold_53 : decode cX3_hasShadowsAsTold 53 = .ok (.ireturn, 1) := by decide +kernel
theorem dX3_hasShadowsAsTold_54 : decode cX3_hasShadowsAsTold 54 = .ok (.iinc 4 1, 3) := by decide +kernel
theorem dX3_hasShadowsAsTold_57 : decode cX3_hasShadowsAsTold 57 = .ok (.goto (-47), 3) := by decide +kernel
theorem dX3_hasShadowsAsTold_60 : decode cX3_hasShadowsAsTold 60 = .ok (.iinc 3 1, 3) := by decide +kernel
theorem dX3_hasShadowsAsTold_63 : decode cX3_hasShadowsAsTold 63 = .ok (.goto (-61), 3) := by decide +kernel
theorem dX3_hasShadowsAsTold_66 : decode cX3_hasShadowsAsTold 66 = .ok (.iconst 1, 1) := by decide +kernel
theorem dX3_hasShadowsAsTold_67 : decode cX3_hasShadowsAsTold 67 = .ok (.ireturn, 1) := by decide +kernel
theorem dX3_isAsKindAsks_0 : decode cX3_isAsKindAsks 0 = .ok (.iconst 1, 1) := by decide +kernel
theorem dX3_isAsKindAsks_1 : decode cX3_isAsKindAsks 1 = .ok (.ireturn, 1) := by decide +kernel
def chX3_sumOfWay : List (List Cond) := [[.fieldLink RX3 28 "ShadowBench$Job" "board" "LShadowBench$Board;", .methodLink RX3 36 yX0_lineCount, .instanceMethod yX0_lineCount, .selects RX0 yX0_lineCount yX0_lineCount, .initialized RX0, .code yX0_lineCount cX0_lineCount 2 (some .int), .fieldLink RX0 17 "ShadowBench$Board" "high" "I", .fieldLink RX0 13 "ShadowBench$Board" "wide" "I", .methodLink RX3 57 ⟨"ShadowBench$Job", "sumOf", "(II)I"⟩, .sameMethod "ShadowBench$Job" "ShadowBench$Job" "sumOf" "(II)I", .selects RX1 ⟨"ShadowBench$Job", "sumOf", "(II)I"⟩ yX3_sumOf, .instanceMethod yX3_sumOf, .initialized RX3, .code yX3_sumOf cX3_sumOf 4 (some .int), .fieldLink RX3 11 "ShadowBench$Job" "sums" "[I", .methodLink RX3 57 yX3_sumOf, .selects RX3 yX3_sumOf yX3_sumOf, .selects RX4 ⟨"ShadowBench$Job", "sumOf", "(II)I"⟩ yX3_sumOf, .selects RX5 ⟨"ShadowBench$Job", "sumOf", "(II)I"⟩ yX3_sumOf], wsX10, wsX30, wsX40, wsX50, wsX00]
set_option maxRecDepth 20000 in
theorem chX3_sumOfWay_in : ∀ c ∈ chX3_sumOfWay, ∀ w ∈ c, w ∈ wsX3_sumOfWay := (all_c (P := fun c => ∀ w ∈ c, w ∈ wsX3_sumOfWay) (fun w h => List.mem_cons_of_mem _ (List.mem_append_left _ (List.mem_append_left _ (List.mem_append_left _ (List.mem_append_left _ (List.mem_append_left _ (h))))))) (all_c (P := fun c => ∀ w ∈ c, w ∈ wsX3_sumOfWay) (fun w h => List.mem_cons_of_mem _ (List.mem_append_left _ (List.mem_append_left _ (List.mem_append_left _ (List.mem_append_left _ (List.mem_append_right _ (h))))))) (all_c (P := fun c => ∀ w ∈ c, w ∈ wsX3_sumOfWay) (fun w h => List.mem_cons_of_mem _ (List.mem_append_left _ (List.mem_append_left _ (List.mem_append_left _ (List.mem_append_right _ (h)))))) (all_c (P := fun c => ∀ w ∈ c, w ∈ wsX3_sumOfWay) (fun w h => List.mem_cons_of_mem _ (List.mem_append_left _ (List.mem_append_left _ (List.mem_append_right _ (h))))) (all_c (P := fun c => ∀ w ∈ c, w ∈ wsX3_sumOfWay) (fun w h => List.mem_cons_of_mem _ (List.mem_append_left _ (List.mem_append_right _ (h)))) (all_c (P := fun c => ∀ w ∈ c, w ∈ wsX3_sumOfWay) (fun w h => List.mem_cons_of_mem _ (List.mem_append_right _ (h))) (fun _ h => nomatch h)))))))
set_option maxRecDepth 20000 in
theorem ggX3_sumOfWay_X0_lineCount : GoodIn wsX3_sumOfWay wsX0_lineCount := goodIn_ca (goodIn_c chX3_sumOfWay chX3_sumOfWay_in _ [(0, 5), (0, 6), (0, 7)] (by rfl) (by decide +kernel)) (goodIn_sub (fun _ h => List.mem_cons_of_mem _ (List.mem_append_right _ (h))) (by decide +kernel))
set_option maxRecDepth 20000 in
theorem gX3_sumOfWay_X0_lineCount : GoodIn wsX3_sumOfWay (wsV RX3 36 RX0 yX0_lineCount wsX0_lineCount) := goodIn_app (goodIn_c chX3_sumOfWay chX3_sumOfWay_in _ [(0, 1), (0, 2), (0, 3), (0, 4)] (by rfl) (by decide +kernel)) ggX3_sumOfWay_X0_lineCount
set_option maxRecDepth 20000 in
theorem ggX3_sumOfWay_X3_sumOf : GoodIn wsX3_sumOfWay wsX3_sumOf := goodIn_ca (goodIn_ca (goodIn_ca (goodIn_ca (goodIn_c chX3_sumOfWay chX3_sumOfWay_in _ [(0, 13), (0, 14)] (by rfl) (by decide +kernel)) (goodIn_sub (fun _ h => List.mem_cons_of_mem _ (List.mem_append_left _ (List.mem_append_left _ (List.mem_append_left _ (List.mem_append_left _ (List.mem_append_right _ (h))))))) (by decide +kernel))) (goodIn_sub (fun _ h => List.mem_cons_of_mem _ (List.mem_append_left _ (List.mem_append_left _ (List.mem_append_left _ (List.mem_append_right _ (h)))))) (by decide +kernel))) (goodIn_sub (fun _ h => List.mem_cons_of_mem _ (List.mem_append_left _ (List.mem_append_left _ (List.mem_append_right _ (h))))) (by decide +kernel))) (goodIn_sub (fun _ h => List.mem_cons_of_mem _ (List.mem_append_left _ (List.mem_append_right _ (h)))) (by decide +kernel))
set_option maxRecDepth 20000 in
theorem gX3_sumOfWay_X3_sumOf_u57X1 : GoodIn wsX3_sumOfWay (va_wsU RX3 57 RX1 "ShadowBench$Job" ⟨"ShadowBench$Job", "sumOf", "(II)I"⟩ yX3_sumOf wsX3_sumOf) := goodIn_app (goodIn_c chX3_sumOfWay chX3_sumOfWay_in _ [(0, 8), (0, 9), (0, 10), (0, 11), (0, 12)] (by rfl) (by decide +kernel)) ggX3_sumOfWay_X3_sumOf
set_option maxRecDepth 20000 in
theorem gX3_sumOfWay_X3_sumOf : GoodIn wsX3_sumOfWay (wsV RX3 57 RX3 yX3_sumOf wsX3_sumOf) := goodIn_app (goodIn_c chX3_sumOfWay chX3_sumOfWay_in _ [(0, 8), (0, 11), (0, 16), (0, 12)] (by rfl) (by decide +kernel)) ggX3_sumOfWay_X3_sumOf
set_option maxRecDepth 20000 in
theorem gX3_sumOfWay_X3_sumOf_u57X4 : GoodIn wsX3_sumOfWay (va_wsU RX3 57 RX4 "ShadowBench$Job" ⟨"ShadowBench$Job", "sumOf", "(II)I"⟩ yX3_sumOf wsX3_sumOf) := goodIn_app (goodIn_c chX3_sumOfWay chX3_sumOfWay_in _ [(0, 8), (0, 9), (0, 17), (0, 11), (0, 12)] (by rfl) (by decide +kernel)) ggX3_sumOfWay_X3_sumOf
set_option maxRecDepth 20000 in
theorem gX3_sumOfWay_X3_sumOf_u57X5 : GoodIn wsX3_sumOfWay (va_wsU RX3 57 RX5 "ShadowBench$Job" ⟨"ShadowBench$Job", "sumOf", "(II)I"⟩ yX3_sumOf wsX3_sumOf) := goodIn_app (goodIn_c chX3_sumOfWay chX3_sumOfWay_in _ [(0, 8), (0, 9), (0, 18), (0, 11), (0, 12)] (by rfl) (by decide +kernel)) ggX3_sumOfWay_X3_sumOf
theorem dX3_sumOfWay_0 : decode cX3_sumOfWay 0 = .ok (.iconst 0, 1) := by decide +kernel
theorem dX3_sumOfWay_1 : decode cX3_sumOfWay 1 = .ok (.istore_n 2, 1) := by decide +kernel
theorem dX3_sumOfWay_2 : decode cX3_sumOfWay 2 = .ok (.iconst 0, 1) := by decide +kernel
theorem dX3_sumOfWay_3 : decode cX3_sumOfWay 3 = .ok (.istore_n 3, 1) := by decide +kernel
theorem dX3_sumOfWay_4 : decode cX3_sumOfWay 4 = .ok (.iload_n 3, 1) := by decide +kernel
theorem dX3_sumOfWay_5 : decode cX3_sumOfWay 5 = .ok (.aload_n 0, 1) := by decide +kernel
theorem dX3_sumOfWay_6 : decode cX3_sumOfWay 6 = .ok (.getfield 28, 3) := by decide +kernel
theorem dX3_sumOfWay_9 : decode cX3_sumOfWay 9 = .ok (.iload_n 1, 1) := by decide +kernel
theorem dX3_sumOfWay_10 : decode cX3_sumOfWay 10 = .ok (.invokevirtual 36, 3) := by decide +kernel
theorem dX3_sumOfWay_13 : decode cX3_sumOfWay 13 = .ok (.if_icmp .ge 18, 3) := by decide +kernel
theorem dX3_sumOfWay_16 : decode cX3_sumOfWay 16 = .ok (.iload_n 2, 1) := by decide +kernel
theorem dX3_sumOfWay_17 : decode cX3_sumOfWay 17 = .ok (.aload_n 0, 1) := by decide +kernel
theorem dX3_sumOfWay_18 : decode cX3_sumOfWay 18 = .ok (.iload_n 1, 1) := by decide +kernel
