theorem dX10_rank_13 : decode cX10_rank 13 = .ok (.aload_n 0, 1) := by decide +kernel
theorem dX10_rank_14 : decode cX10_rank 14 = .ok (.getfield 13, 3) := by decide +kernel
theorem dX10_rank_17 : decode cX10_rank 17 = .ok (.iload_n 1, 1) := by decide +kernel
theorem dX10_rank_18 : decode cX10_rank 18 = .ok (.iaload, 1) := by decide +kernel
theorem dX10_rank_19 : decode cX10_rank 19 = .ok (.aload_n 0, 1) := by decide +kernel
theorem dX10_rank_20 : decode cX10_rank 20 = .ok (.getfield 16, 3) := by decide +kernel
theorem dX10_rank_23 : decode cX10_rank 23 = .ok (.iload_n 1, 1) := by decide +kernel
theorem dX10_rank_24 : decode cX10_rank 24 = .ok (.iaload, 1) := by decide +kernel
theorem dX10_rank_25 : decode cX10_rank 25 = .ok (.lload_n 2, 1) := by decide +kernel
theorem dX10_rank_26 : decode cX10_rank 26 = .ok (.invokestatic 126, 3) := by decide +kernel
theorem dX10_rank_29 : decode cX10_rank 29 = .ok (.ifCond .ne 5, 3) := by decide +kernel
theorem dX10_rank_32 : decode cX10_rank 32 = .ok (.iconst (-1), 1) := by decide +kernel
theorem dX10_rank_33 : decode cX10_rank 33 = .ok (.ireturn, 1) := by decide +kernel
theorem dX10_rank_34 : decode cX10_rank 34 = .ok (.aload_n 0, 1) := by decide +kernel
theorem dX10_rank_35 : decode cX10_rank 35 = .ok (.iload_n 1, 1) := by decide +kernel
theorem dX10_rank_36 : decode cX10_rank 36 = .ok (.lload_n 2, 1) := by decide +kernel
theorem dX10_rank_37 : decode cX10_rank 37 = .ok (.invokevirtual 154, 3) := by decide +kernel
theorem dX10_rank_40 : decode cX10_rank 40 = .ok (.ifCond .ne 6, 3) := by decide +kernel
theorem dX10_rank_43 : decode cX10_rank 43 = .ok (.bipush (-2), 2) := by decide +kernel
theorem dX10_rank_45 : decode cX10_rank 45 = .ok (.ireturn, 1) := by decide +kernel
theorem dX10_rank_46 : decode cX10_rank 46 = .ok (.aload_n 0, 1) := by decide +kernel
theorem dX10_rank_47 : decode cX10_rank 47 = .ok (.invokevirtual 179, 3) := by decide +kernel
theorem dX10_rank_50 : decode cX10_rank 50 = .ok (.iconst 0, 1) := by decide +kernel
theorem dX10_rank_51 : decode cX10_rank 51 = .ok (.istore 4, 2) := by decide +kernel
theorem dX10_rank_53 : decode cX10_rank 53 = .ok (.aload_n 0, 1) := by decide +kernel
theorem dX10_rank_54 : decode cX10_rank 54 = .ok (.iload_n 1, 1) := by decide +kernel
theorem dX10_rank_55 : decode cX10_rank 55 = .ok (.invokevirtual 182, 3) := by decide +kernel
theorem dX10_rank_58 : decode cX10_rank 58 = .ok (.ifCond .eq 21, 3) := by decide +kernel
theorem dX10_rank_61 : decode cX10_rank 61 = .ok (.aload_n 0, 1) := by decide +kernel
theorem dX10_rank_62 : decode cX10_rank 62 = .ok (.getfield 175, 3) := by decide +kernel
theorem dX10_rank_65 : decode cX10_rank 65 = .ok (.lload_n 2, 1) := by decide +kernel
theorem dX10_rank_66 : decode cX10_rank 66 = .ok (.lcmp, 1) := by decide +kernel
theorem dX10_rank_67 : decode cX10_rank 67 = .ok (.ifCond .ne 6, 3) := by decide +kernel
theorem dX10_rank_70 : decode cX10_rank 70 = .ok (.iload 4, 2) := by decide +kernel
theorem dX10_rank_72 : decode cX10_rank 72 = .ok (.ireturn, 1) := by decide +kernel
theorem dX10_rank_73 : decode cX10_rank 73 = .ok (.iinc 4 1, 3) := by decide +kernel
theorem dX10_rank_76 : decode cX10_rank 76 = .ok (.goto (-23), 3) := by decide +kernel
theorem dX10_rank_79 : decode cX10_rank 79 = .ok (.bipush (-5), 2) := by decide +kernel
theorem dX10_rank_81 : decode cX10_rank 81 = .ok (.ireturn, 1) := by decide +kernel
def chX10_sure : List (List Cond) := [wsX10_sure_r1, wsX10_sure_r2, wsX10_sure_r3, wsX100]
set_option maxRecDepth 20000 in
theorem chX10_sure_in : ∀ c ∈ chX10_sure, ∀ w ∈ c, w ∈ wsX10_sure := (all_c (P := fun c => ∀ w ∈ c, w ∈ wsX10_sure) (fun w h => List.mem_cons_of_mem _ (List.mem_append_left _ (List.mem_append_left _ (h)))) (all_c (P := fun c => ∀ w ∈ c, w ∈ wsX10_sure) (fun w h => List.mem_cons_of_mem _ (List.mem_append_left _ (List.mem_append_right _ (List.mem_append_left _ (h))))) (all_c (P := fun c => ∀ w ∈ c, w ∈ wsX10_sure) (fun w h => List.mem_cons_of_mem _ (List.mem_append_left _ (List.mem_append_right _ (List.mem_append_right _ (h))))) (all_c (P := fun c => ∀ w ∈ c, w ∈ wsX10_sure) (fun w h => List.mem_cons_of_mem _ (List.mem_append_right _ (h))) (fun _ h => nomatch h)))))
set_option maxRecDepth 20000 in
theorem ggX10_sure_X10_isSquare : GoodIn wsX10_sure wsX10_isSquare := goodIn_ca (goodIn_c chX10_sure chX10_sure_in _ [(0, 7), (0, 8), (0, 9), (0, 10), (0, 11), (0, 12), (0, 6), (0, 13), (0, 14)] (by rfl) (by decide +kernel)) (goodIn_sub (fun _ h => List.mem_cons_of_mem _ (List.mem_append_right _ (h))) (by decide +kernel))
set_option maxRecDepth 20000 in
theorem gX10_sure_X10_isSquare : GoodIn wsX10_sure (wsV RX10 136 RX10 yX10_isSquare wsX10_isSquare) := goodIn_app (goodIn_c chX10_sure chX10_sure_in _ [(0, 3), (0, 4), (0, 5), (0, 6)] (by rfl) (by decide +kernel)) ggX10_sure_X10_isSquare
set_option maxRecDepth 20000 in
theorem ggX10_sure_X10_begin : GoodIn wsX10_sure wsX10_begin := goodIn_ca (goodIn_c chX10_sure chX10_sure_in _ [(0, 18), (0, 19), (0, 20), (0, 21), (0, 2)] (by rfl) (by decide +kernel)) (goodIn_sub (fun _ h => List.mem_cons_of_mem _ (List.mem_append_right _ (h))) (by decide +kernel))
set_option maxRecDepth 20000 in
theorem gX10_sure_X10_begin : GoodIn wsX10_sure (wsV RX10 179 RX10 yX10_begin wsX10_begin) := goodIn_app (goodIn_c chX10_sure chX10_sure_in _ [(0, 15), (0, 16), (0, 17), (0, 6)] (by rfl) (by decide +kernel)) ggX10_sure_X10_begin
set_option maxRecDepth 20000 in
theorem ggX10_sure_X10_isNext : GoodIn wsX10_sure wsX10_isNext := goodIn_ca (goodIn_c chX10_sure chX10_sure_in _ [(1, 1), (0, 19), (0, 20), (0, 8), (0, 21), (1, 2), (0, 2), (0, 9), (0, 1), (1, 3), (1, 4), (1, 5), (0, 6), (1, 6), (1, 7), (1, 8), (1, 9), (1, 10), (1, 11), (1, 12), (1, 13), (1, 14), (1, 15), (1, 16), (1, 17), (1, 18), (1, 19), (1, 20), (1, 21), (1, 22), (1, 23), (2, 0), (2, 1), (2, 2), (2, 3), (2, 4), (2, 5), (2, 6), (2, 7), (2, 8), (2, 9), (2, 10), (2, 11), (2, 12), (2, 13), (2, 14), (2, 15), (2, 16), (2, 17), (2, 18)] (by rfl) (by decide +kernel)) (goodIn_sub (fun _ h => List.mem_cons_of_mem _ (List.mem_append_right _ (h))) (by decide +kernel))
set_option maxRecDepth 20000 in
theorem gX10_sure_X10_isNext : GoodIn wsX10_sure (wsV RX10 182 RX10 yX10_isNext wsX10_isNext) := goodIn_app (goodIn_c chX10_sure chX10_sure_in _ [(0, 22), (0, 23), (1, 0), (0, 6)] (by rfl) (by decide +kernel)) ggX10_sure_X10_isNext
set_option maxRecDepth 20000 in
theorem ggX10_sure_X10_one : GoodIn wsX10_sure wsX10_one := goodIn_r _ [45] (by decide +kernel) (by decide +kernel)
set_option maxRecDepth 20000 in
theorem gX10_sure_X10_one : GoodIn wsX10_sure (va_wsS RX10 104 yX10_one wsX10_one) := goodIn_app (goodIn_c chX10_sure chX10_sure_in _ [(1, 18), (1, 19), (0, 6)] (by rfl) (by decide +kernel)) ggX10_sure_X10_one
theorem dX10_sure_0 : decode cX10_sure 0 = .ok (.aload_n 0, 1) := by decide +kernel
theorem dX10_sure_1 : decode cX10_sure 1 = .ok (.iconst 0, 1) := by decide +kernel
theorem dX10_sure_2 : decode cX10_sure 2 = .ok (.putfield 79, 3) := by decide +kernel
theorem dX10_sure_5 : decode cX10_sure 5 = .ok (.aload_n 0, 1) := by decide +kernel
theorem dX10_sure_6 : decode cX10_sure 6 = .ok (.iload_n 1, 1) := by decide +kernel
theorem dX10_sure_7 : decode cX10_sure 7 = .ok (.iload_n 2, 1) := by decide +kernel
theorem dX10_sure_8 : decode cX10_sure 8 = .ok (.invokevirtual 136, 3) := by decide +kernel
theorem dX10_sure_11 : decode cX10_sure 11 = .ok (.ifCond .ne 5, 3) := by decide +kernel
theorem dX10_sure_14 : decode cX10_sure 14 = .ok (.iconst (-1), 1) := by decide +kernel
theorem dX10_sure_15 : decode cX10_sure 15 = .ok (.ireturn, 1) := by decide +kernel
theorem dX10_sure_16 : decode cX10_sure 16 = .ok (.aload_n 0, 1) := by decide +kernel
theorem dX10_sure_17 : decode cX10_sure 17 = .ok (.invokevirtual 179, 3) := by decide +kernel
theorem dX10_sure_20 : decode cX10_sure 20 = .ok (.iconst 0, 1) := by decide +kernel
theorem dX10_sure_21 : decode cX10_sure 21 = .ok (.istore_n 3, 1) := by decide +kernel
theorem dX10_sure_22 : decode cX10_sure 22 = .ok (.iconst 0, 1) := by decide +kernel
theorem dX10_sure_23 : decode cX10_sure 23 = .ok (.istore 4, 2) := by decide +kernel
theorem dX10_sure_25 : decode cX10_sure 25 = .ok (.aload_n 0, 1) := by decide +kernel
theorem dX10_sure_26 : decode cX10_sure 26 = .ok (.iload_n 1, 1) := by decide +kernel
theorem dX10_sure_27 : decode cX10_sure 27 = .ok (.invokevirtual 182, 3) := by decide +kernel
theorem dX10_sure_30 : decode cX10_sure 30 = .ok (.ifCond .eq 22, 3) := by decide +kernel
theorem dX10_sure_33 : decode cX10_sure 33 = .ok (.iinc 3 1, 3) := by decide +kernel
theorem dX10_sure_36 : decode cX10_sure 36 = .ok (.iload 4, 2) := by decide +kernel
theorem dX10_sure_38 : decode cX10_sure 38 = .ok (.aload_n 0, 1) := by decide +kernel
theorem dX10_sure_39 : decode cX10_sure 39 = .ok (.getfield 175, 3) := by decide +kernel
theorem dX10_sure_42 : decode cX10_sure 42 = .ok (.iload_n 2, 1) := by decide +kernel
theorem dX10_sure_43 : decode cX10_sure 43 = .ok (.invokestatic 104, 3) := by decide +kernel
theorem dX10_sure_46 : decode cX10_sure 46 = .ok (.iadd, 1) := by decide +kernel
theorem dX10_sure_47 : decode cX10_sure 47 = .ok (.istore 4, 2) := by decide +kernel
theorem dX10_sure_49 : decode cX10_sure 49 = .ok (.goto (-24), 3) := by decide +kernel
theorem dX10_sure_52 : decode cX10_sure 52 = .ok (.aload_n 0, 1) := by decide +kernel
theorem dX10_sure_53 : decode cX10_sure 53 = .ok (.getfield 163, 3) := by decide +kernel
theorem dX10_sure_56 : decode cX10_sure 56 = .ok (.ifCond .eq 8, 3) := by decide +kernel
theorem dX10_sure_59 : decode cX10_sure 59 = .ok (.bipush (-5), 2) := by decide +kernel
theorem dX10_sure_61 : decode cX10_sure 61 = .ok (.goto 32, 3) := by decide +kernel
theorem dX10_sure_64 : decode cX10_sure 64 = .ok (.iload_n 3, 1) := by decide +kernel
theorem dX10_sure_65 : decode cX10_sure 65 = .ok (.ifCond .ne 8, 3) := by decide +kernel
theorem dX10_sure_68 : decode cX10_sure 68 = .ok (.bipush (-2), 2) := by decide +kernel
theorem dX10_sure_70 : decode cX10_sure 70 = .ok (.goto 23, 3) := by decide +kernel
theorem dX10_sure_73 : decode cX10_sure 73 = .ok (.iload 4, 2) := by decide +kernel
theorem dX10_sure_75 : decode cX10_sure 75 = .ok (.ifCond .ne 7, 3) := by decide +kernel
theorem dX10_sure_78 : decode cX10_sure 78 = .ok (.iconst 0, 1) := by decide +kernel
theorem dX10_sure_79 : decode cX10_sure 79 = .ok (.goto 14, 3) := by decide +kernel
theorem dX10_sure_82 : decode cX10_sure 82 = .ok (.iload 4, 2) := by decide +kernel
theorem dX10_sure_84 : decode cX10_sure 84 = .ok (.iload_n 3, 1) := by decide +kernel
theorem dX10_sure_85 : decode cX10_sure 85 = .ok (.if_icmp .ne 7, 3) := by decide +kernel
theorem dX10_sure_88 : decode cX10_sure 88 = .ok (.iconst 1, 1) := by decide +kernel
theorem dX10_sure_89 : decode cX10_sure 89 = .ok (.goto 4, 3) := by decide +kernel
theorem dX10_sure_92 : decode cX10_sure 92 = .ok (.iconst 2, 1) := by decide +kernel
theorem dX10_sure_93 : decode cX10_sure 93 = .ok (.ireturn, 1) := by decide +kernel
def chX10_clash : List (List Cond) := [[.fieldLink RX10 79 "ShadowBenchModel" "thrown" "I", .fieldLink RX10 13 "ShadowBenchModel" "wide" "[I", .fieldLink RX10 16 "ShadowBenchModel" "high" "[I", .fieldLink RX10 19 "ShadowBenchModel" "sums" "[I", .fieldLink RX10 38 "ShadowBenchModel" "columns" "[I", .methodLink RX10 96 yX10_isJob, .instanceMethod yX10_isJob, .selects RX10 yX10_isJob yX10_isJob, .initialized RX10, .code yX10_isJob cX10_isJob 2 (some .boolean), .fieldLink RX10 93 "ShadowBenchModel" "jobs" "I"], wsX100]
set_option maxRecDepth 20000 in
theorem chX10_clash_in : ∀ c ∈ chX10_clash, ∀ w ∈ c, w ∈ wsX10_clash := (all_c (P := fun c => ∀ w ∈ c, w ∈ wsX10_clash) (fun w h => List.mem_cons_of_mem _ (List.mem_append_left _ (h))) (all_c (P := fun c => ∀ w ∈ c, w ∈ wsX10_clash) (fun w h => List.mem_cons_of_mem _ (List.mem_append_right _ (h))) (fun _ h => nomatch h)))
set_option maxRecDepth 20000 in
theorem ggX10_clash_X10_isJob : GoodIn wsX10_clash wsX10_isJob := goodIn_ca (goodIn_c chX10_clash chX10_clash_in _ [(0, 9), (0, 10)] (by rfl) (by decide +kernel)) (goodIn_sub (fun _ h => List.mem_cons_of_mem _ (List.mem_append_right _ (h))) (by decide +kernel))
set_option maxRecDepth 20000 in
theorem gX10_clash_X10_isJob : GoodIn wsX10_clash (wsV RX10 96 RX10 yX10_isJob wsX10_isJob) := goodIn_app (goodIn_c chX10_clash chX10_clash_in _ [(0, 5), (0, 6), (0, 7), (0, 8)] (by rfl) (by decide +kernel)) ggX10_clash_X10_isJob
theorem dX10_clash_0 : decode cX10_clash 0 = .ok (.aload_n 0, 1) := by decide +kernel
theorem dX10_clash_1 : decode cX10_clash 1 = .ok (.iconst 0, 1) := by decide +kernel
theorem dX10_clash_2 : decode cX10_clash 2 = .ok (.putfield 79, 3) := by decide +kernel
theorem dX10_clash_5 : decode cX10_clash 5 = .ok (.aload_n 0, 1) := by decide +kernel
theorem dX10_clash_6 : decode cX10_clash 6 = .ok (.iload_n 1, 1) := by decide +kernel
theorem dX10_clash_7 : decode cX10_clash 7 = .ok (.invokevirtual 96, 3) := by decide +kernel
theorem dX10_clash_10 : decode cX10_clash 10 = .ok (.ifCond .ne 5, 3) := by decide +kernel
theorem dX10_clash_13 : decode cX10_clash 13 = .ok (.iconst (-1), 1) := by decide +kernel
theorem dX10_clash_14 : decode cX10_clash 14 = .ok (.ireturn, 1) := by decide +kernel
theorem dX10_clash_15 : decode cX10_clash 15 = .ok (.aload_n 0, 1) := by decide +kernel
theorem dX10_clash_16 : decode cX10_clash 16 = .ok (.getfield 13, 3) := by decide +kernel
theorem dX10_clash_19 : decode cX10_clash 19 = .ok (.iload_n 1, 1) := by decide +kernel
theorem dX10_clash_20 : decode cX10_clash 20 = .ok (.iaload, 1) := by decide +kernel
theorem dX10_clash_21 : decode cX10_clash 21 = .ok (.istore_n 2, 1) := by decide +kernel
theorem dX10_clash_22 : decode cX10_clash 22 = .ok (.iconst 0, 1) := by decide +kernel
theorem dX10_clash_23 : decode cX10_clash 23 = .ok (.istore_n 3, 1) := by decide +kernel
theorem dX10_clash_24 : decode cX10_clash 24 = .ok (.iconst 0, 1) := by decide +kernel
theorem dX10_clash_25 : decode cX10_clash 25 = .ok (.istore 4, 2) := by decide +kernel
theorem dX10_clash_27 : decode cX10_clash 27 = .ok (.iconst 0, 1) := by decide +kernel
theorem dX10_clash_28 : decode cX10_clash 28 = .ok (.istore 5, 2) := by decide +kernel
theorem dX10_clash_30 : decode cX10_clash 30 = .ok (.iload 5, 2) := by decide +kernel
theorem dX10_clash_32 : decode cX10_clash 32 = .ok (.aload_n 0, 1) := by decide +kernel
theorem dX10_clash_33 : decode cX10_clash 33 = .ok (.getfield 16, 3) := by decide +kernel
theorem dX10_clash_36 : decode cX10_clash 36 = .ok (.iload_n 1, 1) := by decide +kernel
theorem dX10_clash_37 : decode cX10_clash 37 = .ok (.iaload, 1) := by decide +kernel
theorem dX10_clash_38 : decode cX10_clash 38 = .ok (.if_icmp .ge 24, 3) := by decide +kernel
theorem dX10_clash_41 : decode cX10_clash 41 = .ok (.iload_n 3, 1) := by decide +kernel
theorem dX10_clash_42 : decode cX10_clash 42 = .ok (.aload_n 0, 1) := by decide +kernel
theorem dX10_clash_43 : decode cX10_clash 43 = .ok (.getfield 19, 3) := by decide +kernel
theorem dX10_clash_46 : decode cX10_clash 46 = .ok (.bipush 44, 2) := by decide +kernel
theorem dX10_clash_48 : decode cX10_clash 48 = .ok (.iload_n 1, 1) := by decide +kernel
theorem dX10_clash_49 : decode cX10_clash 49 = .ok (.imul, 1) := by decide +kernel
theorem dX10_clash_50 : decode cX10_clash 50 = .ok (.iload 5, 2) := by decide +kernel
theorem dX10_clash_52 : decode cX10_clash 52 = .ok (.iadd, 1) := by decide +kernel
theorem dX10_clash_53 : decode cX10_clash 53 = .ok (.iaload, 1) := by decide +kernel
theorem dX10_clash_54 : decode cX10_clash 54 = .ok (.iadd, 1) := by decide +kernel
theorem dX10_clash_55 : decode cX10_clash 55 = .ok (.istore_n 3, 1) := by decide +kernel
theorem dX10_clash_56 : decode cX10_clash 56 = .ok (.iinc 5 1, 3) := by decide +kernel
theorem dX10_clash_59 : decode cX10_clash 59 = .ok (.goto (-29), 3) := by decide +kernel
theorem dX10_clash_62 : decode cX10_clash 62 = .ok (.iconst 0, 1) := by decide +kernel
theorem dX10_clash_63 : decode cX10_clash 63 = .ok (.istore 5, 2) := by decide +kernel
theorem dX10_clash_65 : decode cX10_clash 65 = .ok (.iload 5, 2) := by decide +kernel
theorem dX10_clash_67 : decode cX10_clash 67 = .ok (.iload_n 2, 1) := by decide +kernel
theorem dX10_clash_68 : decode cX10_clash 68 = .ok (.if_icmp .ge 43, 3) := by decide +kernel
theorem dX10_clash_71 : decode cX10_clash 71 = .ok (.aload_n 0, 1) := by decide +kernel
theorem dX10_clash_72 : decode cX10_clash 72 = .ok (.getfield 38, 3) := by decide +kernel
theorem dX10_clash_75 : decode cX10_clash 75 = .ok (.iload 5, 2) := by decide +kernel
theorem dX10_clash_77 : decode cX10_clash 77 = .ok (.aload_n 0, 1) := by decide +kernel
theorem dX10_clash_78 : decode cX10_clash 78 = .ok (.getfield 19, 3) := by decide +kernel
theorem dX10_clash_81 : decode cX10_clash 81 = .ok (.bipush 44, 2) := by decide +kernel
theorem dX10_clash_83 : decode cX10_clash 83 = .ok (.iload_n 1, 1) := by decide +kernel
theorem dX10_clash_84 : decode cX10_clash 84 = .ok (.imul, 1) := by decide +kernel
theorem dX10_clash_85 : decode cX10_clash 85 = .ok (.bipush 11, 2) := by decide +kernel
theorem dX10_clash_87 : decode cX10_clash 87 = .ok (.iadd, 1) := by decide +kernel
theorem dX10_clash_88 : decode cX10_clash 88 = .ok (.iload 5, 2) := by decide +kernel
theorem dX10_clash_90 : decode cX10_clash 90 = .ok (.iadd, 1) := by decide +kernel
theorem dX10_clash_91 : decode cX10_clash 91 = .ok (.iaload, 1) := by decide +kernel
theorem dX10_clash_92 : decode cX10_clash 92 = .ok (.iastore, 1) := by decide +kernel
theorem dX10_clash_93 : decode cX10_clash 93 = .ok (.iload 4, 2) := by decide +kernel
theorem dX10_clash_95 : decode cX10_clash 95 = .ok (.aload_n 0, 1) := by decide +kernel
theorem dX10_clash_96 : decode cX10_clash 96 = .ok (.getfield 38, 3) := by decide +kernel
theorem dX10_clash_99 : decode cX10_clash 99 = .ok (.iload 5, 2) := by decide +kernel
theorem dX10_clash_101 : decode cX10_clash 101 = .ok (.iaload, 1) := by decide +kernel
theorem dX10_clash_102 : decode cX10_clash 102 = .ok (.iadd, 1) := by decide +kernel
theorem dX10_clash_103 : decode cX10_clash 103 = .ok (.istore 4, 2) := by decide +kernel
theorem dX10_clash_105 : decode cX10_clash 105 = .ok (.iinc 5 1, 3) := by decide +kernel
theorem dX10_clash_108 : decode cX10_clash 108 = .ok (.goto (-43), 3) := by decide +kernel
theorem dX10_clash_111 : decode cX10_clash 111 = .ok (.iload_n 3, 1) := by decide +kernel
theorem dX10_clash_112 : decode cX10_clash 112 = .ok (.iload 4, 2) := by decide +kernel
theorem dX10_clash_114 : decode cX10_clash 114 = .ok (.if_icmp .eq 5, 3) := by decide +kernel
theorem dX10_clash_117 : decode cX10_clash 117 = .ok (.iconst 0, 1) := by decide +kernel
theorem dX10_clash_118 : decode cX10_clash 118 = .ok (.ireturn, 1) := by decide +kernel
theorem dX10_clash_119 : decode cX10_clash 119 = .ok (.iconst 0, 1) := by decide +kernel
theorem dX10_clash_120 : decode cX10_clash 120 = .ok (.istore 5, 2) := by decide +kernel
theorem dX10_clash_122 : decode cX10_clash 122 = .ok (.iconst 1, 1) := by decide +kernel
theorem dX10_clash_123 : decode cX10_clash 123 = .ok (.istore 6, 2) := by decide +kernel
theorem dX10_clash_125 : decode cX10_clash 125 = .ok (.iload 6, 2) := by decide +kernel
theorem dX10_clash_127 : decode cX10_clash 127 = .ok (.iload_n 2, 1) := by decide +kernel
theorem dX10_clash_128 : decode cX10_clash 128 = .ok (.if_icmp .gt 139, 3) := by decide +kernel
theorem dX10_clash_131 : decode cX10_clash 131 = .ok (.iconst 0, 1) := by decide +kernel
theorem dX10_clash_132 : decode cX10_clash 132 = .ok (.istore 7, 2) := by decide +kernel
theorem dX10_clash_134 : decode cX10_clash 134 = .ok (.iconst 0, 1) := by decide +kernel
theorem dX10_clash_135 : decode cX10_clash 135 = .ok (.istore 8, 2) := by decide +kernel
theorem dX10_clash_137 : decode cX10_clash 137 = .ok (.iload 8, 2) := by decide +kernel
theorem dX10_clash_139 : decode cX10_clash 139 = .ok (.iload_n 2, 1) := by decide +kernel
theorem dX10_clash_140 : decode cX10_clash 140 = .ok (.if_icmp .ge 35, 3) := by decide +kernel
theorem dX10_clash_143 : decode cX10_clash 143 = .ok (.aload_n 0, 1) := by decide +kernel
theorem dX10_clash_144 : decode cX10_clash 144 = .ok (.getfield 38, 3) := by decide +kernel
theorem dX10_clash_147 : decode cX10_clash 147 = .ok (.iload 8, 2) := by decide +kernel
theorem dX10_clash_149 : decode cX10_clash 149 = .ok (.iaload, 1) := by decide +kernel
theorem dX10_clash_150 : decode cX10_clash 150 = .ok (.aload_n 0, 1) := by decide +kernel
theorem dX10_clash_151 : decode cX10_clash 151 = .ok (.getfield 38, 3) := by decide +kernel
theorem dX10_clash_154 : decode cX10_clash 154 = .ok (.iload 7, 2) := by decide +kernel
theorem dX10_clash_156 : decode cX10_clash 156 = .ok (.iaload, 1) := by decide +kernel
theorem dX10_clash_157 : decode cX10_clash 157 = .ok (.if_icmp .le 8, 3) := by decide +kernel
theorem dX10_clash_160 : decode cX10_clash 160 = .ok (.iload 8, 2) := by decide +kernel
theorem dX10_clash_162 : decode cX10_clash 162 = .ok (.goto 5, 3) := by decide +kernel
theorem dX10_clash_165 : decode cX10_clash 165 = .ok (.iload 7, 2) := by decide +kernel
theorem dX10_clash_167 : decode cX10_clash 167 = .ok (.istore 7, 2) := by decide +kernel
theorem dX10_clash_169 : decode cX10_clash 169 = .ok (.iinc 8 1, 3) := by decide +kernel
theorem dX10_clash_172 : decode cX10_clash 172 = .ok (.goto (-35), 3) := by decide +kernel
theorem dX10_clash_175 : decode cX10_clash 175 = .ok (.iload 5, 2) := by decide +kernel
theorem dX10_clash_177 : decode cX10_clash 177 = .ok (.aload_n 0, 1) := by decide +kernel
theorem dX10_clash_178 : decode cX10_clash 178 = .ok (.getfield 38, 3) := by decide +kernel
theorem dX10_clash_181 : decode cX10_clash 181 = .ok (.iload 7, 2) := by decide +kernel
theorem dX10_clash_183 : decode cX10_clash 183 = .ok (.iaload, 1) := by decide +kernel
theorem dX10_clash_184 : decode cX10_clash 184 = .ok (.iadd, 1) := by decide +kernel
theorem dX10_clash_185 : decode cX10_clash 185 = .ok (.istore 5, 2) := by decide +kernel
theorem dX10_clash_187 : decode cX10_clash 187 = .ok (.aload_n 0, 1) := by decide +kernel
theorem dX10_clash_188 : decode cX10_clash 188 = .ok (.getfield 38, 3) := by decide +kernel
theorem dX10_clash_191 : decode cX10_clash 191 = .ok (.iload 7, 2) := by decide +kernel
theorem dX10_clash_193 : decode cX10_clash 193 = .ok (.iconst (-1), 1) := by decide +kernel
theorem dX10_clash_194 : decode cX10_clash 194 = .ok (.iastore, 1) := by decide +kernel
theorem dX10_clash_195 : decode cX10_clash 195 = .ok (.iconst 0, 1) := by decide +kernel
theorem dX10_clash_196 : decode cX10_clash 196 = .ok (.istore 8, 2) := by decide +kernel
theorem dX10_clash_198 : decode cX10_clash 198 = .ok (.iconst 0, 1) := by decide +kernel
theorem dX10_clash_199 : decode cX10_clash 199 = .ok (.istore 9, 2) := by decide +kernel
theorem dX10_clash_201 : decode cX10_clash 201 = .ok (.iload 9, 2) := by decide +kernel
theorem dX10_clash_203 : decode cX10_clash 203 = .ok (.aload_n 0, 1) := by decide +kernel
theorem dX10_clash_204 : decode cX10_clash 204 = .ok (.getfield 16, 3) := by decide +kernel
theorem dX10_clash_207 : decode cX10_clash 207 = .ok (.iload_n 1, 1) := by decide +kernel
theorem dX10_clash_208 : decode cX10_clash 208 = .ok (.iaload, 1) := by decide +kernel
theorem dX10_clash_209 : decode cX10_clash 209 = .ok (.if_icmp .ge 42, 3) := by decide +kernel
theorem dX10_clash_212 : decode cX10_clash 212 = .ok (.aload_n 0, 1) := by decide +kernel
theorem dX10_clash_213 : decode cX10_clash 213 = .ok (.getfield 19, 3) := by decide +kernel
theorem dX10_clash_216 : decode cX10_clash 216 = .ok (.bipush 44, 2) := by decide +kernel
theorem dX10_clash_218 : decode cX10_clash 218 = .ok (.iload_n 1, 1) := by decide +kernel
theorem dX10_clash_219 : decode cX10_clash 219 = .ok (.imul, 1) := by decide +kernel
theorem dX10_clash_220 : decode cX10_clash 220 = .ok (.iload 9, 2) := by decide +kernel
theorem dX10_clash_222 : decode cX10_clash 222 = .ok (.iadd, 1) := by decide +kernel
theorem dX10_clash_223 : decode cX10_clash 223 = .ok (.iaload, 1) := by decide +kernel
theorem dX10_clash_224 : decode cX10_clash 224 = .ok (.istore 10, 2) := by decide +kernel
theorem dX10_clash_226 : decode cX10_clash 226 = .ok (.iload 8, 2) := by decide +kernel
theorem dX10_clash_228 : decode cX10_clash 228 = .ok (.iload 10, 2) := by decide +kernel
theorem dX10_clash_230 : decode cX10_clash 230 = .ok (.iload 6, 2) := by decide +kernel
theorem dX10_clash_232 : decode cX10_clash 232 = .ok (.if_icmp .ge 8, 3) := by decide +kernel
theorem dX10_clash_235 : decode cX10_clash 235 = .ok (.iload 10, 2) := by decide +kernel
theorem dX10_clash_237 : decode cX10_clash 237 = .ok (.goto 5, 3) := by decide +kernel
theorem dX10_clash_240 : decode cX10_clash 240 = .ok (.iload 6, 2) := by decide +kernel
theorem dX10_clash_242 : decode cX10_clash 242 = .ok (.iadd, 1) := by decide +kernel
theorem dX10_clash_243 : decode cX10_clash 243 = .ok (.istore 8, 2) := by decide +kernel
theorem dX10_clash_245 : decode cX10_clash 245 = .ok (.iinc 9 1, 3) := by decide +kernel
theorem dX10_clash_248 : decode cX10_clash 248 = .ok (.goto (-47), 3) := by decide +kernel
theorem dX10_clash_251 : decode cX10_clash 251 = .ok (.iload 5, 2) := by decide +kernel
theorem dX10_clash_253 : decode cX10_clash 253 = .ok (.iload 8, 2) := by decide +kernel
theorem dX10_clash_255 : decode cX10_clash 255 = .ok (.if_icmp .le 6, 3) := by decide +kernel
theorem dX10_clash_258 : decode cX10_clash 258 = .ok (.iload 6, 2) := by decide +kernel
theorem dX10_clash_260 : decode cX10_clash 260 = .ok (.ireturn, 1) := by decide +kernel
theorem dX10_clash_261 : decode cX10_clash 261 = .ok (.iinc 6 1, 3) := by decide +kernel
theorem dX10_clash_264 : decode cX10_clash 264 = .ok (.goto (-139), 3) := by decide +kernel
theorem dX10_clash_267 : decode cX10_clash 267 = .ok (.bipush (-2), 2) := by decide +kernel
theorem dX10_clash_269 : decode cX10_clash 269 = .ok (.ireturn, 1) := by decide +kernel
def chX10_seek : List (List Cond) := [wsX10_seek_r1, wsX10_seek_r2, wsX10_seek_r3, wsX100]
set_option maxRecDepth 20000 in
theorem chX10_seek_in : ∀ c ∈ chX10_seek, ∀ w ∈ c, w ∈ wsX10_seek := (all_c (P := fun c => ∀ w ∈ c, w ∈ wsX10_seek) (fun w h => List.mem_cons_of_mem _ (List.mem_append_left _ (List.mem_append_left _ (h)))) (all_c (P := fun c => ∀ w ∈ c, w ∈ wsX10_seek) (fun w h => List.mem_cons_of_mem _ (List.mem_append_left _ (List.mem_append_right _ (List.mem_append_left _ (h))))) (all_c (P := fun c => ∀ w ∈ c, w ∈ wsX10_seek) (fun w h => List.mem_cons_of_mem _ (List.mem_append_left _ (List.mem_append_right _ (List.mem_append_right _ (h))))) (all_c (P := fun c => ∀ w ∈ c, w ∈ wsX10_seek) (fun w h => List.mem_cons_of_mem _ (List.mem_append_right _ (h))) (fun _ h => nomatch h)))))
set_option maxRecDepth 20000 in
theorem ggX10_seek_X10_isJob : GoodIn wsX10_seek wsX10_isJob := goodIn_ca (goodIn_c chX10_seek chX10_seek_in _ [(0, 12), (0, 13)] (by rfl) (by decide +kernel)) (goodIn_sub (fun _ h => List.mem_cons_of_mem _ (List.mem_append_right _ (h))) (by decide +kernel))
set_option maxRecDepth 20000 in
theorem gX10_seek_X10_isJob : GoodIn wsX10_seek (wsV RX10 96 RX10 yX10_isJob wsX10_isJob) := goodIn_app (goodIn_c chX10_seek chX10_seek_in _ [(0, 8), (0, 9), (0, 10), (0, 11)] (by rfl) (by decide +kernel)) ggX10_seek_X10_isJob
set_option maxRecDepth 20000 in
theorem ggX10_seek_X10_begin : GoodIn wsX10_seek wsX10_begin := goodIn_ca (goodIn_c chX10_seek chX10_seek_in _ [(0, 17), (0, 18), (0, 19), (0, 20), (0, 7)] (by rfl) (by decide +kernel)) (goodIn_sub (fun _ h => List.mem_cons_of_mem _ (List.mem_append_right _ (h))) (by decide +kernel))
set_option maxRecDepth 20000 in
theorem gX10_seek_X10_begin : GoodIn wsX10_seek (wsV RX10 179 RX10 yX10_begin wsX10_begin) := goodIn_app (goodIn_c chX10_seek chX10_seek_in _ [(0, 14), (0, 15), (0, 16), (0, 11)] (by rfl) (by decide +kernel)) ggX10_seek_X10_begin
set_option maxRecDepth 20000 in
theorem ggX10_seek_X10_isNext : GoodIn wsX10_seek wsX10_isNext := goodIn_ca (goodIn_c chX10_seek chX10_seek_in _ [(1, 0), (0, 18), (0, 19), (0, 1), (0, 20), (1, 1), (0, 7), (0, 2), (0, 3), (1, 2), (1, 3), (1, 4), (0, 11), (1, 5), (1, 6), (1, 7), (1, 8), (1, 9), (1, 10), (1, 11), (1, 12), (1, 13), (1, 14), (1, 15), (1, 16), (1, 17), (1, 18), (1, 19), (1, 20), (1, 21), (1, 22), (1, 23), (2, 0), (2, 1), (2, 2), (2, 3), (2, 4), (2, 5), (2, 6), (2, 7), (2, 8), (0, 0), (2, 9), (2, 10), (2, 11), (2, 12), (2, 13), (2, 14), (2, 15), (2, 16)] (by rfl) (by decide +kernel)) (goodIn_sub (fun _ h => List.mem_cons_of_mem _ (List.mem_append_right _ (h))) (by decide +kernel))
set_option maxRecDepth 20000 in
theorem gX10_seek_X10_isNext : GoodIn wsX10_seek (wsV RX10 182 RX10 yX10_isNext wsX10_isNext) := goodIn_app (goodIn_c chX10_seek chX10_seek_in _ [(0, 21), (0, 22), (0, 23), (0, 11)] (by rfl) (by decide +kernel)) ggX10_seek_X10_isNext
set_option maxRecDepth 20000 in
theorem ggX10_seek_X10_one : GoodIn wsX10_seek wsX10_one := goodIn_r _ [44] (by decide +kernel) (by decide +kernel)
set_option maxRecDepth 20000 in
theorem gX10_seek_X10_one : GoodIn wsX10_seek (va_wsS RX10 104 yX10_one wsX10_one) := goodIn_app (goodIn_c chX10_seek chX10_seek_in _ [(1, 17), (1, 18), (0, 11)] (by rfl) (by decide +kernel)) ggX10_seek_X10_one
theorem dX10_seek_0 : decode cX10_seek 0 = .ok (.aload_n 0, 1) := by decide +kernel
theorem dX10_seek_1 : decode cX10_seek 1 = .ok (.iload_n 1, 1) := by decide +kernel
theorem dX10_seek_2 : decode cX10_seek 2 = .ok (.invokevirtual 96, 3) := by decide +kernel
theorem dX10_seek_5 : decode cX10_seek 5 = .ok (.ifCond .eq 13, 3) := by decide +kernel
theorem dX10_seek_8 : decode cX10_seek 8 = .ok (.aload_n 0, 1) := by decide +kernel
theorem dX10_seek_9 : decode cX10_seek 9 = .ok (.getfield 7, 3) := by decide +kernel
theorem dX10_seek_12 : decode cX10_seek 12 = .ok (.iload_n 1, 1) := by decide +kernel
theorem dX10_seek_13 : decode cX10_seek 13 = .ok (.iaload, 1) := by decide +kernel
theorem dX10_seek_14 : decode cX10_seek 14 = .ok (.iconst 3, 1) := by decide +kernel
theorem dX10_seek_15 : decode cX10_seek 15 = .ok (.if_icmp .eq 5, 3) := by decide +kernel
theorem dX10_seek_18 : decode cX10_seek 18 = .ok (.iconst 1, 1) := by decide +kernel
theorem dX10_seek_19 : decode cX10_seek 19 = .ok (.ireturn, 1) := by decide +kernel
theorem dX10_seek_20 : decode cX10_seek 20 = .ok (.aload_n 0, 1) := by decide +kernel
theorem dX10_seek_21 : decode cX10_seek 21 = .ok (.invokevirtual 179, 3) := by decide +kernel
theorem dX10_seek_24 : decode cX10_seek 24 = .ok (.iconst 0, 1) := by decide +kernel
theorem dX10_seek_25 : decode cX10_seek 25 = .ok (.istore_n 2, 1) := by decide +kernel
theorem dX10_seek_26 : decode cX10_seek 26 = .ok (.aload_n 0, 1) := by decide +kernel
theorem dX10_seek_27 : decode cX10_seek 27 = .ok (.iload_n 1, 1) := by decide +kernel
theorem dX10_seek_28 : decode cX10_seek 28 = .ok (.invokevirtual 182, 3) := by decide +kernel
theorem dX10_seek_31 : decode cX10_seek 31 = .ok (.ifCond .eq 87, 3) := by decide +kernel
theorem dX10_seek_34 : decode cX10_seek 34 = .ok (.iconst 0, 1) := by decide +kernel
theorem dX10_seek_35 : decode cX10_seek 35 = .ok (.istore_n 3, 1) := by decide +kernel
theorem dX10_seek_36 : decode cX10_seek 36 = .ok (.iconst 0, 1) := by decide +kernel
theorem dX10_seek_37 : decode cX10_seek 37 = .ok (.istore 4, 2) := by decide +kernel
theorem dX10_seek_39 : decode cX10_seek 39 = .ok (.iload 4, 2) := by decide +kernel
theorem dX10_seek_41 : decode cX10_seek 41 = .ok (.aload_n 0, 1) := by decide +kernel
theorem dX10_seek_42 : decode cX10_seek 42 = .ok (.getfield 13, 3) := by decide +kernel
theorem dX10_seek_45 : decode cX10_seek 45 = .ok (.iload_n 1, 1) := by decide +kernel
theorem dX10_seek_46 : decode cX10_seek 46 = .ok (.iaload, 1) := by decide +kernel
theorem dX10_seek_47 : decode cX10_seek 47 = .ok (.aload_n 0, 1) := by decide +kernel
theorem dX10_seek_48 : decode cX10_seek 48 = .ok (.getfield 16, 3) := by decide +kernel
theorem dX10_seek_51 : decode cX10_seek 51 = .ok (.iload_n 1, 1) := by decide +kernel
theorem dX10_seek_52 : decode cX10_seek 52 = .ok (.iaload, 1) := by decide +kernel
theorem dX10_seek_53 : decode cX10_seek 53 = .ok (.imul, 1) := by decide +kernel
theorem dX10_seek_54 : decode cX10_seek 54 = .ok (.if_icmp .ge 34, 3) := by decide +kernel
theorem dX10_seek_57 : decode cX10_seek 57 = .ok (.iload_n 3, 1) := by decide +kernel
theorem dX10_seek_58 : decode cX10_seek 58 = .ok (.aload_n 0, 1) := by decide +kernel
theorem dX10_seek_59 : decode cX10_seek 59 = .ok (.getfield 175, 3) := by decide +kernel
theorem dX10_seek_62 : decode cX10_seek 62 = .ok (.iload 4, 2) := by decide +kernel
theorem dX10_seek_64 : decode cX10_seek 64 = .ok (.invokestatic 104, 3) := by decide +kernel
theorem dX10_seek_67 : decode cX10_seek 67 = .ok (.aload_n 0, 1) := by decide +kernel
theorem dX10_seek_68 : decode cX10_seek 68 = .ok (.getfield 29, 3) := by decide +kernel
theorem dX10_seek_71 : decode cX10_seek 71 = .ok (.bipush 36, 2) := by decide +kernel
theorem dX10_seek_73 : decode cX10_seek 73 = .ok (.iload_n 1, 1) := by decide +kernel
theorem dX10_seek_74 : decode cX10_seek 74 = .ok (.imul, 1) := by decide +kernel
theorem dX10_seek_75 : decode cX10_seek 75 = .ok (.iload 4, 2) := by decide +kernel
theorem dX10_seek_77 : decode cX10_seek 77 = .ok (.iadd, 1) := by decide +kernel
theorem dX10_seek_78 : decode cX10_seek 78 = .ok (.iaload, 1) := by decide +kernel
theorem dX10_seek_79 : decode cX10_seek 79 = .ok (.imul, 1) := by decide +kernel
theorem dX10_seek_80 : decode cX10_seek 80 = .ok (.iadd, 1) := by decide +kernel
theorem dX10_seek_81 : decode cX10_seek 81 = .ok (.istore_n 3, 1) := by decide +kernel
theorem dX10_seek_82 : decode cX10_seek 82 = .ok (.iinc 4 1, 3) := by decide +kernel
theorem dX10_seek_85 : decode cX10_seek 85 = .ok (.goto (-46), 3) := by decide +kernel
theorem dX10_seek_88 : decode cX10_seek 88 = .ok (.iload_n 2, 1) := by decide +kernel
theorem dX10_seek_89 : decode cX10_seek 89 = .ok (.ifCond .eq 11, 3) := by decide +kernel
theorem dX10_seek_92 : decode cX10_seek 92 = .ok (.iload_n 3, 1) := by decide +kernel
theorem dX10_seek_93 : decode cX10_seek 93 = .ok (.aload_n 0, 1) := by decide +kernel
theorem dX10_seek_94 : decode cX10_seek 94 = .ok (.getfield 191, 3) := by decide +kernel
theorem dX10_seek_97 : decode cX10_seek 97 = .ok (.if_icmp .le 16, 3) := by decide +kernel
theorem dX10_seek_100 : decode cX10_seek 100 = .ok (.aload_n 0, 1) := by decide +kernel
theorem dX10_seek_101 : decode cX10_seek 101 = .ok (.iload_n 3, 1) := by decide +kernel
theorem dX10_seek_102 : decode cX10_seek 102 = .ok (.putfield 191, 3) := by decide +kernel
theorem dX10_seek_105 : decode cX10_seek 105 = .ok (.aload_n 0, 1) := by decide +kernel
theorem dX10_seek_106 : decode cX10_seek 106 = .ok (.aload_n 0, 1) := by decide +kernel
theorem dX10_seek_107 : decode cX10_seek 107 = .ok (.getfield 175, 3) := by decide +kernel
theorem dX10_seek_110 : decode cX10_seek 110 = .ok (.putfield 194, 3) := by decide +kernel
theorem dX10_seek_113 : decode cX10_seek 113 = .ok (.iconst 1, 1) := by decide +kernel
theorem dX10_seek_114 : decode cX10_seek 114 = .ok (.istore_n 2, 1) := by decide +kernel
theorem dX10_seek_115 : decode cX10_seek 115 = .ok (.goto (-89), 3) := by decide +kernel
theorem dX10_seek_118 : decode cX10_seek 118 = .ok (.aload_n 0, 1) := by decide +kernel
theorem dX10_seek_119 : decode cX10_seek 119 = .ok (.getfield 163, 3) := by decide +kernel
theorem dX10_seek_122 : decode cX10_seek 122 = .ok (.ifCond .ne 7, 3) := by decide +kernel
theorem dX10_seek_125 : decode cX10_seek 125 = .ok (.iload_n 2, 1) := by decide +kernel
theorem dX10_seek_126 : decode cX10_seek 126 = .ok (.ifCond .ne 7, 3) := by decide +kernel
theorem dX10_seek_129 : decode cX10_seek 129 = .ok (.iconst 2, 1) := by decide +kernel
theorem dX10_seek_130 : decode cX10_seek 130 = .ok (.goto 4, 3) := by decide +kernel
theorem dX10_seek_133 : decode cX10_seek 133 = .ok (.iconst 0, 1) := by decide +kernel
theorem dX10_seek_134 : decode cX10_seek 134 = .ok (.ireturn, 1) := by decide +kernel
def chX10_best : List (List Cond) := [wsX10_best_r1, wsX10_best_r2, wsX10_best_r3, wsX100]
set_option maxRecDepth 20000 in
theorem chX10_best_in : ∀ c ∈ chX10_best, ∀ w ∈ c, w ∈ wsX10_best := (all_c (P := fun c => ∀ w ∈ c, w ∈ wsX10_best) (fun w h => List.mem_cons_of_mem _ (List.mem_append_left _ (List.mem_append_left _ (h)))) (all_c (P := fun c => ∀ w ∈ c, w ∈ wsX10_best) (fun w h => List.mem_cons_of_mem _ (List.mem_append_left _ (List.mem_append_right _ (List.mem_append_left _ (h))))) (all_c (P := fun c => ∀ w ∈ c, w ∈ wsX10_best) (fun w h => List.mem_cons_of_mem _ (List.mem_append_left _ (List.mem_append_right _ (List.mem_append_right _ (h))))) (all_c (P := fun c => ∀ w ∈ c, w ∈ wsX10_best) (fun w h => List.mem_cons_of_mem _ (List.mem_append_right _ (h))) (fun _ h => nomatch h)))))
set_option maxRecDepth 20000 in
theorem ggX10_best_X10_seek : GoodIn wsX10_best wsX10_seek := goodIn_ca (goodIn_c chX10_best chX10_best_in _ [(0, 6), (0, 7), (0, 8), (0, 9), (0, 10), (0, 11), (0, 1), (0, 12), (0, 13), (0, 14), (0, 15), (0, 16), (0, 5), (0, 17), (0, 18), (0, 19), (0, 20), (0, 21), (0, 22), (0, 23), (1, 0), (1, 1), (1, 2), (1, 3), (1, 4), (1, 5), (1, 6), (1, 7), (1, 8), (1, 9), (1, 10), (1, 11), (1, 12), (1, 13), (1, 14), (1, 15), (1, 16), (1, 17), (1, 18), (1, 19), (1, 20), (1, 21), (1, 22), (1, 23), (2, 0), (2, 1), (2, 2), (2, 3), (2, 4), (2, 5), (2, 6), (2, 7), (2, 8), (2, 9), (2, 10), (2, 11), (2, 12), (2, 13), (2, 14), (2, 15), (2, 16), (2, 17), (2, 18), (2, 19), (2, 20), (2, 21)] (by rfl) (by decide +kernel)) (goodIn_sub (fun _ h => List.mem_cons_of_mem _ (List.mem_append_right _ (h))) (by decide +kernel))
set_option maxRecDepth 20000 in
theorem gX10_best_X10_seek : GoodIn wsX10_best (wsV RX10 197 RX10 yX10_seek wsX10_seek) := goodIn_app (goodIn_c chX10_best chX10_best_in _ [(0, 2), (0, 3), (0, 4), (0, 5)] (by rfl) (by decide +kernel)) ggX10_best_X10_seek
theorem dX10_best_0 : decode cX10_best 0 = .ok (.aload_n 0, 1) := by decide +kernel
theorem dX10_best_1 : decode cX10_best 1 = .ok (.aload_n 0, 1) := by decide +kernel
theorem dX10_best_2 : decode cX10_best 2 = .ok (.iload_n 1, 1) := by decide +kernel
theorem dX10_best_3 : decode cX10_best 3 = .ok (.invokevirtual 197, 3) := by decide +kernel
theorem dX10_best_6 : decode cX10_best 6 = .ok (.putfield 79, 3) := by decide +kernel
theorem dX10_best_9 : decode cX10_best 9 = .ok (.aload_n 0, 1) := by decide +kernel
theorem dX10_best_10 : decode cX10_best 10 = .ok (.getfield 79, 3) := by decide +kernel
theorem dX10_best_13 : decode cX10_best 13 = .ok (.ifCond .le 7, 3) := by decide +kernel
theorem dX10_best_16 : decode cX10_best 16 = .ok (.iconst 0, 1) := by decide +kernel
theorem dX10_best_17 : decode cX10_best 17 = .ok (.goto 7, 3) := by decide +kernel
theorem dX10_best_20 : decode cX10_best 20 = .ok (.aload_n 0, 1) := by decide +kernel
theorem dX10_best_21 : decode cX10_best 21 = .ok (.getfield 191, 3) := by decide +kernel
theorem dX10_best_24 : decode cX10_best 24 = .ok (.ireturn, 1) := by decide +kernel
def chX10_bestOne : List (List Cond) := [wsX10_bestOne_r1, wsX10_bestOne_r2, wsX10_bestOne_r3, wsX100]
set_option maxRecDepth 20000 in
theorem chX10_bestOne_in : ∀ c ∈ chX10_bestOne, ∀ w ∈ c, w ∈ wsX10_bestOne := (all_c (P := fun c => ∀ w ∈ c, w ∈ wsX10_bestOne) (fun w h => List.mem_cons_of_mem _ (List.mem_append_left _ (List.mem_append_left _ (h)))) (all_c (P := fun c => ∀ w ∈ c, w ∈ wsX10_bestOne) (fun w h => List.mem_cons_of_mem _ (List.mem_append_left _ (List.mem_append_right _ (List.mem_append_left _ (h))))) (all_c (P := fun c => ∀ w ∈ c, w ∈ wsX10_bestOne) (fun w h => List.mem_cons_of_mem _ (List.mem_append_left _ (List.mem_append_right _ (List.mem_append_right _ (h))))) (all_c (P := fun c => ∀ w ∈ c, w ∈ wsX10_bestOne) (fun w h => List.mem_cons_of_mem _ (List.mem_append_right _ (h))) (fun _ h => nomatch h)))))
set_option maxRecDepth 20000 in
theorem ggX10_bestOne_X10_seek : GoodIn wsX10_bestOne wsX10_seek := goodIn_ca (goodIn_c chX10_bestOne chX10_bestOne_in _ [(0, 6), (0, 7), (0, 8), (0, 9), (0, 10), (0, 11), (0, 12), (0, 1), (0, 13), (0, 14), (0, 15), (0, 16), (0, 5), (0, 17), (0, 18), (0, 19), (0, 20), (0, 21), (0, 22), (0, 23), (1, 0), (1, 1), (1, 2), (1, 3), (1, 4), (1, 5), (1, 6), (1, 7), (1, 8), (1, 9), (1, 10), (1, 11), (1, 12), (1, 13), (1, 14), (1, 15), (1, 16), (1, 17), (1, 18), (1, 19), (1, 20), (1, 21), (1, 22), (1, 23), (2, 0), (2, 1), (2, 2), (2, 3), (2, 4), (2, 5), (2, 6), (2, 7), (2, 8), (2, 9), (2, 10), (2, 11), (2, 12), (2, 13), (2, 14), (2, 15), (2, 16), (2, 17), (2, 18), (2, 19), (2, 20), (2, 21)] (by rfl) (by decide +kernel)) (goodIn_sub (fun _ h => List.mem_cons_of_mem _ (List.mem_append_right _ (h))) (by decide +kernel))
set_option maxRecDepth 20000 in
theorem gX10_bestOne_X10_seek : GoodIn wsX10_bestOne (wsV RX10 197 RX10 yX10_seek wsX10_seek) := goodIn_app (goodIn_c chX10_bestOne chX10_bestOne_in _ [(0, 2), (0, 3), (0, 4), (0, 5)] (by rfl) (by decide +kernel)) ggX10_bestOne_X10_seek
theorem dX10_bestOne_0 : decode cX10_bestOne 0 = .ok (.aload_n 0, 1) := by decide +kernel
theorem dX10_bestOne_1 : decode cX10_bestOne 1 = .ok (.aload_n 0, 1) := by decide +kernel
theorem dX10_bestOne_2 : decode cX10_bestOne 2 = .ok (.iload_n 1, 1) := by decide +kernel
theorem dX10_bestOne_3 : decode cX10_bestOne 3 = .ok (.invokevirtual 197, 3) := by decide +kernel
theorem dX10_bestOne_6 : decode cX10_bestOne 6 = .ok (.putfield 79, 3) := by decide +kernel
theorem dX10_bestOne_9 : decode cX10_bestOne 9 = .ok (.aload_n 0, 1) := by decide +kernel
theorem dX10_bestOne_10 : decode cX10_bestOne 10 = .ok (.getfield 79, 3) := by decide +kernel
theorem dX10_bestOne_13 : decode cX10_bestOne 13 = .ok (.ifCond .le 7, 3) := by decide +kernel
theorem dX10_bestOne_16 : decode cX10_bestOne 16 = .ok (.lconst 0, 1) := by decide +kernel
theorem dX10_bestOne_17 : decode cX10_bestOne 17 = .ok (.goto 7, 3) := by decide +kernel
theorem dX10_bestOne_20 : decode cX10_bestOne 20 = .ok (.aload_n 0, 1) := by decide +kernel
theorem dX10_bestOne_21 : decode cX10_bestOne 21 = .ok (.getfield 194, 3) := by decide +kernel
theorem dX10_bestOne_24 : decode cX10_bestOne 24 = .ok (.lreturn, 1) := by decide +kernel
set_option maxRecDepth 20000 in
theorem ggX10_goSwitches_X10_one : GoodIn wsX10_goSwitches wsX10_one := goodIn_r _ [5] (by decide +kernel) (by decide +kernel)
def chX10_goSwitches : List (List Cond) := [[.fieldLink RX10 201 "ShadowBenchModel" "behind" "J", .methodLink RX10 104 yX10_one, .static yX10_one, .initialized RX10, .code yX10_one cX10_one 3 (some .int)], wsX100]
set_option maxRecDepth 20000 in
theorem chX10_goSwitches_in : ∀ c ∈ chX10_goSwitches, ∀ w ∈ c, w ∈ wsX10_goSwitches := (all_c (P := fun c => ∀ w ∈ c, w ∈ wsX10_goSwitches) (fun w h => List.mem_cons_of_mem _ (List.mem_append_left _ (h))) (all_c (P := fun c => ∀ w ∈ c, w ∈ wsX10_goSwitches) (fun w h => List.mem_cons_of_mem _ (List.mem_append_right _ (h))) (fun _ h => nomatch h)))
set_option maxRecDepth 20000 in
theorem gX10_goSwitches_X10_one : GoodIn wsX10_goSwitches (va_wsS RX10 104 yX10_one wsX10_one) := goodIn_app (goodIn_c chX10_goSwitches chX10_goSwitches_in _ [(0, 1), (0, 2), (0, 3)] (by rfl) (by decide +kernel)) ggX10_goSwitches_X10_one
theorem dX10_goSwitches_0 : decode cX10_goSwitches 0 = .ok (.iconst 0, 1) := by decide +kernel
theorem dX10_goSwitches_1 : decode cX10_goSwitches 1 = .ok (.istore 6, 2) := by decide +kernel
theorem dX10_goSwitches_3 : decode cX10_goSwitches 3 = .ok (.iconst 0, 1) := by decide +kernel
theorem dX10_goSwitches_4 : decode cX10_goSwitches 4 = .ok (.istore 7, 2) := by decide +kernel
theorem dX10_goSwitches_6 : decode cX10_goSwitches 6 = .ok (.iload 7, 2) := by decide +kernel
theorem dX10_goSwitches_8 : decode cX10_goSwitches 8 = .ok (.iload_n 2, 1) := by decide +kernel
theorem dX10_goSwitches_9 : decode cX10_goSwitches 9 = .ok (.if_icmp .ge 195, 3) := by decide +kernel
theorem dX10_goSwitches_12 : decode cX10_goSwitches 12 = .ok (.iload 7, 2) := by decide +kernel
theorem dX10_goSwitches_14 : decode cX10_goSwitches 14 = .ok (.iconst 1, 1) := by decide +kernel
theorem dX10_goSwitches_15 : decode cX10_goSwitches 15 = .ok (.iadd, 1) := by decide +kernel
theorem dX10_goSwitches_16 : decode cX10_goSwitches 16 = .ok (.istore 8, 2) := by decide +kernel
theorem dX10_goSwitches_18 : decode cX10_goSwitches 18 = .ok (.iload 8, 2) := by decide +kernel
theorem dX10_goSwitches_20 : decode cX10_goSwitches 20 = .ok (.iload_n 2, 1) := by decide +kernel
theorem dX10_goSwitches_21 : decode cX10_goSwitches 21 = .ok (.if_icmp .ge 177, 3) := by decide +kernel
theorem dX10_goSwitches_24 : decode cX10_goSwitches 24 = .ok (.iconst 0, 1) := by decide +kernel
theorem dX10_goSwitches_25 : decode cX10_goSwitches 25 = .ok (.istore 9, 2) := by decide +kernel
theorem dX10_goSwitches_27 : decode cX10_goSwitches 27 = .ok (.iload 9, 2) := by decide +kernel
theorem dX10_goSwitches_29 : decode cX10_goSwitches 29 = .ok (.iload_n 1, 1) := by decide +kernel
theorem dX10_goSwitches_30 : decode cX10_goSwitches 30 = .ok (.if_icmp .ge 162, 3) := by decide +kernel
theorem dX10_goSwitches_33 : decode cX10_goSwitches 33 = .ok (.iload 9, 2) := by decide +kernel
