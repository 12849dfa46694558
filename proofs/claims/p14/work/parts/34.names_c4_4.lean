theorem dX9_sumsOf_26 : decode cX9_sumsOf 26 = .ok (.iconst 0, 1) := by decide +kernel
theorem dX9_sumsOf_27 : decode cX9_sumsOf 27 = .ok (.istore_n 3, 1) := by decide +kernel
theorem dX9_sumsOf_28 : decode cX9_sumsOf 28 = .ok (.iload_n 3, 1) := by decide +kernel
theorem dX9_sumsOf_29 : decode cX9_sumsOf 29 = .ok (.iload_n 1, 1) := by decide +kernel
theorem dX9_sumsOf_30 : decode cX9_sumsOf 30 = .ok (.if_icmp .ge 21, 3) := by decide +kernel
theorem dX9_sumsOf_33 : decode cX9_sumsOf 33 = .ok (.aload_n 2, 1) := by decide +kernel
theorem dX9_sumsOf_34 : decode cX9_sumsOf 34 = .ok (.iload_n 3, 1) := by decide +kernel
theorem dX9_sumsOf_35 : decode cX9_sumsOf 35 = .ok (.aload_n 0, 1) := by decide +kernel
theorem dX9_sumsOf_36 : decode cX9_sumsOf 36 = .ok (.iconst 0, 1) := by decide +kernel
theorem dX9_sumsOf_37 : decode cX9_sumsOf 37 = .ok (.iload_n 3, 1) := by decide +kernel
theorem dX9_sumsOf_38 : decode cX9_sumsOf 38 = .ok (.invokevirtual 120, 3) := by decide +kernel
theorem dX9_sumsOf_41 : decode cX9_sumsOf 41 = .ok (.i2l, 1) := by decide +kernel
theorem dX9_sumsOf_42 : decode cX9_sumsOf 42 = .ok (.invokevirtual 336, 3) := by decide +kernel
theorem dX9_sumsOf_45 : decode cX9_sumsOf 45 = .ok (.iinc 3 1, 3) := by decide +kernel
theorem dX9_sumsOf_48 : decode cX9_sumsOf 48 = .ok (.goto (-20), 3) := by decide +kernel
theorem dX9_sumsOf_51 : decode cX9_sumsOf 51 = .ok (.iconst 0, 1) := by decide +kernel
theorem dX9_sumsOf_52 : decode cX9_sumsOf 52 = .ok (.istore_n 3, 1) := by decide +kernel
theorem dX9_sumsOf_53 : decode cX9_sumsOf 53 = .ok (.iload_n 3, 1) := by decide +kernel
theorem dX9_sumsOf_54 : decode cX9_sumsOf 54 = .ok (.aload_n 0, 1) := by decide +kernel
theorem dX9_sumsOf_55 : decode cX9_sumsOf 55 = .ok (.getfield 65, 3) := by decide +kernel
theorem dX9_sumsOf_58 : decode cX9_sumsOf 58 = .ok (.getfield 156, 3) := by decide +kernel
theorem dX9_sumsOf_61 : decode cX9_sumsOf 61 = .ok (.if_icmp .ge 23, 3) := by decide +kernel
theorem dX9_sumsOf_64 : decode cX9_sumsOf 64 = .ok (.aload_n 2, 1) := by decide +kernel
theorem dX9_sumsOf_65 : decode cX9_sumsOf 65 = .ok (.iload_n 1, 1) := by decide +kernel
theorem dX9_sumsOf_66 : decode cX9_sumsOf 66 = .ok (.iload_n 3, 1) := by decide +kernel
theorem dX9_sumsOf_67 : decode cX9_sumsOf 67 = .ok (.iadd, 1) := by decide +kernel
theorem dX9_sumsOf_68 : decode cX9_sumsOf 68 = .ok (.aload_n 0, 1) := by decide +kernel
theorem dX9_sumsOf_69 : decode cX9_sumsOf 69 = .ok (.iconst 1, 1) := by decide +kernel
theorem dX9_sumsOf_70 : decode cX9_sumsOf 70 = .ok (.iload_n 3, 1) := by decide +kernel
theorem dX9_sumsOf_71 : decode cX9_sumsOf 71 = .ok (.invokevirtual 120, 3) := by decide +kernel
theorem dX9_sumsOf_74 : decode cX9_sumsOf 74 = .ok (.i2l, 1) := by decide +kernel
theorem dX9_sumsOf_75 : decode cX9_sumsOf 75 = .ok (.invokevirtual 336, 3) := by decide +kernel
theorem dX9_sumsOf_78 : decode cX9_sumsOf 78 = .ok (.iinc 3 1, 3) := by decide +kernel
theorem dX9_sumsOf_81 : decode cX9_sumsOf 81 = .ok (.goto (-28), 3) := by decide +kernel
theorem dX9_sumsOf_84 : decode cX9_sumsOf 84 = .ok (.aload_n 2, 1) := by decide +kernel
theorem dX9_sumsOf_85 : decode cX9_sumsOf 85 = .ok (.areturn, 1) := by decide +kernel
set_option maxRecDepth 20000 in
theorem ggX9_layerOf_X7_size : GoodIn wsX9_layerOf wsX7_size := goodIn_r _ [8, 9, 18, 19] (by decide +kernel) (by decide +kernel)
def chX9_layerOf : List (List Cond) := [[.constantLong RX9 342 (9), .constantLong RX9 151 (-2), .constantLong RX9 344 (-13), .methodLink RX9 339 yX7_size, .instanceMethod yX7_size, .selects RX7 yX7_size yX7_size, .initialized RX7, .code yX7_size cX7_size 1 (some .int), .fieldLink RX7 13 "ShadowBench$Row" "numbers" "[J", .methodLink RX9 255 yX7_numberAt, .instanceMethod yX7_numberAt, .selects RX7 yX7_numberAt yX7_numberAt, .code yX7_numberAt cX7_numberAt 2 (some .long), .methodLink RX7 17 yX7_has, .instanceMethod yX7_has, .selects RX7 yX7_has yX7_has, .code yX7_has cX7_has 3 (some .boolean)], wsX70]
set_option maxRecDepth 20000 in
theorem chX9_layerOf_in : ∀ c ∈ chX9_layerOf, ∀ w ∈ c, w ∈ wsX9_layerOf := (all_c (P := fun c => ∀ w ∈ c, w ∈ wsX9_layerOf) (fun w h => List.mem_cons_of_mem _ (List.mem_append_left _ (h))) (all_c (P := fun c => ∀ w ∈ c, w ∈ wsX9_layerOf) (fun w h => List.mem_cons_of_mem _ (List.mem_append_right _ (h))) (fun _ h => nomatch h)))
set_option maxRecDepth 20000 in
theorem gX9_layerOf_X7_size : GoodIn wsX9_layerOf (wsV RX9 339 RX7 yX7_size wsX7_size) := goodIn_app (goodIn_c chX9_layerOf chX9_layerOf_in _ [(0, 3), (0, 4), (0, 5), (0, 6)] (by rfl) (by decide +kernel)) ggX9_layerOf_X7_size
set_option maxRecDepth 20000 in
theorem ggX9_layerOf_X7_numberAt : GoodIn wsX9_layerOf wsX7_numberAt := goodIn_ca (goodIn_c chX9_layerOf chX9_layerOf_in _ [(0, 12), (0, 8), (0, 13), (0, 14), (0, 15), (0, 6), (0, 16)] (by rfl) (by decide +kernel)) (goodIn_sub (fun _ h => List.mem_cons_of_mem _ (List.mem_append_right _ (h))) (by decide +kernel))
set_option maxRecDepth 20000 in
theorem gX9_layerOf_X7_numberAt : GoodIn wsX9_layerOf (wsV RX9 255 RX7 yX7_numberAt wsX7_numberAt) := goodIn_app (goodIn_c chX9_layerOf chX9_layerOf_in _ [(0, 9), (0, 10), (0, 11), (0, 6)] (by rfl) (by decide +kernel)) ggX9_layerOf_X7_numberAt
theorem dX9_layerOf_0 : decode cX9_layerOf 0 = .ok (.lconst 0, 1) := by decide +kernel
theorem dX9_layerOf_1 : decode cX9_layerOf 1 = .ok (.lstore_n 2, 1) := by decide +kernel
theorem dX9_layerOf_2 : decode cX9_layerOf 2 = .ok (.iconst 0, 1) := by decide +kernel
theorem dX9_layerOf_3 : decode cX9_layerOf 3 = .ok (.istore 4, 2) := by decide +kernel
theorem dX9_layerOf_5 : decode cX9_layerOf 5 = .ok (.iload 4, 2) := by decide +kernel
theorem dX9_layerOf_7 : decode cX9_layerOf 7 = .ok (.aload_n 0, 1) := by decide +kernel
theorem dX9_layerOf_8 : decode cX9_layerOf 8 = .ok (.invokevirtual 339, 3) := by decide +kernel
theorem dX9_layerOf_11 : decode cX9_layerOf 11 = .ok (.if_icmp .ge 52, 3) := by decide +kernel
theorem dX9_layerOf_14 : decode cX9_layerOf 14 = .ok (.aload_n 0, 1) := by decide +kernel
theorem dX9_layerOf_15 : decode cX9_layerOf 15 = .ok (.iload 4, 2) := by decide +kernel
theorem dX9_layerOf_17 : decode cX9_layerOf 17 = .ok (.invokevirtual 255, 3) := by decide +kernel
theorem dX9_layerOf_20 : decode cX9_layerOf 20 = .ok (.lstore 5, 2) := by decide +kernel
theorem dX9_layerOf_22 : decode cX9_layerOf 22 = .ok (.lload 5, 2) := by decide +kernel
theorem dX9_layerOf_24 : decode cX9_layerOf 24 = .ok (.lconst 0, 1) := by decide +kernel
theorem dX9_layerOf_25 : decode cX9_layerOf 25 = .ok (.lcmp, 1) := by decide +kernel
theorem dX9_layerOf_26 : decode cX9_layerOf 26 = .ok (.ifCond .lt 12, 3) := by decide +kernel
theorem dX9_layerOf_29 : decode cX9_layerOf 29 = .ok (.lload 5, 2) := by decide +kernel
theorem dX9_layerOf_31 : decode cX9_layerOf 31 = .ok (.ldc2_w 342, 3) := by decide +kernel
theorem dX9_layerOf_34 : decode cX9_layerOf 34 = .ok (.lcmp, 1) := by decide +kernel
theorem dX9_layerOf_35 : decode cX9_layerOf 35 = .ok (.ifCond .le 7, 3) := by decide +kernel
theorem dX9_layerOf_38 : decode cX9_layerOf 38 = .ok (.ldc2_w 151, 3) := by decide +kernel
theorem dX9_layerOf_41 : decode cX9_layerOf 41 = .ok (.lreturn, 1) := by decide +kernel
theorem dX9_layerOf_42 : decode cX9_layerOf 42 = .ok (.lload 5, 2) := by decide +kernel
theorem dX9_layerOf_44 : decode cX9_layerOf 44 = .ok (.iload_n 1, 1) := by decide +kernel
theorem dX9_layerOf_45 : decode cX9_layerOf 45 = .ok (.i2l, 1) := by decide +kernel
theorem dX9_layerOf_46 : decode cX9_layerOf 46 = .ok (.lcmp, 1) := by decide +kernel
theorem dX9_layerOf_47 : decode cX9_layerOf 47 = .ok (.ifCond .le 10, 3) := by decide +kernel
theorem dX9_layerOf_50 : decode cX9_layerOf 50 = .ok (.lload_n 2, 1) := by decide +kernel
theorem dX9_layerOf_51 : decode cX9_layerOf 51 = .ok (.lconst 1, 1) := by decide +kernel
theorem dX9_layerOf_52 : decode cX9_layerOf 52 = .ok (.iload 4, 2) := by decide +kernel
theorem dX9_layerOf_54 : decode cX9_layerOf 54 = .ok (.lshl, 1) := by decide +kernel
theorem dX9_layerOf_55 : decode cX9_layerOf 55 = .ok (.lor, 1) := by decide +kernel
theorem dX9_layerOf_56 : decode cX9_layerOf 56 = .ok (.lstore_n 2, 1) := by decide +kernel
theorem dX9_layerOf_57 : decode cX9_layerOf 57 = .ok (.iinc 4 1, 3) := by decide +kernel
theorem dX9_layerOf_60 : decode cX9_layerOf 60 = .ok (.goto (-55), 3) := by decide +kernel
theorem dX9_layerOf_63 : decode cX9_layerOf 63 = .ok (.aload_n 0, 1) := by decide +kernel
theorem dX9_layerOf_64 : decode cX9_layerOf 64 = .ok (.invokevirtual 339, 3) := by decide +kernel
theorem dX9_layerOf_67 : decode cX9_layerOf 67 = .ok (.bipush 36, 2) := by decide +kernel
theorem dX9_layerOf_69 : decode cX9_layerOf 69 = .ok (.if_icmp .le 9, 3) := by decide +kernel
theorem dX9_layerOf_72 : decode cX9_layerOf 72 = .ok (.ldc2_w 344, 3) := by decide +kernel
theorem dX9_layerOf_75 : decode cX9_layerOf 75 = .ok (.goto 4, 3) := by decide +kernel
theorem dX9_layerOf_78 : decode cX9_layerOf 78 = .ok (.lload_n 2, 1) := by decide +kernel
theorem dX9_layerOf_79 : decode cX9_layerOf 79 = .ok (.lreturn, 1) := by decide +kernel
